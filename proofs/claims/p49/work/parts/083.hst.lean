/-! the history, the law's deeds and its digest as functions of the state -/
def HI (od ct : Nat) (π : Nat → NS) (ν : NS) : Prop := od < 5 ∧ ct ≤ 4 ∧ PI ν ∧ ∀ k : Nat, PI (π k)
abbrev HS : Type := Nat × Nat × (Nat → NS) × NS
theorem keepO_lt {od ct : Nat} (h : od < 5) : keepO od ct < 5 := by unfold keepO; split <;> omega
theorem keepC_le {ct : Nat} (h : ct ≤ 4) : keepC ct ≤ 4 := by unfold keepC; split <;> omega
theorem keepC_0 {ct : Nat} (h : ct ≤ 4) : keepC ct ≠ 0 := by unfold keepC; split <;> omega
theorem setO_n {r : Int32} {od ct : Nat} (h : isErr r = false) : setO r od ct = keepO od ct := by unfold setO; rw [h, if_neg Bool.false_ne_true]
theorem setC_n {r : Int32} {ct : Nat} (h : isErr r = false) : setC r ct = keepC ct := by unfold setC; rw [h, if_neg Bool.false_ne_true]
theorem setO_e {r : Int32} {od ct : Nat} (h : isErr r = true) : setO r od ct = od := by unfold setO; rw [h, if_pos rfl]
theorem setC_e {r : Int32} {ct : Nat} (h : isErr r = true) : setC r ct = ct := by unfold setC; rw [h, if_pos rfl]
section HIS
variable {od ct : Nat} {π : Nat → NS} {ν ν' μ : NS}
theorem HI.pi (H : HI od ct π ν) : PI ν := H.2.2.1
theorem PI_updP {k : Nat} (H : PI ν) (h : ∀ j, PI (π j)) : ∀ j, PI (updP π k ν j) := fun j => by
  unfold updP; split
  · exact H
  · exact h j
/-- an error: the spare place has been written -/
theorem HI.err (H : HI od ct π ν) : HI od ct (updP π ((od + ct) % 5) ν) ν := ⟨H.1, H.2.1, H.2.2.1, PI_updP H.2.2.1 H.2.2.2⟩
theorem HI.keep (H : HI od ct π ν) (h : PI ν') : HI (keepO od ct) (keepC ct) (updP π ((od + ct) % 5) ν) ν' := ⟨keepO_lt H.1, keepC_le H.2.1, h, PI_updP H.2.2.1 H.2.2.2⟩
theorem HI.back (H : HI od ct π ν) (h : PI ν') : HI od (ct - 1) π ν' := ⟨H.1, Nat.le_trans (Nat.sub_le _ _) H.2.1, h, H.2.2.2⟩
theorem HI.to (H : HI od ct π ν) (h : PI ν') : HI od ct π ν' := ⟨H.1, H.2.1, h, H.2.2.2⟩
theorem updP_s {k : Nat} : updP π k ν k = ν := by unfold updP; rw [if_pos rfl]
theorem updP_o {k j : Nat} (h : j ≠ k) : updP π k ν j = π j := by unfold updP; rw [if_neg h]
/-- one deed undone -/
theorem und_1 (h1 : od < 5) (h2 : ct ≤ 4) : (if keepC ct = 0 then μ else updP π ((od + ct) % 5) ν ((keepO od ct + (keepC ct - 1)) % 5)) = ν := by
  rw [if_neg (keepC_0 h2), show (keepO od ct + (keepC ct - 1)) % 5 = (od + ct) % 5 by unfold keepO keepC; split <;> omega, updP_s]
/-- the second of two deeds undone, then the first -/
theorem und_2a (h1 : od < 5) (h2 : ct ≤ 4) : (if keepC (keepC ct) = 0 then μ else updP (updP π ((od + ct) % 5) ν) ((keepO od ct + keepC ct) % 5) ν' ((keepO (keepO od ct) (keepC ct) + (keepC (keepC ct) - 1)) % 5)) = ν' := und_1 (keepO_lt h1) (keepC_le h2)
theorem und_2b (h1 : od < 5) (h2 : ct ≤ 4) : (if keepC (keepC ct) - 1 = 0 then μ else updP (updP π ((od + ct) % 5) ν) ((keepO od ct + keepC ct) % 5) ν' ((keepO (keepO od ct) (keepC ct) + (keepC (keepC ct) - 1 - 1)) % 5)) = ν := by
  have a : keepC (keepC ct) - 1 ≠ 0 := by unfold keepC; split <;> (try split) <;> omega
  have b : (keepO (keepO od ct) (keepC ct) + (keepC (keepC ct) - 1 - 1)) % 5 = (od + ct) % 5 := by
    rcases (show ct < 3 ∨ ct = 3 ∨ ct = 4 by omega) with c | c | c
    · rw [show keepC ct = ct + 1 by unfold keepC; rw [if_pos (by omega)], show keepO od ct = od by unfold keepO; rw [if_pos (by omega)], show keepC (ct + 1) = ct + 1 + 1 by unfold keepC; rw [if_pos (by omega)], show keepO od (ct + 1) = od by unfold keepO; rw [if_pos (by omega)]]
      omega
    · subst c
      show (keepO od 4 + (4 - 1 - 1)) % 5 = (od + 3) % 5
      rw [show keepO od 4 = (od + 1) % 5 from rfl]; omega
    · subst c
      show (keepO ((od + 1) % 5) 4 + (4 - 1 - 1)) % 5 = (od + 4) % 5
      rw [show keepO ((od + 1) % 5) 4 = ((od + 1) % 5 + 1) % 5 from rfl]; omega
  have d : (od + ct) % 5 ≠ (keepO od ct + keepC ct) % 5 := by
    rcases (show ct < 4 ∨ ct = 4 by omega) with c | c
    · rw [show keepC ct = ct + 1 by unfold keepC; rw [if_pos c], show keepO od ct = od by unfold keepO; rw [if_pos c]]; omega
    · subst c
      show (od + 4) % 5 ≠ ((od + 1) % 5 + 4) % 5
      omega
  rw [if_neg a, b, updP_o d, updP_s]
theorem keepC_1 (h2 : ct ≤ 4) : keepC (keepC ct) - 1 ≠ 0 := by unfold keepC; split <;> (try split) <;> omega
end HIS
/-! numbers out of the script -/
def upN (v : Int32) : Nat := v.toBitVec.toNat % 2147483648
theorem upN_e (v : Int32) : v &&& (nI 2147483647) = nI (upN v) := pk_and v 31 (by decide)
theorem upN_lt (v : Int32) : upN v < 2147483648 := Nat.mod_lt _ (by decide)
def ys (y : Int32) (k : Nat) : Int32 := y >>> ((nI k) &&& 31)
def yT (y : Int32) : Nat := upN y % 4
def yA (y : Int32) : Nat := upN (ys y 2) % 4
def yB (y : Int32) : Nat := upN (ys y 4) % 4
def yW (y : Int32) : Nat := upN (ys y 6) % 32
def yN (y : Int32) : Nat := 1 + upN (ys y 11) % 6
def yO (y : Int32) : Nat := upN (ys y 14) % 27
def mn26 (a : Nat) : Nat := if a ≤ 26 then a else 26
theorem mn26_a {a : Nat} (h : a ≤ 26) : mn26 a = a := if_pos h
theorem mn26_b {a : Nat} (h : ¬ a ≤ 26) : mn26 a = 26 := if_neg h
def yF (y : Int32) : Bool := !decide (y &&& (nI 3) ≤ 0)
theorem yF_t {y : Int32} (h : ¬ y &&& (nI 3) ≤ 0) : yF y = true := by unfold yF; rw [decide_eq_false h]; rfl
theorem yF_f {y : Int32} (h : y &&& (nI 3) ≤ 0) : yF y = false := by unfold yF; rw [decide_eq_true h]; rfl
def yP (y : Int32) : Int32 := (ys y 11) &&& (nI 1)
/-- the k-th deed: its answer, the state and the scratch block behind it -/
def acR (ν β : NS) (k : Nat) (y : Int32) : Int32 := match k with
  | 0 => r_inj ν (nI (yW y))
  | 1 => r_inj ν (nI (yW y))
  | 2 => r_cpy ν β (nI (mn26 (yW y))) (nI (yO y)) (nI (yN y))
  | 3 => r_fil ν (nI (yO y)) (nI (yN y)) (nI (upN y % 65536))
  | 4 => r_mir ν (nI (yW y / 4)) (yF y)
  | 5 => r_mir ν (nI (yW y / 4)) (yF y)
  | 6 => r_scr ν (nI (yW y / 4))
  | 7 => r_mod ν (nI (yT y)) (nI (upN (ys y 2) % 3))
  | 8 => r_res ν (nI (yT y))
  | 9 => r_giv ν (nI (yT y)) (nI (yA y)) (nI (upN (ys y 4) % 65536))
  | 10 => r_ld ν (nI (yT y)) (nI (yA y)) (nI (yW y))
  | 11 => r_ld ν (nI (yT y)) (nI (yA y)) (nI (yW y))
  | 12 => r_ldb ν (nI (yT y)) (nI (yA y)) (nI (yW y)) (yP y)
  | 13 => r_sto ν (nI (yT y)) (nI (yA y)) (nI (yW y))
  | 14 => r_sto ν (nI (yT y)) (nI (yA y)) (nI (yW y))
  | 15 => r_stb ν (nI (yT y)) (nI (yA y)) (nI (yW y)) (yP y)
  | 16 => r_mov ν (nI (yT y)) (nI (yA y)) (nI (yB y))
  | 17 => r_cmp ν (nI (yT y)) (nI (upN (ys y 6) % 4)) (nI (yA y)) (nI (yB y)) (nI (upN (ys y 8) % 4))
  | 18 => r_lad ν (nI (yT y)) (nI (yA y)) (nI (yB y))
  | _ => r_out ν (nI (yT y)) (nI (yA y))
def acS (ν β : NS) (k : Nat) (y : Int32) : NS := match k with
  | 0 => s_inj ν (nI (yW y))
  | 1 => s_inj ν (nI (yW y))
  | 2 => s_cpy ν β (nI (mn26 (yW y))) (nI (yO y)) (nI (yN y))
  | 3 => s_fil ν (nI (yO y)) (nI (yN y)) (nI (upN y % 65536))
  | 4 => s_mir ν (nI (yW y / 4)) (yF y)
  | 5 => s_mir ν (nI (yW y / 4)) (yF y)
  | 6 => s_scr ν (nI (yW y / 4))
  | 7 => s_mod ν (nI (yT y)) (nI (upN (ys y 2) % 3))
  | 8 => s_res ν (nI (yT y))
  | 9 => s_giv ν (nI (yT y)) (nI (yA y)) (nI (upN (ys y 4) % 65536))
  | 10 => s_ld ν (nI (yT y)) (nI (yA y)) (nI (yW y))
  | 11 => s_ld ν (nI (yT y)) (nI (yA y)) (nI (yW y))
  | 12 => s_ldb ν (nI (yT y)) (nI (yA y)) (nI (yW y)) (yP y)
  | 13 => s_sto ν (nI (yT y)) (nI (yA y)) (nI (yW y))
  | 14 => s_sto ν (nI (yT y)) (nI (yA y)) (nI (yW y))
  | 15 => s_stb ν (nI (yT y)) (nI (yA y)) (nI (yW y)) (yP y)
  | 16 => s_mov ν (nI (yT y)) (nI (yA y)) (nI (yB y))
  | 17 => s_cmp ν (nI (yT y)) (nI (upN (ys y 6) % 4)) (nI (yA y)) (nI (yB y)) (nI (upN (ys y 8) % 4))
  | 18 => s_lad ν (nI (yT y)) (nI (yA y)) (nI (yB y))
  | _ => s_out ν (nI (yT y)) (nI (yA y))
def acB (ν β : NS) (k : Nat) (y : Int32) : NS := match k with
  | 2 => b_cpy ν β (nI (mn26 (yW y))) (nI (yO y)) (nI (yN y))
  | _ => β
theorem A_act {ν β : NS} {k : Nat} {y : Int32} (H : PI ν) : AO ν (acR ν β k y) (acS ν β k y) := by
  match k with
  | 0 => exact A_inj H
  | 1 => exact A_inj H
  | 2 => exact A_cpy H
  | 3 => exact A_fil H
  | 4 => exact A_mir H
  | 5 => exact A_mir H
  | 6 => exact A_scr H
  | 7 => exact A_mod H
  | 8 => exact A_res H
  | 9 => exact A_giv H
  | 10 => exact A_ld H
  | 11 => exact A_ld H
  | 12 => exact A_ldb H
  | 13 => exact A_sto H
  | 14 => exact A_sto H
  | 15 => exact A_stb H
  | 16 => exact A_mov H
  | 17 => exact A_cmp H
  | 18 => exact A_lad H
  | _ + 19 => exact A_out H
theorem acR_b {ν β γ : NS} {k : Nat} {y : Int32} : acR ν β k y = acR ν γ k y := by
  match k with
  | 0 => exact (rfl : r_inj ν (nI (yW y)) = r_inj ν (nI (yW y)))
  | 1 => exact (rfl : r_inj ν (nI (yW y)) = r_inj ν (nI (yW y)))
  | 2 => exact cpy_r
  | 3 => exact (rfl : r_fil ν (nI (yO y)) (nI (yN y)) (nI (upN y % 65536)) = r_fil ν (nI (yO y)) (nI (yN y)) (nI (upN y % 65536)))
  | 4 => exact (rfl : r_mir ν (nI (yW y / 4)) (yF y) = r_mir ν (nI (yW y / 4)) (yF y))
  | 5 => exact (rfl : r_mir ν (nI (yW y / 4)) (yF y) = r_mir ν (nI (yW y / 4)) (yF y))
  | 6 => exact (rfl : r_scr ν (nI (yW y / 4)) = r_scr ν (nI (yW y / 4)))
  | 7 => exact (rfl : r_mod ν (nI (yT y)) (nI (upN (ys y 2) % 3)) = r_mod ν (nI (yT y)) (nI (upN (ys y 2) % 3)))
  | 8 => exact (rfl : r_res ν (nI (yT y)) = r_res ν (nI (yT y)))
  | 9 => exact (rfl : r_giv ν (nI (yT y)) (nI (yA y)) (nI (upN (ys y 4) % 65536)) = r_giv ν (nI (yT y)) (nI (yA y)) (nI (upN (ys y 4) % 65536)))
  | 10 => exact (rfl : r_ld ν (nI (yT y)) (nI (yA y)) (nI (yW y)) = r_ld ν (nI (yT y)) (nI (yA y)) (nI (yW y)))
  | 11 => exact (rfl : r_ld ν (nI (yT y)) (nI (yA y)) (nI (yW y)) = r_ld ν (nI (yT y)) (nI (yA y)) (nI (yW y)))
  | 12 => exact (rfl : r_ldb ν (nI (yT y)) (nI (yA y)) (nI (yW y)) (yP y) = r_ldb ν (nI (yT y)) (nI (yA y)) (nI (yW y)) (yP y))
  | 13 => exact (rfl : r_sto ν (nI (yT y)) (nI (yA y)) (nI (yW y)) = r_sto ν (nI (yT y)) (nI (yA y)) (nI (yW y)))
  | 14 => exact (rfl : r_sto ν (nI (yT y)) (nI (yA y)) (nI (yW y)) = r_sto ν (nI (yT y)) (nI (yA y)) (nI (yW y)))
  | 15 => exact (rfl : r_stb ν (nI (yT y)) (nI (yA y)) (nI (yW y)) (yP y) = r_stb ν (nI (yT y)) (nI (yA y)) (nI (yW y)) (yP y))
  | 16 => exact (rfl : r_mov ν (nI (yT y)) (nI (yA y)) (nI (yB y)) = r_mov ν (nI (yT y)) (nI (yA y)) (nI (yB y)))
  | 17 => exact (rfl : r_cmp ν (nI (yT y)) (nI (upN (ys y 6) % 4)) (nI (yA y)) (nI (yB y)) (nI (upN (ys y 8) % 4)) = r_cmp ν (nI (yT y)) (nI (upN (ys y 6) % 4)) (nI (yA y)) (nI (yB y)) (nI (upN (ys y 8) % 4)))
  | 18 => exact (rfl : r_lad ν (nI (yT y)) (nI (yA y)) (nI (yB y)) = r_lad ν (nI (yT y)) (nI (yA y)) (nI (yB y)))
  | _ + 19 => exact (rfl : r_out ν (nI (yT y)) (nI (yA y)) = r_out ν (nI (yT y)) (nI (yA y)))
theorem acS_b {ν β γ : NS} {k : Nat} {y : Int32} : acS ν β k y = acS ν γ k y := by
  match k with
  | 0 => exact (rfl : s_inj ν (nI (yW y)) = s_inj ν (nI (yW y)))
  | 1 => exact (rfl : s_inj ν (nI (yW y)) = s_inj ν (nI (yW y)))
  | 2 => exact cpy_b
  | 3 => exact (rfl : s_fil ν (nI (yO y)) (nI (yN y)) (nI (upN y % 65536)) = s_fil ν (nI (yO y)) (nI (yN y)) (nI (upN y % 65536)))
  | 4 => exact (rfl : s_mir ν (nI (yW y / 4)) (yF y) = s_mir ν (nI (yW y / 4)) (yF y))
  | 5 => exact (rfl : s_mir ν (nI (yW y / 4)) (yF y) = s_mir ν (nI (yW y / 4)) (yF y))
  | 6 => exact (rfl : s_scr ν (nI (yW y / 4)) = s_scr ν (nI (yW y / 4)))
  | 7 => exact (rfl : s_mod ν (nI (yT y)) (nI (upN (ys y 2) % 3)) = s_mod ν (nI (yT y)) (nI (upN (ys y 2) % 3)))
  | 8 => exact (rfl : s_res ν (nI (yT y)) = s_res ν (nI (yT y)))
  | 9 => exact (rfl : s_giv ν (nI (yT y)) (nI (yA y)) (nI (upN (ys y 4) % 65536)) = s_giv ν (nI (yT y)) (nI (yA y)) (nI (upN (ys y 4) % 65536)))
  | 10 => exact (rfl : s_ld ν (nI (yT y)) (nI (yA y)) (nI (yW y)) = s_ld ν (nI (yT y)) (nI (yA y)) (nI (yW y)))
  | 11 => exact (rfl : s_ld ν (nI (yT y)) (nI (yA y)) (nI (yW y)) = s_ld ν (nI (yT y)) (nI (yA y)) (nI (yW y)))
  | 12 => exact (rfl : s_ldb ν (nI (yT y)) (nI (yA y)) (nI (yW y)) (yP y) = s_ldb ν (nI (yT y)) (nI (yA y)) (nI (yW y)) (yP y))
  | 13 => exact (rfl : s_sto ν (nI (yT y)) (nI (yA y)) (nI (yW y)) = s_sto ν (nI (yT y)) (nI (yA y)) (nI (yW y)))
  | 14 => exact (rfl : s_sto ν (nI (yT y)) (nI (yA y)) (nI (yW y)) = s_sto ν (nI (yT y)) (nI (yA y)) (nI (yW y)))
  | 15 => exact (rfl : s_stb ν (nI (yT y)) (nI (yA y)) (nI (yW y)) (yP y) = s_stb ν (nI (yT y)) (nI (yA y)) (nI (yW y)) (yP y))
  | 16 => exact (rfl : s_mov ν (nI (yT y)) (nI (yA y)) (nI (yB y)) = s_mov ν (nI (yT y)) (nI (yA y)) (nI (yB y)))
  | 17 => exact (rfl : s_cmp ν (nI (yT y)) (nI (upN (ys y 6) % 4)) (nI (yA y)) (nI (yB y)) (nI (upN (ys y 8) % 4)) = s_cmp ν (nI (yT y)) (nI (upN (ys y 6) % 4)) (nI (yA y)) (nI (yB y)) (nI (upN (ys y 8) % 4)))
  | 18 => exact (rfl : s_lad ν (nI (yT y)) (nI (yA y)) (nI (yB y)) = s_lad ν (nI (yT y)) (nI (yA y)) (nI (yB y)))
  | _ + 19 => exact (rfl : s_out ν (nI (yT y)) (nI (yA y)) = s_out ν (nI (yT y)) (nI (yA y)))
/-- what the law reads of a state, as one number -/
def tl0 (ν : NS) : Int64 := (((97 : Int64) * ((ν 15 0).toInt64)) + ((31 : Int64) * ((ν 14 1).toInt64))) + ((ν 15 1).toInt64)
def mvF (ν : NS) (k : Nat) : Int32 := if bz (ν 9 (k / 4)) then ν 3 k else -6
def moF (ν : NS) (k : Nat) : Int32 := if bz (ν 9 (k / 4)) then ν 4 k else -6
def loF (ν : NS) (a y : Nat) : Int32 := if a < tn (ν 14 0) then ν 13 (a * 4 + y) else -6
def t3 (h a b c : Int64) : Int64 := (31 : Int64) * ((31 : Int64) * ((31 : Int64) * h + a) + b) + c
def tlA (ν : NS) : Nat → Int64
  | 0 => tl0 ν
  | k + 1 => t3 (t3 (tlA ν k) (ν 0 k).toInt64 (ν 1 k).toInt64 (ν 2 k).toInt64) (mvF ν k).toInt64 (moF ν k).toInt64 (loF ν (k / 4) (k % 4)).toInt64
def tlB (ν : NS) : Nat → Int64
  | 0 => tlA ν 32
  | k + 1 => t3 (tlB ν k) (ν 6 (k / 4 * 4 + k % 4)).toInt64 (ν 7 (k / 4 * 4 + k % 4)).toInt64 (ν 8 (k / 4 * 4 + k % 4)).toInt64
def tlC (ν : NS) : Nat → Int64
  | 0 => tlB ν 16
  | k + 1 => (31 : Int64) * ((31 : Int64) * tlC ν k + (ν 10 k).toInt64) + (bI (bz (ν 11 k))).toInt64
def tolF (ν : NS) : Int64 := tlC ν 4
theorem lg_cmp_rf (x : Int64) : lg_cmp x x = nI 0 := by simp [lg_cmp, nI_0]
/-- what the script says at a place, or what stands for it behind its end -/
def celF (L : Nat) (xs : Nat → Int32) (k : Nat) : Int32 := if k < L then xs k else 1812433253 * (nI (k + 257))
theorem shr_c : ∀ k : Nat, k < 33 → Op.cmpValue (FP.fcmp (shr k) (shr k)) .l = nI 0 := by
  unfold shr
  decide +kernel
/-- an answer of a task that is stopped -/
theorem ld_st {ν : NS} {t r w : Nat} (h : bz (ν 11 t) = true) (ht : t < 4) (hr : r < 4) (hw : w < 32) : r_ld ν (nI t) (nI r) (nI w) = -5 ∧ s_ld ν (nI t) (nI r) (nI w) = ν := by
  unfold r_ld s_ld stp
  rw [iN_n ht (by decide), iN_n hr (by decide), iN_n hw (by decide), tn_nI (j := t) (by omega), h]
  exact ⟨rfl, rfl⟩
theorem mov_st {ν : NS} {t a b : Nat} (h : bz (ν 11 t) = true) (ht : t < 4) (ha : a < 4) (hb : b < 4) : r_mov ν (nI t) (nI a) (nI b) = -5 ∧ s_mov ν (nI t) (nI a) (nI b) = ν := by
  unfold r_mov s_mov stp
  rw [iN_n ht (by decide), iN_n ha (by decide), iN_n hb (by decide), tn_nI (j := t) (by omega), h]
  exact ⟨rfl, rfl⟩
theorem out_st {ν : NS} {t a : Nat} (h : bz (ν 11 t) = true) (ht : t < 4) (ha : a < 4) : r_out ν (nI t) (nI a) = -5 ∧ s_out ν (nI t) (nI a) = ν := by
  unfold r_out s_out stp
  rw [iN_n ht (by decide), iN_n ha (by decide), tn_nI (j := t) (by omega), h]
  exact ⟨rfl, rfl⟩
theorem sto_st {ν : NS} {t r w : Nat} (h : bz (ν 11 t) = true) (ht : t < 4) (hr : r < 4) (hw : w < 32) : r_sto ν (nI t) (nI r) (nI w) = -5 ∧ s_sto ν (nI t) (nI r) (nI w) = ν := by
  unfold r_sto s_sto stp
  rw [iN_n ht (by decide), iN_n hr (by decide), iN_n hw (by decide), tn_nI (j := t) (by omega), h]
  exact ⟨rfl, rfl⟩
theorem giv_st {ν : NS} {t r x : Nat} (h : bz (ν 11 t) = true) (ht : t < 4) (hr : r < 4) (hx : x < 65536) : r_giv ν (nI t) (nI r) (nI x) = -5 ∧ s_giv ν (nI t) (nI r) (nI x) = ν := by
  unfold r_giv s_giv stp
  rw [iN_n ht (by decide), iN_n hr (by decide), iN_n hx (by decide), tn_nI (j := t) (by omega), h]
  exact ⟨rfl, rfl⟩
/-! a load and an output of a running task -/
section CPY
variable {ν : NS} {t r w : Nat}
theorem ld_ok (h : bz (ν 11 t) = false) (ht : t < 4) (hr : r < 4) (hw : w < 32) : r_ld ν (nI t) (nI r) (nI w) = c_fetch ν w 0 w ∧ s_ld ν (nI t) (nI r) (nI w) = c_take ν (t * 4 + r) w := by
  unfold r_ld s_ld stp
  rw [iN_n ht (by decide), iN_n hr (by decide), iN_n hw (by decide), tn_nI (j := t) (by omega), tn_nI (j := r) (by omega), tn_nI (j := w) (by omega), h]
  exact ⟨rfl, rfl⟩
theorem out_ok (h : bz (ν 11 t) = false) (ht : t < 4) (hr : r < 4) : r_out ν (nI t) (nI r) = (if u_ok ν t r r then u_st ν t r r 6 (t * 4 + r) else -7) ∧ s_out ν (nI t) (nI r) = u_st ν t r r := by
  unfold r_out s_out stp
  rw [iN_n ht (by decide), iN_n hr (by decide), tn_nI (j := t) (by omega), tn_nI (j := r) (by omega), h]
  exact ⟨rfl, rfl⟩
theorem tk_6 {k : Nat} : c_take ν k w 6 k = c_fetch ν w 0 w := upd_s
theorem tk_7 {k : Nat} : c_take ν k w 7 k = c_fetch ν w 1 w := upd_s
theorem tk_8 {k : Nat} : c_take ν k w 8 k = hp (c_fetch ν w 1 w) (c_fetch ν w 2 w) := upd_s
theorem fe_10 : c_fetch ν w 10 = ν 10 := by unfold c_fetch; split <;> rfl
theorem fe_11 : c_fetch ν w 11 = ν 11 := by unfold c_fetch; split <;> rfl
theorem tk_10 {k j : Nat} : c_take ν k w 10 j = ν 10 j := by
  show c_fetch ν w 10 j = _
  rw [fe_10]
theorem tk_11 {k j : Nat} : c_take ν k w 11 j = ν 11 j := by
  show c_fetch ν w 11 j = _
  rw [fe_11]
def mn9 (i : Nat) : Nat := if i < 99 then i + 1 else 99
theorem mn9_a {i : Nat} (h : i < 99) : mn9 i = i + 1 := if_pos h
theorem mn9_b {i : Nat} (h : ¬ i < 99) : mn9 i = 99 := if_neg h
theorem hp_n {o : Int32} {i : Nat} (h : ps o = true) (hi : i ≤ 99) : hp o (nI i) = nI (mn9 i) := by
  unfold hp mn9
  rw [h, if_pos rfl, nI_add]
  by_cases c : i < 99
  · rw [if_neg (fun q => absurd ((nI_ltI (by decide) (by omega)).mp q) (by omega)), if_pos c]
  · rw [if_pos ((nI_ltI (by decide) (by omega)).mpr (by omega)), if_neg c]
/-- a use of a clean register -/
theorem us_c (h : ps (ν 7 (t * 4 + r)) = false) : u_st ν t r r = ν ∧ u_ok ν t r r = true := by
  unfold u_st u_ok
  rw [h, if_neg Bool.false_ne_true, if_neg Bool.false_ne_true]
  exact ⟨rfl, rfl⟩
/-- a use of a poisoned one -/
theorem us_b (h : ps (ν 7 (t * 4 + r)) = true) : u_st ν t r r = u_flt ν t r r r := by
  unfold u_st
  rw [h, if_pos rfl]
theorem us_ok (h : ps (ν 7 (t * 4 + r)) = true) : u_ok ν t r r = decide (ν 10 t = nI 2) := by
  unfold u_ok
  rw [h]; rfl
theorem fl_2 (h : ν 10 t = nI 2) : u_flt ν t r r r = c_clp (c_clp (c_log ν t r (t * 4 + r)) (t * 4 + r)) (t * 4 + r) := by
  unfold u_flt; rw [if_pos h]
theorem fl_0 (h : ν 10 t = nI 0) : u_flt ν t r r r = up2 (c_log ν t r (t * 4 + r)) 11 (upd (ν 11) t (bI true)) := by
  unfold u_flt; rw [if_neg (by rw [h]; decide), if_pos (by rw [h]; exact nI_0)]
theorem fl_1 (h : ν 10 t = nI 1) : u_flt ν t r r r = c_log ν t r (t * 4 + r) := by
  unfold u_flt; rw [if_neg (by rw [h]; decide), if_neg (by rw [h]; decide)]
theorem clp_7 {k : Nat} (h : ps (ν 7 k) = true) : c_clp ν k = c_cleanR ν k (nI 0) := by unfold c_clp; rw [h, if_pos rfl]
theorem clp_c {k : Nat} (h : ps (ν 7 k) = false) : c_clp ν k = ν := by unfold c_clp; rw [h, if_neg Bool.false_ne_true]
theorem fl_2c (h : ν 10 t = nI 2) (hp : ps (ν 7 (t * 4 + r)) = true) : u_flt ν t r r r = c_cleanR (c_log ν t r (t * 4 + r)) (t * 4 + r) (nI 0) := by
  rw [fl_2 h, clp_7 (ν := c_log ν t r (t * 4 + r)) hp, clp_c]
  show ps (upd (ν 7) (t * 4 + r) (-6) (t * 4 + r)) = false
  rw [upd_s]; rfl
/-- the log behind a fault -/
theorem log_n : tn (c_log ν t r (t * 4 + r) 14 0) = min (tn (ν 14 0) + 1) 8 := tn_nI (Nat.lt_of_le_of_lt (Nat.min_le_right _ _) (by decide))
theorem log_0 : c_log ν t r (t * 4 + r) 13 0 = nI t := rfl
theorem log_1 : c_log ν t r (t * 4 + r) 13 1 = nI r := rfl
theorem log_2 : c_log ν t r (t * 4 + r) 13 2 = ν 7 (t * 4 + r) := rfl
theorem log_3 : c_log ν t r (t * 4 + r) 13 3 = ν 10 t := rfl
end CPY
