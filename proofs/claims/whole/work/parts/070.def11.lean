/-! the class itself -/
section FR11
variable {p : Program} {l : Launch} {e : Env} {R : Room} {s : State} {m : MethodId} {args : Array Value} {below : List Frame} {meth : Method} {c : Code} {H : Heap} {locs : List Loc} {cells slots : Nat} {Q : State → Prop}
variable {cc : ByteArray} {pc : Nat} {ls : Array Slot} {rest : List Value} {D : va_G} {A : Nat → Prop} {a : Nat} {T : Nat → ClassId} {Z : ZZ} {fs : List va_W} {H0 : Heap}
variable {y : MethodName} {bytes : ByteArray} {maxL nL n index : Nat} {ret : Option FieldType} {ws : List Cond} {rm : Room} {Ts : List Cond} {own C host : String} {b : Nat} {As : List Value} {st : List Value} {cs cs' fs' : List va_W} {r : Int32} {i0 ci : Nat} {q0 : vw_C} {vs : List Value} {tl : va_W}
theorem fr_VNiP {tl2 : List va_W} (S : CallFix p m c cc nL s args Ts own) (hCt : CtI l D T Z y ws rm cs (.ref b :: As) r cs') (cw : va_CN R s args own index y host bytes maxL ret ws rm 0 0 n ∧ (Cond.instanceMethod y).before args s = true ∧ (Cond.selects q0.1 y y).before args s = true)
    (hK : va_K D vwCl (tyL T) s) (hN : nwOk s) (hM : amb Z A s s.heap) (hP : frP D (cs ++ tl2) H) (hD : va_D A (cs ++ tl2).flatten) (hS : va_S A s.heap H locs) (hA : ∀ q, s.heap.size ≤ q → A q) (hc : vwCl[ci]? = some q0) (hi : cs[i0]? = some ((b, .inr (ci, vs)) :: tl))
    (hn : As.length = n) (hsz : ls.size = nL) (hst : st = As.reverse ++ .ref b :: rest) (hW : (rest.map fun v => v.category).sum ≤ 8) (hdg : decode cc pc = .ok (.invokevirtual index, 3)) (hf : cells ≤ R.cells ∧ slots ≤ R.slots)
    (kk : ∀ (H1 : Heap) (locs1 : List Loc), frP D (cs' ++ tl2) H1 → va_D A (cs' ++ tl2).flatten → va_S A s.heap H1 locs1 → W p l e R s m args below meth c H1 locs1 cells slots Q (F0 m (pc + 3) ls (.int r :: rest))) : W p l e R s m args below meth c H locs cells slots Q (F0 m pc ls st) :=
  fr_VNi S hCt cw hK hN hM hP hD hS hA (List.range' 0 cs.length) fr_pre_C (va_nd_of List.nodup_range') (frPut_pre cs cs' [] tl2 (by have := congrArg List.length hCt.1; simpa using this.symm)) hc (by rw [List.getElem?_append_left (List.getElem?_eq_some_iff.mp hi).1]; exact hi) hn hsz hst hW hdg hf kk
end FR11
/-- the class's object -/
def maF (AD : Nat → Nat → Nat) : va_W := [((AD 8) 0, .inr (5, [.ref ((AD 0) 0), .ref ((AD 1) 0), .ref ((AD 8) 1), .ref ((AD 9) 0), .ref ((AD 7) 0)]))]
def arC (ν : NS) : Nat → Int32
  | 0 => nI 0
  | k + 1 => if !bz (ν 11 k) && decide (0 < cntP (ν 7) (k * 4 + 0) (k * 4 + 4 - (k * 4 + 0))) then arC ν k ||| (nI 1 <<< (nI k &&& 31)) else arC ν k
theorem arC_a {ν : NS} {k : Nat} (h : bz (ν 11 k) = true) : arC ν (k + 1) = arC ν k := by
  show (if _ then _ else _) = _
  rw [if_neg (by rw [h, Bool.not_true, Bool.false_and]; decide)]
theorem arC_b {ν : NS} {k : Nat} (h : cntP (ν 7) (k * 4 + 0) (k * 4 + 4 - (k * 4 + 0)) ≤ 0) : arC ν (k + 1) = arC ν k := by
  show (if _ then _ else _) = _
  rw [if_neg (by rw [decide_eq_false (by omega)]; simp)]
theorem arC_c {ν : NS} {k : Nat} (h : bz (ν 11 k) = false) (h2 : 0 < cntP (ν 7) (k * 4 + 0) (k * 4 + 4 - (k * 4 + 0))) : arC ν (k + 1) = arC ν k ||| (nI 1 <<< (nI k &&& 31)) := by
  show (if _ then _ else _) = _
  rw [if_pos (by rw [h, decide_eq_true h2]; rfl)]
def pfS (ν : NS) (kd : Nat) (pt : Nat → Nat) : NS := if kd = 76 then s_ld ν (nI (pt 0)) (nI (pt 1)) (nI (pt 2)) else if kd = 83 then s_sto ν (nI (pt 0)) (nI (pt 1)) (nI (pt 2)) else if kd = 77 then s_mov ν (nI (pt 0)) (nI (pt 1)) (nI (pt 2)) else if kd = 65 then s_cmp ν (nI (pt 0)) (nI (pt 1)) (nI (pt 2)) (nI (pt 3)) (nI (pt 4)) else if kd = 79 then s_out ν (nI (pt 0)) (nI (pt 1)) else if kd = 73 then s_inj ν (nI (pt 0)) else s_giv ν (nI (pt 0)) (nI (pt 1)) (nI (pt 2))
def pfR (ν : NS) (kd : Nat) (pt : Nat → Nat) : Int32 := if kd = 76 then r_ld ν (nI (pt 0)) (nI (pt 1)) (nI (pt 2)) else if kd = 83 then r_sto ν (nI (pt 0)) (nI (pt 1)) (nI (pt 2)) else if kd = 77 then r_mov ν (nI (pt 0)) (nI (pt 1)) (nI (pt 2)) else if kd = 65 then r_cmp ν (nI (pt 0)) (nI (pt 1)) (nI (pt 2)) (nI (pt 3)) (nI (pt 4)) else if kd = 79 then r_out ν (nI (pt 0)) (nI (pt 1)) else if kd = 73 then r_inj ν (nI (pt 0)) else r_giv ν (nI (pt 0)) (nI (pt 1)) (nI (pt 2))
theorem pf_not {kd : Nat} (h : kd ≠ 76 ∧ kd ≠ 83 ∧ kd ≠ 77 ∧ kd ≠ 65 ∧ kd ≠ 79 ∧ kd ≠ 73) (ν : NS) (pt : Nat → Nat) : pfS ν kd pt = s_giv ν (nI (pt 0)) (nI (pt 1)) (nI (pt 2)) ∧ pfR ν kd pt = r_giv ν (nI (pt 0)) (nI (pt 1)) (nI (pt 2)) := by
  unfold pfS pfR
  rw [if_neg (by omega), if_neg (by omega), if_neg (by omega), if_neg (by omega), if_neg (by omega), if_neg (by omega), if_neg (by omega), if_neg (by omega), if_neg (by omega), if_neg (by omega), if_neg (by omega), if_neg (by omega)]
  exact ⟨rfl, rfl⟩
/-- the class's run: how many, the state, the letter, the reader -/
def cR (ch : Nat → Nat) (len : Nat) : Nat → NS → Nat → Q4 → Nat → Nat × NS × Nat × Q4
  | 0, ν, kd, q, n => (n, ν, kd, q)
  | m + 1, ν, kd, q, n => if (rX ch len q).1 = true then (if isErr (pfR ν (rXk ch len kd q) (rX ch len q).2.2.1) = true then (n, pfS ν (rXk ch len kd q) (rX ch len q).2.2.1, rXk ch len kd q, (rX ch len q).2) else cR ch len m (pfS ν (rXk ch len kd q) (rX ch len q).2.2.1) (rXk ch len kd q) (rX ch len q).2 (n + 1)) else (n, ν, rXk ch len kd q, (rX ch len q).2)
section CRS
variable {ch : Nat → Nat} {len k kd n : Nat} {q : Q4} {ν : NS}
theorem cR_z (hk : ¬ k < 90) : cR ch len (90 - k) ν kd q n = (n, ν, kd, q) := by
  rw [show 90 - k = 0 from by omega]; rfl
theorem cR_a (h1 : (rX ch len q).1 = false) (hk : k < 90) : cR ch len (90 - k) ν kd q n = (n, ν, rXk ch len kd q, (rX ch len q).2) := by
  rw [show 90 - k = (90 - (k + 1)) + 1 from by omega]
  show (if _ then _ else _) = _
  rw [if_neg (by rw [h1]; decide)]
theorem cR_b (h1 : (rX ch len q).1 = true) (h2 : isErr (pfR ν (rXk ch len kd q) (rX ch len q).2.2.1) = true) (hk : k < 90) : cR ch len (90 - k) ν kd q n = (n, pfS ν (rXk ch len kd q) (rX ch len q).2.2.1, rXk ch len kd q, (rX ch len q).2) := by
  rw [show 90 - k = (90 - (k + 1)) + 1 from by omega]
  show (if _ then _ else _) = _
  rw [if_pos h1, if_pos h2]
theorem cR_c (h1 : (rX ch len q).1 = true) (h2 : isErr (pfR ν (rXk ch len kd q) (rX ch len q).2.2.1) = false) (hk : k < 90) : cR ch len (90 - k) ν kd q n = cR ch len (90 - (k + 1)) (pfS ν (rXk ch len kd q) (rX ch len q).2.2.1) (rXk ch len kd q) (rX ch len q).2 (n + 1) := by
  rw [show 90 - k = (90 - (k + 1)) + 1 from by omega]
  show (if _ then _ else _) = _
  rw [if_pos h1, if_neg (by rw [h2]; decide)]
end CRS
/-- the class's stopsAt: the answer, the trial, the letter, the reader -/
def cS (ch : Nat → Nat) (len st : Nat) : Nat → NS → Nat → Q4 → Nat → Int32 × NS × Nat × Q4
  | 0, ν, kd, q, _ => (-6, ν, kd, q)
  | m + 1, ν, kd, q, n => if (rX ch len q).1 = true then (if isErr (pfR ν (rXk ch len kd q) (rX ch len q).2.2.1) = true then (-6, pfS ν (rXk ch len kd q) (rX ch len q).2.2.1, rXk ch len kd q, (rX ch len q).2) else if st < cntB (pfS ν (rXk ch len kd q) (rX ch len q).2.2.1 11) 4 then (nI n, pfS ν (rXk ch len kd q) (rX ch len q).2.2.1, rXk ch len kd q, (rX ch len q).2) else cS ch len st m (pfS ν (rXk ch len kd q) (rX ch len q).2.2.1) (rXk ch len kd q) (rX ch len q).2 (n + 1)) else (-6, ν, rXk ch len kd q, (rX ch len q).2)
section CSS
variable {ch : Nat → Nat} {len k kd n st : Nat} {q : Q4} {ν : NS}
theorem cS_z (hk : ¬ k < 90) : cS ch len st (90 - k) ν kd q n = (-6, ν, kd, q) := by
  rw [show 90 - k = 0 from by omega]; rfl
theorem cS_a (h1 : (rX ch len q).1 = false) (hk : k < 90) : cS ch len st (90 - k) ν kd q n = (-6, ν, rXk ch len kd q, (rX ch len q).2) := by
  rw [show 90 - k = (90 - (k + 1)) + 1 from by omega]
  show (if _ then _ else _) = _
  rw [if_neg (by rw [h1]; decide)]
theorem cS_b (h1 : (rX ch len q).1 = true) (h2 : isErr (pfR ν (rXk ch len kd q) (rX ch len q).2.2.1) = true) (hk : k < 90) : cS ch len st (90 - k) ν kd q n = (-6, pfS ν (rXk ch len kd q) (rX ch len q).2.2.1, rXk ch len kd q, (rX ch len q).2) := by
  rw [show 90 - k = (90 - (k + 1)) + 1 from by omega]
  show (if _ then _ else _) = _
  rw [if_pos h1, if_pos h2]
theorem cS_c (h1 : (rX ch len q).1 = true) (h2 : isErr (pfR ν (rXk ch len kd q) (rX ch len q).2.2.1) = false) (h3 : st < cntB (pfS ν (rXk ch len kd q) (rX ch len q).2.2.1 11) 4) (hk : k < 90) : cS ch len st (90 - k) ν kd q n = (nI n, pfS ν (rXk ch len kd q) (rX ch len q).2.2.1, rXk ch len kd q, (rX ch len q).2) := by
  rw [show 90 - k = (90 - (k + 1)) + 1 from by omega]
  show (if _ then _ else _) = _
  rw [if_pos h1, if_neg (by rw [h2]; decide), if_pos h3]
theorem cS_d (h1 : (rX ch len q).1 = true) (h2 : isErr (pfR ν (rXk ch len kd q) (rX ch len q).2.2.1) = false) (h3 : ¬ st < cntB (pfS ν (rXk ch len kd q) (rX ch len q).2.2.1 11) 4) (hk : k < 90) : cS ch len st (90 - k) ν kd q n = cS ch len st (90 - (k + 1)) (pfS ν (rXk ch len kd q) (rX ch len q).2.2.1) (rXk ch len kd q) (rX ch len q).2 (n + 1) := by
  rw [show 90 - k = (90 - (k + 1)) + 1 from by omega]
  show (if _ then _ else _) = _
  rw [if_pos h1, if_neg (by rw [h2]; decide), if_neg h3]
end CSS
/-! what an operation of a text keeps: the number of injections, and that the log's rows are few -/
def Kp (ν μ : NS) : Prop := μ 15 0 = ν 15 0 ∧ (WH (ν 14 0) 8 → WH (μ 14 0) 8)
theorem Kp.rf {ν : NS} : Kp ν ν := ⟨rfl, fun h => h⟩
theorem Kp.tr {ν μ ρ : NS} (h1 : Kp ν μ) (h2 : Kp μ ρ) : Kp ν ρ := ⟨h2.1.trans h1.1, fun h => h2.2 (h1.2 h)⟩
theorem Kp.up {ν μ : NS} {c : Nat} {f : Nat → Int32} (h : Kp ν μ) (h1 : ¬ 15 = c) (h2 : ¬ 14 = c) : Kp ν (up2 μ c f) := ⟨by unfold up2; rw [if_neg h1]; exact h.1, fun g => by unfold up2; rw [if_neg h2]; exact h.2 g⟩
theorem Kp_fetch {ν : NS} {w : Nat} : Kp ν (c_fetch ν w) := by
  unfold c_fetch; split
  · refine ⟨?_, fun h => ?_⟩
    · show upd (ν 15) 1 (ν 15 1 + nI 1) 0 = _
      unfold upd; rw [if_neg (by decide)]
    · show WH (ν 14 0) 8
      exact h
  · exact Kp.rf
theorem Kp_upd {ν : NS} {w : Nat} : Kp ν (c_upd ν w) := by
  unfold c_upd; split
  · exact ((Kp.rf.up (by decide) (by decide)).up (by decide) (by decide)).up (by decide) (by decide)
  · exact Kp.rf
theorem Kp_put {ν : NS} {w : Nat} {x so sh : Int32} : Kp ν (c_put ν w x so sh) := (((Kp.rf.up (by decide) (by decide)).up (by decide) (by decide)).up (by decide) (by decide)).tr Kp_upd
theorem Kp_take {ν : NS} {k w : Nat} : Kp ν (c_take ν k w) := Kp_fetch.tr (((Kp.rf.up (by decide) (by decide)).up (by decide) (by decide)).up (by decide) (by decide))
theorem Kp_cleanR {ν : NS} {k : Nat} {x : Int32} : Kp ν (c_cleanR ν k x) := ((Kp.rf.up (by decide) (by decide)).up (by decide) (by decide)).up (by decide) (by decide)
theorem Kp_mov {ν : NS} {k j : Nat} : Kp ν (movS ν k j) := ((Kp.rf.up (by decide) (by decide)).up (by decide) (by decide)).up (by decide) (by decide)
theorem Kp_clp {ν : NS} {k : Nat} : Kp ν (c_clp ν k) := by
  unfold c_clp; split
  · exact Kp_cleanR
  · exact Kp.rf
theorem Kp_log {ν : NS} {t r k : Nat} : Kp ν (c_log ν t r k) := by
  refine ⟨rfl, fun h => ?_⟩
  have h2 := h.2
  show WH (upd (upd (ν 14) 0 (nI (min (tn (ν 14 0) + 1) 8))) 1 (ν 14 1 + nI 1) 0) 8
  rw [show upd (upd (ν 14) 0 (nI (min (tn (ν 14 0) + 1) 8))) 1 (ν 14 1 + nI 1) 0 = nI (min (tn (ν 14 0) + 1) 8) from rfl]
  exact ⟨by rw [tn_nI (by omega)], by rw [tn_nI (by omega)]; omega⟩
theorem Kp_flt {ν : NS} {t r a b : Nat} : Kp ν (u_flt ν t r a b) := by
  unfold u_flt; split
  · exact (Kp_log.tr Kp_clp).tr Kp_clp
  · split
    · exact Kp_log.up (by decide) (by decide)
    · exact Kp_log
theorem Kp_use {ν : NS} {t a b : Nat} : Kp ν (u_st ν t a b) := by
  unfold u_st; split
  · exact Kp_flt
  · split
    · exact Kp_flt
    · exact Kp.rf
theorem Kp_cmpU {ν : NS} {t q a b : Nat} : Kp ν (cmpU ν t q a b) := by
  unfold cmpU; split
  · exact Kp.rf
  · exact Kp_use
theorem Kp_giv {ν : NS} {t r x : Int32} : Kp ν (s_giv ν t r x) := by
  unfold s_giv; split
  · exact Kp_cleanR
  · exact Kp.rf
theorem Kp_ld {ν : NS} {t r w : Int32} : Kp ν (s_ld ν t r w) := by
  unfold s_ld; split
  · exact Kp_take
  · exact Kp.rf
theorem Kp_sto {ν : NS} {t r w : Int32} : Kp ν (s_sto ν t r w) := by
  unfold s_sto; split
  · exact Kp_put
  · exact Kp.rf
theorem Kp_move {ν : NS} {t a b : Int32} : Kp ν (s_mov ν t a b) := by
  unfold s_mov; split
  · exact Kp_mov
  · exact Kp.rf
theorem Kp_cmp {ν : NS} {t q c a b : Int32} : Kp ν (s_cmp ν t q c a b) := by
  unfold s_cmp; split
  · split
    · exact Kp_cmpU.tr Kp_cleanR
    · exact Kp_cmpU
  · exact Kp.rf
theorem Kp_out {ν : NS} {t a : Int32} : Kp ν (s_out ν t a) := by
  unfold s_out; split
  · exact Kp_use
  · exact Kp.rf
theorem inj_hi {ν : NS} {x : Int32} (h : WH (ν 15 0) 20) : WH (s_inj ν x 15 0) 20 := by
  unfold s_inj; split
  · split
    · exact h
    · rename_i c
      have h2 := h.2
      rw [show c_inj ν (tn x) 15 0 = nI (tn (ν 15 0) + 1) from rfl]
      exact ⟨by rw [tn_nI (by omega)], by rw [tn_nI (by omega)]; omega⟩
  · exact h
theorem inj_hh {ν : NS} {x : Int32} (h : WH (ν 14 0) 8) : WH (s_inj ν x 14 0) 8 := by
  unfold s_inj; split
  · split
    · exact h
    · exact h
  · exact h
theorem pf_kp {ν : NS} {kd : Nat} {pt : Nat → Nat} : Kp ν (pfS ν kd pt) ∨ pfS ν kd pt = s_inj ν (nI (pt 0)) := by
  unfold pfS
  split
  · exact Or.inl Kp_ld
  · split
    · exact Or.inl Kp_sto
    · split
      · exact Or.inl Kp_move
      · split
        · exact Or.inl Kp_cmp
        · split
          · exact Or.inl Kp_out
          · split
            · exact Or.inr rfl
            · exact Or.inl Kp_giv
theorem pf_hi {ν : NS} {kd : Nat} {pt : Nat → Nat} (h : WH (ν 15 0) 20) : WH (pfS ν kd pt 15 0) 20 := by
  rcases pf_kp (ν := ν) (kd := kd) (pt := pt) with k | k
  · rw [k.1]; exact h
  · rw [k]; exact inj_hi h
theorem pf_hh {ν : NS} {kd : Nat} {pt : Nat → Nat} (h : WH (ν 14 0) 8) : WH (pfS ν kd pt 14 0) 8 := by
  rcases pf_kp (ν := ν) (kd := kd) (pt := pt) with k | k
  · exact k.2 h
  · rw [k]; exact inj_hh h
theorem fF_le {ch : Nat → Nat} {len : Nat} (hl : len ≤ 90) : ∀ (m kd : Nat) (q : Q4), q.1 ≤ 90 → (fF ch len m kd q).2.2.1 ≤ 90
  | 0, _, _, h => h
  | m + 1, kd, q, h => by
    unfold fF; split
    · split
      · exact rO_le hl h
      · split
        · exact fF_le hl m _ _ (rS_le hl (rO_le hl h))
        · exact rS_le hl (rO_le hl h)
    · exact rO_le hl h
theorem fF_pc {ch : Nat → Nat} {len : Nat} : ∀ (m kd : Nat) (q : Q4), q.2.2 ≤ 5 → (fF ch len m kd q).2.2.2.2 ≤ 5
  | 0, _, _, h => h
  | m + 1, kd, q, h => by
    unfold fF; split
    · split
      · exact rO_pc h
      · split
        · exact fF_pc m _ _ (rS_pc (rO_pc h))
        · exact rS_pc (rO_pc h)
    · exact rO_pc h
theorem rXk_lt {ch : Nat → Nat} {len kd : Nat} {q : Q4} (hch : ∀ k, ch k < 128) (h : (rX ch len q).1 = true) : rXk ch len kd q < 128 := by
  unfold rX at h
  unfold rXk
  split
  · rename_i c
    rw [if_pos c] at h
    split
    · exact sg_lt hch
    · rename_i c2
      rw [if_neg c2] at h
      cases h
  · exact sg_lt hch
theorem cntB_le (f : Nat → Int32) (m : Nat) : cntB f m ≤ m := cnt_le _ m
theorem inn_of {x : Int32} {a b : Nat} (h1 : ¬ x < nI a) (h2 : x ≤ nI b) : inn x (nI a) (nI b) = true := by
  unfold inn; rw [decide_eq_false h1, decide_eq_false (Int32.not_lt.mpr h2)]; rfl
theorem inn_lo {x : Int32} {a b : Nat} (h1 : x < nI a) : inn x (nI a) (nI b) = false := by
  unfold inn; rw [decide_eq_true h1]; rfl
theorem inn_hi {x : Int32} {a b : Nat} (h1 : ¬ x ≤ nI b) : inn x (nI a) (nI b) = false := by
  unfold inn; rw [decide_eq_true (Int32.not_le.mp h1)]; simp
