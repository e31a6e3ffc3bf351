/-! the law: what both sides hold, and what each call makes of it -/
theorem m0N_v : ∀ (n j : Nat), m0N n j = if j % 3 = 1 ∧ j < 3 * n then -6 else nI 0
  | 0, j => by rw [if_neg (by omega)]; rfl
  | n + 1, j => by
    show upd (m0N n) (3 * n + 1) (-6) j = _
    by_cases e : j = 3 * n + 1
    · rw [e, upd_s, if_pos (by omega)]
    · rw [upd_o e, m0N_v n j]
      by_cases c : j % 3 = 1 ∧ j < 3 * n
      · rw [if_pos c, if_pos (by omega)]
      · rw [if_neg c, if_neg (by omega)]
theorem fil_in {f : Nat → Int32} {x : Int32} {n j : Nat} (h : j < n) : filF f x n j = x := if_pos h
theorem Pic_0 : Pic 0 N0 (m0N 80) := by
  have z : WH (nI 0) 65535 := WH_0 (by decide)
  refine ⟨fun i hi => ?_, fun i hi => ?_, fun i hi => ?_, ⟨fun p hp => ?_, fun t ht => ?_, fun t ht => ?_⟩, ⟨?_, WH_0 (by decide)⟩, fun k hk => ?_, ⟨?_, WH_0 (by decide)⟩, fun k hk => ?_, ?_, ?_⟩
  · rw [m0N_v, m0N_v, m0N_v, if_neg (by omega), if_pos (by omega), if_neg (by omega)]
    show cel (nI 0) (filF (fun _ => nI 0) (-6) 32 i) (filF (fun _ => nI 0) (-6) 32 i) _ _ _
    rw [fil_in hi]
    exact ⟨rfl, rfl, z, mrk_no⟩
  · rw [m0N_v, m0N_v, m0N_v, if_neg (by omega), if_pos (by omega), if_neg (by omega)]
    show cel (nI 0) (filF (fun _ => nI 0) (-6) 32 i) (filF (fun _ => nI 0) (-6) 32 i) _ _ _
    rw [fil_in hi]
    exact ⟨rfl, rfl, z, mrk_no⟩
  · rw [m0N_v, m0N_v, m0N_v, if_neg (by omega), if_pos (by omega), if_neg (by omega)]
    show cel (nI 0) (filF (fun _ => nI 0) (-6) 16 i) (filF (fun _ => nI 0) (-6) 16 i) _ _ _
    rw [fil_in hi]
    exact ⟨rfl, rfl, z, mrk_no⟩
  · rw [m0N_v, if_neg (by omega)]
    show nI 0 = bI (bz (nI 0))
    decide
  · rw [m0N_v, if_neg (by omega)]
    exact ⟨rfl, WH_0 (by decide)⟩
  · rw [m0N_v, if_neg (by omega)]
    show nI 0 = bI (bz (nI 0))
    decide
  · rw [m0N_v, if_neg (by omega)]; rfl
  · rw [m0N_v, if_neg (by omega)]; rfl
  · rw [m0N_v, if_neg (by omega)]; rfl
  · rw [m0N_v, if_neg (by omega)]; rfl
  · rw [m0N_v, if_neg (by omega)]; rfl
  · rw [m0N_v, if_neg (by omega)]; rfl
def LI (ν : NS) (od ct : Nat) (π : Nat → NS) (σ : MS) (ch : Nat → Nat) (len : Nat) (q : Q4) (p : Nat) : Prop := SR ν od ct π σ ∧ (∀ k, ch k < 128) ∧ len ≤ 90 ∧ q.1 ≤ 90 ∧ q.2.2 ≤ 5 ∧ p ≤ 90
theorem LI_0 : LI N0 0 0 (fun _ => N0) (m0N 80) (fun _ => 0) 0 q0T 0 := ⟨⟨Pic_0, fun i hi => absurd hi (by omega), by decide, by decide⟩, fun _ => (by decide : (0 : Nat) < 128), by decide, by decide, by decide, by decide⟩
section LIS
variable {ν : NS} {od ct : Nat} {π : Nat → NS} {σ : MS} {ch : Nat → Nat} {len : Nat} {q : Q4} {p : Nat}
theorem LI.hi (h : LI ν od ct π σ ch len q p) : WH (ν 15 0) 20 := (P_in h.1.1).2
theorem LI.hh (h : LI ν od ct π σ ch len q p) : WH (ν 14 0) 8 := (P_lg h.1.1).2
theorem LI.mhi (h : LI ν od ct π σ ch len q p) : WH (mCp σ 0 5 (1560 + 256)) 20 := by
  have K := (RP_begin h.1.1).1.2.2.2.2.1
  rw [K.1]; exact K.2
theorem LI.mhi2 (h : LI ν od ct π σ ch len q p) : WH (σ 256) 20 := by
  have K := P_in h.1.1
  rw [K.1]; exact K.2
theorem LI.mhh (h : LI ν od ct π σ ch len q p) : WH (σ 277) 8 := by
  have K := P_lg h.1.1
  rw [K.1]; exact K.2
theorem LI.hv (h : LI ν od ct π σ ch len q p) : ∀ t a : Nat, t < 4 → a < 4 → WH (u_st ν t a a 6 (t * 4 + a)) 65535 := fun _ _ ht ha => RP_use_W (RP_begin h.1.1) ht ha
theorem LI.mhv (h : LI ν od ct π σ ch len q p) : ∀ t a : Nat, t < 4 → a < 4 → WH (mUse (mCp σ 0 5) 1560 t a a (rgt 1560 t a)) 65535 := fun _ _ ht ha => RP_use_M (RP_begin h.1.1) ht ha
/-- an action -/
theorem LI.act {ν' : NS} {S : MS} {r a R : Int32} {v : Bool} (h : LI ν od ct π σ ch len q p) (K : ActR σ ν ν' r a v R S) : LI ν' (setO r od ct) (setC r ct) (updP π ((od + ct) % 5) ν) (mAS v S ct R σ) ch len q p ∧ mAN v ct R = setC r ct ∧ r = a := by
  have d := act_done h.1 K
  exact ⟨⟨d.1, h.2⟩, d.2.1.symm, d.2.2⟩
theorem LI.undo (h : LI ν od ct π σ ch len q p) : LI (if ct = 0 then ν else π ((od + (ct - 1)) % 5)) od (ct - 1) π (if ct = 0 then σ else mCp σ ct 0) ch len q p := ⟨undo_done h.1, h.2⟩
/-- the text -/
def apO (x : Int32) : Bool := inn x (nI 32) (nI 126)
theorem LI.app {x : Int32} (h : LI ν od ct π σ ch len q p) : LI ν od ct π σ (if inn x (nI 32) (nI 126) then (if len < 90 then updN ch len (tn x) else ch) else ch) (if inn x (nI 32) (nI 126) then (if len < 90 then len + 1 else len) else len) q p ∧ (if inn x (nI 32) (nI 126) then (if len < 90 then nI (len + 1) else -4) else -2) = (if inn x (nI 32) (nI 126) then (if len = 90 then -4 else nI (len + 1)) else -2) ∧ (if inn x (nI 32) (nI 126) then (if len = 90 then len else len + 1) else len) = (if inn x (nI 32) (nI 126) then (if len < 90 then len + 1 else len) else len) ∧ (if inn x (nI 32) (nI 126) then (if len = 90 then ch else updN ch len (tn x)) else ch) = (if inn x (nI 32) (nI 126) then (if len < 90 then updN ch len (tn x) else ch) else ch) := by
  obtain ⟨h1, h2, h3, h4, h5, h6⟩ := h
  cases c : inn x (nI 32) (nI 126) with
  | false =>
    simp only [Bool.false_eq_true, ↓reduceIte]
    exact ⟨⟨h1, h2, h3, h4, h5, h6⟩, trivial, trivial, trivial⟩
  | true =>
    have hx := inn_eq (by decide) (by decide) c
    simp only [↓reduceIte]
    by_cases d : len < 90
    · rw [if_pos d, if_pos d, if_pos d, if_neg (by omega), if_neg (by omega), if_neg (by omega)]
      refine ⟨⟨h1, fun k => ?_, by omega, h4, h5, h6⟩, rfl, rfl, rfl⟩
      unfold updN
      split
      · omega
      · exact h2 k
    · rw [if_neg d, if_neg d, if_neg d, if_pos (by omega), if_pos (by omega), if_pos (by omega)]
      exact ⟨⟨h1, h2, h3, h4, h5, h6⟩, rfl, rfl, rfl⟩
theorem LI.clr (h : LI ν od ct π σ ch len q p) : LI ν od ct π σ ch 0 q p := ⟨h.1, h.2.1, Nat.zero_le 90, h.2.2.2⟩
theorem LI.flt {kd le : Nat} {nu : Nat → Nat} (h : LI ν od ct π σ ch len q p) : LI ν od ct π σ ch len (fF ch len 90 kd (0, q.2)).2.2 (ixT ch len 91 0 le nu).2.1 ∧ (fF ch len 90 kd (0, q.2)).1 = (if (ixT ch len 91 0 le nu).1 then -6 else nI (ixT ch len 91 0 le nu).2.1) := by
  obtain ⟨h1, h2, h3, h4, h5, h6⟩ := h
  exact ⟨⟨h1, h2, h3, fF_le h3 90 kd (0, q.2) (Nat.zero_le 90), fF_pc 90 kd (0, q.2) h5, ixT_le h3 91 0 le nu (Nat.zero_le 90)⟩, q_fault h3⟩
theorem cR_n : ∀ (m : Nat) (ν : NS) (kd : Nat) (q : Q4) (n : Nat), (cR ch len m ν kd q n).1 ≤ n + m
  | 0, _, _, _, _ => Nat.le_refl _
  | m + 1, ν, kd, q, n => by
    unfold cR
    split
    · split
      · show n ≤ n + (m + 1)
        omega
      · have := cR_n m (pfS ν (rXk ch len kd q) (rX ch len q).2.2.1) (rXk ch len kd q) (rX ch len q).2 (n + 1)
        omega
    · show n ≤ n + (m + 1)
      omega
theorem cR_le (hl : len ≤ 90) : ∀ (m : Nat) (ν : NS) (kd : Nat) (q : Q4) (n : Nat), q.1 ≤ 90 → (cR ch len m ν kd q n).2.2.2.1 ≤ 90
  | 0, _, _, _, _, h => h
  | m + 1, ν, kd, q, n, h => by
    unfold cR
    split
    · split
      · exact rX_le hl h
      · exact cR_le hl m _ _ _ _ (rX_le hl h)
    · exact rX_le hl h
theorem cR_pc : ∀ (m : Nat) (ν : NS) (kd : Nat) (q : Q4) (n : Nat), q.2.2 ≤ 5 → (cR ch len m ν kd q n).2.2.2.2.2 ≤ 5
  | 0, _, _, _, _, h => h
  | m + 1, ν, kd, q, n, h => by
    unfold cR
    split
    · split
      · exact rX_pc h
      · exact cR_pc m _ _ _ _ (rX_pc h)
    · exact rX_pc h
theorem cS_le {st : Nat} (hl : len ≤ 90) : ∀ (m : Nat) (ν : NS) (kd : Nat) (q : Q4) (n : Nat), q.1 ≤ 90 → (cS ch len st m ν kd q n).2.2.2.1 ≤ 90
  | 0, _, _, _, _, h => h
  | m + 1, ν, kd, q, n, h => by
    unfold cS
    split
    · split
      · exact rX_le hl h
      · split
        · exact rX_le hl h
        · exact cS_le hl m _ _ _ _ (rX_le hl h)
    · exact rX_le hl h
theorem cS_pc {st : Nat} : ∀ (m : Nat) (ν : NS) (kd : Nat) (q : Q4) (n : Nat), q.2.2 ≤ 5 → (cS ch len st m ν kd q n).2.2.2.2.2 ≤ 5
  | 0, _, _, _, _, h => h
  | m + 1, ν, kd, q, n, h => by
    unfold cS
    split
    · split
      · exact rX_pc h
      · split
        · exact rX_pc h
        · exact cS_pc m _ _ _ _ (rX_pc h)
    · exact rX_pc h
theorem rU_le {st : Int32} (hl : len ≤ 90) : ∀ (m p le n : Nat) (nu : Nat → Nat) (σ : MS) (f : Int32), p ≤ 90 → (rU ch len st m σ p le nu f n).2.2.2.1 ≤ 90
  | 0, _, _, _, _, _, _, h => h
  | m + 1, p, le, n, nu, σ, f, h => by
    unfold rU
    split
    · split
      · exact mOp_le hl h
      · exact rU_le hl m _ _ _ _ _ _ (tkP_le hl (by decide) (mOp_le hl h))
    · exact mOp_le hl h
theorem fF_6 {kd le : Nat} {nu : Nat → Nat} (hl : len ≤ 90) : (fF ch len 90 kd (0, q.2)).1 = -6 ↔ (ixT ch len 91 0 le nu).1 = true := by
  rw [q_fault (le := le) (nu := nu) hl]
  cases c : (ixT ch len 91 0 le nu).1
  · simp only [Bool.false_eq_true, ↓reduceIte, iff_false]
    exact nI_n6 (Nat.lt_of_le_of_lt (ixT_le hl 91 0 le nu (Nat.zero_le 90)) (by decide))
  · simp only [↓reduceIte]
theorem LI.run {kd le : Nat} {nu : Nat → Nat} {kd2 le2 : Nat} {nu2 : Nat → Nat} {q2 : (Nat → Nat) × Nat} {st : Int32} (h : LI ν od ct π σ ch len q p) (hX : (ixT ch len 91 0 le nu).1 = true) (hq2 : q2.2 ≤ 5) :
    LI (cR ch len 90 ν kd2 (0, q2) 0).2.1 (setO (nI (cR ch len 90 ν kd2 (0, q2) 0).1) od ct) (setC (nI (cR ch len 90 ν kd2 (0, q2) 0).1) ct) (updP π ((od + ct) % 5) ν) (mAcc (rU ch len st 91 (mCp σ 0 5) 0 le2 nu2 (-6) 0).2.2.1 ct (nI (rU ch len st 91 (mCp σ 0 5) 0 le2 nu2 (-6) 0).2.1)) ch len (cR ch len 90 ν kd2 (0, q2) 0).2.2.2 (rU ch len st 91 (mCp σ 0 5) 0 le2 nu2 (-6) 0).2.2.2.1 ∧ nAcc ct (nI (rU ch len st 91 (mCp σ 0 5) 0 le2 nu2 (-6) 0).2.1) = setC (nI (cR ch len 90 ν kd2 (0, q2) 0).1) ct ∧ nI (cR ch len 90 ν kd2 (0, q2) 0).1 = nI (rU ch len st 91 (mCp σ 0 5) 0 le2 nu2 (-6) 0).2.1 := by
  obtain ⟨h1, h2, h3, h4, h5, h6⟩ := h
  have g : good ch len 0 := ⟨91, le, nu, hX⟩
  obtain ⟨e, K⟩ := run_eq (st := st) h3 90 0 0 q2.2 kd2 le2 0 q2.1 nu2 ν (mCp σ 0 5) (-6) (RP_begin h1.1) (Or.inl ⟨rfl, rfl, g⟩) (by omega)
  have e : (cR ch len 90 ν kd2 (0, q2) 0).1 = (rU ch len st 91 (mCp σ 0 5) 0 le2 nu2 (-6) 0).2.1 := e
  have K : RP σ (cR ch len 90 ν kd2 (0, q2) 0).2.1 (rU ch len st 91 (mCp σ 0 5) 0 le2 nu2 (-6) 0).2.2.1 := K
  have hn := cR_n (ch := ch) (len := len) 90 ν kd2 (0, q2) 0
  have he : isErr (nI (rU ch len st 91 (mCp σ 0 5) 0 le2 nu2 (-6) 0).2.1) = false := nErrN (by rw [← e]; omega)
  refine ⟨⟨?_, h2, h3, cR_le h3 90 ν kd2 (0, q2) 0 (Nat.zero_le 90), cR_pc 90 ν kd2 (0, q2) 0 hq2, rU_le h3 91 0 le2 0 nu2 (mCp σ 0 5) (-6) (Nat.zero_le 90)⟩, ?_, by rw [e]⟩
  · unfold setO setC mAcc
    rw [e, he, if_neg Bool.false_ne_true, if_neg Bool.false_ne_true, if_neg Bool.false_ne_true]
    exact SR_keep h1 K
  · unfold setC nAcc
    rw [e, he, if_neg Bool.false_ne_true, if_neg Bool.false_ne_true]
    rfl
theorem LI.stp {kd le : Nat} {nu : Nat → Nat} {kd2 le2 : Nat} {nu2 : Nat → Nat} {q2 : (Nat → Nat) × Nat} (h : LI ν od ct π σ ch len q p) (hX : (ixT ch len 91 0 le nu).1 = true) (hq2 : q2.2 ≤ 5) :
    LI ν od ct π (rU ch len (sumI (stT (mCp σ 0 5) 1560) 4) 91 (mCp σ 0 5) 0 le2 nu2 (-6) 0).2.2.1 ch len (cS ch len (cntB (ν 11) 4) 90 ν kd2 (0, q2) 0).2.2.2 (rU ch len (sumI (stT (mCp σ 0 5) 1560) 4) 91 (mCp σ 0 5) 0 le2 nu2 (-6) 0).2.2.2.1 ∧ (cS ch len (cntB (ν 11) 4) 90 ν kd2 (0, q2) 0).1 = (rU ch len (sumI (stT (mCp σ 0 5) 1560) 4) 91 (mCp σ 0 5) 0 le2 nu2 (-6) 0).1 := by
  obtain ⟨h1, h2, h3, h4, h5, h6⟩ := h
  have g : good ch len 0 := ⟨91, le, nu, hX⟩
  have B := RP_begin h1.1
  rw [stT_eq B]
  have K := (run_eq (st := nI (cntB (ν 11) 4)) h3 90 0 0 q2.2 kd2 le2 0 q2.1 nu2 ν (mCp σ 0 5) (-6) B (Or.inl ⟨rfl, rfl, g⟩) (by omega)).2.2
  have e := stop_eq h3 (cntB_le (ν 11) 4) 90 0 0 q2.2 kd2 le2 0 q2.1 nu2 ν (mCp σ 0 5) B (Or.inl ⟨rfl, rfl, g⟩) (by omega) (by omega)
  exact ⟨⟨SR_below h1 K, h2, h3, cS_le h3 90 ν kd2 (0, q2) 0 (Nat.zero_le 90), cS_pc 90 ν kd2 (0, q2) 0 hq2, rU_le h3 91 0 le2 0 nu2 (mCp σ 0 5) (-6) (Nat.zero_le 90)⟩, e⟩
end LIS
