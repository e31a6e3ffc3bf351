/-! the actions: each keeps PI, an error leaves the state, and there is at most one fault -/
def AO (ν : NS) (r : Int32) (ν' : NS) : Prop := PI ν' ∧ (isErr r = true → ν' = ν) ∧ (ν' 14 1 = ν 14 1 ∨ ν' 14 1 = ν 14 1 + nI 1)
theorem nErr {x : Int32} {n : Nat} (h : WH x n) (hn : n < 2 ^ 31) : isErr x = false := by
  unfold isErr
  rw [h.1, decide_eq_false (nI_pos (by have := h.2; omega))]
  rfl
theorem nErrB {u : Bool} : isErr (bI u) = false := by cases u <;> rfl
theorem nErrN {k : Nat} (h : k < 2 ^ 31) : isErr (nI k) = false := nErr (n := k) ⟨by rw [tn_nI h], by rw [tn_nI h]; exact Nat.le_refl k⟩ h
theorem cnt_s (p : Nat → Bool) (m : Nat) : cnt p (m + 1) = if p m then cnt p m + 1 else cnt p m := rfl
theorem cntB_le (f : Nat → Int32) (m : Nat) : cntB f m ≤ m := cnt_le _ _
section ACT
variable {ν : NS}
theorem AO.no {r : Int32} (H : PI ν) : AO ν r ν := ⟨H, fun _ => rfl, Or.inl rfl⟩
theorem AO.ok {r : Int32} {ν' : NS} (H : PI ν') (he : isErr r = false) (hf : ν' 14 1 = ν 14 1 ∨ ν' 14 1 = ν 14 1 + nI 1) : AO ν r ν' := ⟨H, fun q => absurd (he.symm.trans q) (by decide), hf⟩
theorem A_inj {x : Int32} (H : PI ν) : AO ν (r_inj ν x) (s_inj ν x) := by
  unfold s_inj r_inj
  split
  · rename_i c
    split
    · exact AO.no H
    · exact AO.ok (PI_inj H (iN_lt c (by decide)) (by omega)) (nErrN (by have := H.hi.2; omega)) (Or.inl rfl)
  · exact AO.no H
theorem A_cpy {x y c : Int32} {β : NS} (H : PI ν) : AO ν (r_cpy ν β x y c) (s_cpy ν β x y c) := by
  cases h : cpOk x y c with
  | false =>
    have e : s_cpy ν β x y c = ν := by unfold s_cpy; rw [h, if_neg Bool.false_ne_true]
    rw [e]; exact AO.no H
  | true =>
    have e : s_cpy ν β x y c = putN (fetN ν (tn x) (tn c)) (blN ν β (tn x) (tn c)) (tn y) (tn c) := by unfold s_cpy; rw [h, if_pos rfl]
    have h0 := h
    unfold cpOk at h
    simp only [Bool.and_eq_true] at h
    obtain ⟨h1, h2, h3, h4, h5⟩ := h
    have a1 := iN_lt h1 (by decide)
    have a2 := iN_lt h2 (by decide)
    obtain ⟨-, a3, a4⟩ := iB_eq h3
    have l1 := iN_lt h4 (by decide)
    have l2 := iN_lt h5 (by decide)
    rw [tn_nI (by omega)] at l1 l2
    have er : r_cpy ν β x y c = nI (cntP (s_cpy ν β x y c 1) (tn y) (tn y + tn c - tn y)) := by
      unfold r_cpy
      rw [h1, h2, h3, h4, h5]
      rfl
    have K := PI_fetN H (f := tn x) (tn c) (by omega)
    have hb : ∀ i, i < tn c → WH (blN ν β (tn x) (tn c) 0 i) 65535 ∧ ∃ z, mk (tn (ν 15 0)) z (blN ν β (tn x) (tn c) 1 i) (blN ν β (tn x) (tn c) 2 i) := by
      intro i hi
      have a := bl_v (ν := ν) (f := tn x) (β := β) (tn c) i hi
      have d := (PI_fetN H (f := tn x) (i + 1) (by omega)).w (k := tn x + i) (by omega)
      rw [n_fetN] at d
      rw [a.1, a.2.1, a.2.2]
      exact ⟨d.1, _, d.2⟩
    have L := (PI_putN (t := tn y) hb (tn c) (Nat.le_refl _) (by omega) K (by rw [n_fetN])).1
    rw [er, e]
    refine AO.ok L (nErrN (Nat.lt_of_le_of_lt (cnt_le _ _) (by omega))) (Or.inl ?_)
    rw [l_putN, l_fetN]
theorem A_fil {x c y : Int32} (H : PI ν) : AO ν (r_fil ν x c y) (s_fil ν x c y) := by
  cases h : filOk x c y with
  | false =>
    have e : s_fil ν x c y = ν := by unfold s_fil; rw [h, if_neg Bool.false_ne_true]
    rw [e]; exact AO.no H
  | true =>
    have e : s_fil ν x c y = filN ν (tn x) (nI (tn y)) (tn c) := by unfold s_fil; rw [h, if_pos rfl]
    unfold filOk at h
    simp only [Bool.and_eq_true] at h
    obtain ⟨h1, h2, h3, h4⟩ := h
    have a1 := iN_lt h1 (by decide)
    have a3 := iN_lt h3 (by decide)
    obtain ⟨-, a4, a5⟩ := iB_eq h2
    have l1 := iN_lt h4 (by decide)
    rw [tn_nI (by omega)] at l1
    have er : r_fil ν x c y = nI (cntP (ν 1) (tn x) (tn x + tn c - tn x)) := by
      unfold r_fil
      rw [h1, h2, h3, h4]
      rfl
    rw [er, e]
    refine AO.ok (PI_filN H a3 (tn c) (by omega)) (nErrN (Nat.lt_of_le_of_lt (cnt_le _ _) (by omega))) (Or.inl ?_)
    rw [l_filN]
theorem A_mir {x : Int32} {u : Bool} (H : PI ν) : AO ν (r_mir ν x u) (s_mir ν x u) := by
  unfold s_mir r_mir
  split
  · rename_i c
    have a1 := iN_lt c (by decide)
    refine AO.ok (PI_upd (PI_upd (PI_upd (PI_upd (PI_9 H) (by omega)) (by omega)) (by omega)) (by omega)) (nErrN (Nat.lt_of_le_of_lt (cntB_le _ _) (by decide))) (Or.inl ?_)
    unfold mirS
    rw [l_upd, l_upd, l_upd, l_upd]
    rfl
  · exact AO.no H
theorem heal_1 {μ : NS} {w : Nat} : c_fetch μ w 15 1 = μ 15 1 + bI (canH μ w) := by
  unfold c_fetch
  cases canH μ w
  · rw [if_neg Bool.false_ne_true, show bI false = (0 : Int32) from nI_0, Int32.add_zero]
  · rw [if_pos rfl]; rfl
theorem add_cancel (a b : Int32) : a + b - a = b := by rw [Int32.add_comm, Int32.add_sub_cancel]
/-- a fetch of one word leaves what may be healed elsewhere -/
theorem canH_o {μ : NS} {w k : Nat} (h : k ≠ w) : canH (c_fetch μ w) k = canH μ k := by
  unfold c_fetch; split
  · unfold canH
    show (ps (upd (μ 1) w (μ 4 w) k) && _) = _
    rw [upd_o h]
    rfl
  · rfl
theorem canH_s {μ : NS} {w : Nat} : canH (c_fetch μ w) w = false := by
  unfold c_fetch
  cases c : canH μ w
  · rw [if_neg Bool.false_ne_true]; exact c
  · rw [if_pos rfl]
    unfold canH at c ⊢
    simp only [Bool.and_eq_true, Bool.not_eq_true'] at c
    show (ps (upd (μ 1) w (μ 4 w) w) && _) = false
    rw [upd_s, c.2.2]
    rfl
theorem cnt_4 (p : Nat → Bool) : cnt p 4 = (fun f : Bool → Nat → Nat => f (p 3) (f (p 2) (f (p 1) (f (p 0) 0)))) (fun b n => if b then n + 1 else n) := rfl
theorem bI4 (a b c d : Bool) : bI a + bI b + bI c + bI d = nI ((fun f : Bool → Nat → Nat => f d (f c (f b (f a 0)))) (fun b n => if b then n + 1 else n)) := by
  cases a <;> cases b <;> cases c <;> cases d <;> decide
/-- what a page's scrubbing heals -/
theorem scr_n {p : Nat} : scrS ν p 15 1 = ν 15 1 + nI (cntH ν (p * 4) 4) := by
  unfold scrS
  rw [heal_1, heal_1, heal_1, heal_1, canH_o (show p * 4 + 3 ≠ p * 4 + 2 by omega), canH_o (show p * 4 + 3 ≠ p * 4 + 1 by omega), canH_o (show p * 4 + 3 ≠ p * 4 + 0 by omega), canH_o (show p * 4 + 2 ≠ p * 4 + 1 by omega), canH_o (show p * 4 + 2 ≠ p * 4 + 0 by omega), canH_o (show p * 4 + 1 ≠ p * 4 + 0 by omega)]
  unfold cntH
  rw [cnt_4, ← bI4, Int32.add_assoc, Int32.add_assoc, Int32.add_assoc, Int32.add_assoc, Int32.add_assoc]
theorem scr_r {p : Nat} (hp : p < 8) : r_scr ν (nI p) = nI (cntH ν (p * 4) 4) := by
  unfold r_scr
  rw [iN_nI (by omega) (by decide), decide_eq_true hp, if_pos rfl, tn_nI (by omega), scr_n, add_cancel]
theorem PI_scr {p : Nat} (H : PI ν) (hp : p < 8) : PI (scrS ν p) := PI_fetch (PI_fetch (PI_fetch (PI_fetch H (by omega)) (by omega)) (by omega)) (by omega)
theorem A_scr {x : Int32} (H : PI ν) : AO ν (r_scr ν x) (s_scr ν x) := by
  unfold s_scr r_scr
  split
  · rename_i c
    have a1 := iN_lt c (by decide)
    rw [scr_n, add_cancel]
    refine AO.ok (PI_scr H a1) (nErrN (Nat.lt_of_le_of_lt (cnt_le _ _) (by decide))) (Or.inl ?_)
    unfold scrS
    rw [l_fetch, l_fetch, l_fetch, l_fetch]
  · exact AO.no H
theorem A_mod {t m : Int32} (H : PI ν) : AO ν (r_mod ν t m) (s_mod ν t m) := by
  unfold s_mod
  split
  · rename_i c
    simp only [Bool.and_eq_true] at c
    have a1 := iN_lt c.1 (by decide)
    have a2 := iN_lt c.2 (by decide)
    have e : r_mod ν t m = ν 10 (tn t) := by unfold r_mod; rw [c.1, c.2]; rfl
    rw [e]
    exact AO.ok (PI_10 H (by omega)) (nErr (H.m a1) (by decide)) (Or.inl rfl)
  · exact AO.no H
theorem A_res {t : Int32} (H : PI ν) : AO ν (r_res ν t) (s_res ν t) := by
  unfold s_res r_res
  split
  · have z : WH (nI 0) 65535 := WH_0 (by decide)
    exact AO.ok (PI_11 (PI_cleanR (PI_cleanR (PI_cleanR (PI_cleanR H z) z) z) z)) (nErrN (Nat.lt_of_le_of_lt (cnt_le _ _) (by omega))) (Or.inl rfl)
  · exact AO.no H
theorem A_giv {t r x : Int32} (H : PI ν) : AO ν (r_giv ν t r x) (s_giv ν t r x) := by
  unfold s_giv
  split
  · rename_i c
    simp only [Bool.and_eq_true, Bool.not_eq_true'] at c
    obtain ⟨c1, c2, c3, c4⟩ := c
    have a1 := iN_lt c1 (by decide)
    have a2 := iN_lt c2 (by decide)
    have a3 := iN_lt c3 (by decide)
    have e : r_giv ν t r x = ν 6 (tn t * 4 + tn r) := by unfold r_giv; rw [c1, c2, c3, c4]; rfl
    rw [e]
    exact AO.ok (PI_cleanR H (WH_n (by omega) (by decide))) (nErr (H.r (by omega)).1 (by decide)) (Or.inl rfl)
  · exact AO.no H
theorem A_ld {t r w : Int32} (H : PI ν) : AO ν (r_ld ν t r w) (s_ld ν t r w) := by
  unfold s_ld
  split
  · rename_i c
    simp only [Bool.and_eq_true, Bool.not_eq_true'] at c
    obtain ⟨c1, c2, c3, c4⟩ := c
    have a3 := iN_lt c3 (by decide)
    have e : r_ld ν t r w = c_fetch ν (tn w) 0 (tn w) := by unfold r_ld; rw [c1, c2, c3, c4]; rfl
    rw [e]
    exact AO.ok (PI_take H a3) (nErr ((PI_fetch H a3).w a3).1 (by decide)) (Or.inl (by rw [l_take]))
  · exact AO.no H
theorem A_ldb {t r w p : Int32} (H : PI ν) : AO ν (r_ldb ν t r w p) (s_ldb ν t r w p) := by
  unfold s_ldb
  split
  · rename_i c
    simp only [Bool.and_eq_true, Bool.not_eq_true'] at c
    obtain ⟨c1, c2, c3, c4, c5⟩ := c
    have a3 := iN_lt c3 (by decide)
    have a4 := iN_lt c4 (by decide)
    have e : r_ldb ν t r w p = byt (c_fetch ν (tn w) 0 (tn w)) (tn p) := by unfold r_ldb; rw [c1, c2, c3, c4, c5]; rfl
    have K := PI_ldp (k := tn t * 4 + tn r) H a3 a4
    rw [e]
    exact AO.ok K.1 (nErr K.2 (by decide)) (Or.inl (by show c_take ν (tn t * 4 + tn r) (tn w) 14 1 = _; rw [l_take]))
  · exact AO.no H
theorem A_sto {t r w : Int32} (H : PI ν) : AO ν (r_sto ν t r w) (s_sto ν t r w) := by
  unfold s_sto
  split
  · rename_i c
    simp only [Bool.and_eq_true, Bool.not_eq_true'] at c
    obtain ⟨c1, c2, c3, c4⟩ := c
    have a1 := iN_lt c1 (by decide)
    have a2 := iN_lt c2 (by decide)
    have a3 := iN_lt c3 (by decide)
    have e : r_sto ν t r w = bI (ps (stoS ν (tn t * 4 + tn r) (tn w) 1 (tn w))) := by unfold r_sto; rw [c1, c2, c3, c4]; rfl
    rw [e]
    exact AO.ok (PI_sto H (by omega) a3) nErrB (Or.inl (by show c_put ν (tn w) _ _ _ 14 1 = _; rw [l_put]))
  · exact AO.no H
theorem A_stb {t r w p : Int32} (H : PI ν) : AO ν (r_stb ν t r w p) (s_stb ν t r w p) := by
  unfold s_stb
  split
  · rename_i c
    simp only [Bool.and_eq_true, Bool.not_eq_true'] at c
    obtain ⟨c1, c2, c3, c4, c5⟩ := c
    have a1 := iN_lt c1 (by decide)
    have a2 := iN_lt c2 (by decide)
    have a3 := iN_lt c3 (by decide)
    have a4 := iN_lt c4 (by decide)
    have e : r_stb ν t r w p = bI (ps (stbS ν (tn t * 4 + tn r) (tn w) (tn p) 1 (tn w))) := by unfold r_stb; rw [c1, c2, c3, c4, c5]; rfl
    rw [e]
    exact AO.ok (PI_stb H (by omega) a3 a4) nErrB (Or.inl (by rw [l_stb]))
  · exact AO.no H
theorem A_mov {t a b : Int32} (H : PI ν) : AO ν (r_mov ν t a b) (s_mov ν t a b) := by
  unfold s_mov
  split
  · rename_i c
    simp only [Bool.and_eq_true, Bool.not_eq_true'] at c
    obtain ⟨c1, c2, c3, c4⟩ := c
    have a1 := iN_lt c1 (by decide)
    have a3 := iN_lt c3 (by decide)
    have e : r_mov ν t a b = ν 6 (tn t * 4 + tn b) := by unfold r_mov; rw [c1, c2, c3, c4]; rfl
    rw [e]
    exact AO.ok (PI_mov H (by omega)) (nErr (H.r (by omega)).1 (by decide)) (Or.inl rfl)
  · exact AO.no H
theorem xor_self (x : Int32) : x ^^^ x = nI 0 := by
  apply Int32.toBitVec_inj.1
  show x.toBitVec ^^^ x.toBitVec = BitVec.ofNat 32 0
  rw [BitVec.xor_self]
theorem A_cmp {t q c a b : Int32} (H : PI ν) : AO ν (r_cmp ν t q c a b) (s_cmp ν t q c a b) := by
  unfold s_cmp
  split
  · rename_i h
    unfold cmpOk at h
    simp only [Bool.and_eq_true, Bool.not_eq_true'] at h
    obtain ⟨⟨h1, h2, h3, h4, h5⟩, h6⟩ := h
    have a1 := iN_lt h1 (by decide)
    have a2 := iN_lt h2 (by decide)
    have a3 := iN_lt h3 (by decide)
    have a4 := iN_lt h4 (by decide)
    have e : r_cmp ν t q c a b = if cmpD ν (tn t) (tn q) (tn a) (tn b) then cmpV ν (tn t) (tn q) (tn a) (tn b) else -7 := by unfold r_cmp; rw [h1, h2, h3, h4, h5, h6]; rfl
    have K : PI (cmpU ν (tn t) (tn q) (tn a) (tn b)) := by
      unfold cmpU; split
      · exact H
      · exact PI_use H
    have F : cmpU ν (tn t) (tn q) (tn a) (tn b) 14 1 = ν 14 1 ∨ cmpU ν (tn t) (tn q) (tn a) (tn b) 14 1 = ν 14 1 + nI 1 := by
      unfold cmpU; split
      · exact Or.inl rfl
      · exact l_use
    have V : WH (cmpV ν (tn t) (tn q) (tn a) (tn b)) 65535 := by
      have ca := (K.r (k := tn t * 4 + tn a) (by omega)).1
      have cb := (K.r (k := tn t * 4 + tn b) (by omega)).1
      unfold cmpV
      rw [ca.1, cb.1]
      exact calq_W (by have := ca.2; omega) (by have := cb.2; omega)
    rw [e]
    split
    · exact AO.ok (PI_cleanR K V) (nErr V (by decide)) F
    · exact AO.ok K (by decide) F
  · exact AO.no H
theorem A_lad {t c a : Int32} (H : PI ν) : AO ν (r_lad ν t c a) (s_lad ν t c a) := by
  unfold s_lad
  split
  · rename_i h
    simp only [Bool.and_eq_true, Bool.not_eq_true'] at h
    obtain ⟨h1, h2, h3, h4⟩ := h
    have e : r_lad ν t c a = if u_ok ν (tn t) (tn a) (tn a) then c_fetch (u_st ν (tn t) (tn a) (tn a)) (ladW ν (tn t) (tn a)) 0 (ladW ν (tn t) (tn a)) else -7 := by unfold r_lad; rw [h1, h2, h3, h4]; rfl
    have K : PI (u_st ν (tn t) (tn a) (tn a)) := PI_use H
    have lw : ladW ν (tn t) (tn a) < 32 := Nat.mod_lt _ (by decide)
    rw [e]
    split
    · refine AO.ok (PI_take K lw) (nErr ((PI_fetch K lw).w lw).1 (by decide)) ?_
      rw [l_take]
      exact l_use
    · exact AO.ok K (by decide) l_use
  · exact AO.no H
theorem A_out {t a : Int32} (H : PI ν) : AO ν (r_out ν t a) (s_out ν t a) := by
  unfold s_out
  split
  · rename_i h
    simp only [Bool.and_eq_true, Bool.not_eq_true'] at h
    obtain ⟨h1, h2, h3⟩ := h
    have a1 := iN_lt h1 (by decide)
    have a2 := iN_lt h2 (by decide)
    have e : r_out ν t a = if u_ok ν (tn t) (tn a) (tn a) then u_st ν (tn t) (tn a) (tn a) 6 (tn t * 4 + tn a) else -7 := by unfold r_out; rw [h1, h2, h3]; rfl
    have K : PI (u_st ν (tn t) (tn a) (tn a)) := PI_use H
    rw [e]
    split
    · exact AO.ok K (nErr (K.r (by omega)).1 (by decide)) l_use
    · exact AO.ok K (by decide) l_use
  · exact AO.no H
end ACT
