/-! what the law asks of a state -/
/-- the number of all -/
def sumC (f : Nat → Nat) : Nat → Nat
  | 0 => 0
  | m + 1 => sumC f m + f m
theorem sumC_e (f g : Nat → Nat) : ∀ n : Nat, (∀ k, k < n → f k = g k) → sumC f n = sumC g n
  | 0, _ => rfl
  | n + 1, h => by
    show sumC f n + f n = sumC g n + g n
    rw [sumC_e f g n (fun k hk => h k (by omega)), h n (by omega)]
theorem sumC_a (f g : Nat → Nat) : ∀ n : Nat, sumC (fun k => f k + g k) n = sumC f n + sumC g n
  | 0 => rfl
  | n + 1 => by
    show sumC (fun k => f k + g k) n + (f n + g n) = (sumC f n + f n) + (sumC g n + g n)
    rw [sumC_a f g n]; omega
theorem sumC_0 (f : Nat → Nat) : ∀ n : Nat, (∀ k, k < n → f k = 0) → sumC f n = 0
  | 0, _ => rfl
  | n + 1, h => by
    show sumC f n + f n = 0
    rw [sumC_0 f n (fun k hk => h k (by omega)), h n (by omega)]
theorem sumC_1 {f : Nat → Nat} {j : Nat} : ∀ n : Nat, j < n → f j = 1 → (∀ k, k ≠ j → k < n → f k = 0) → sumC f n = 1
  | 0, h, _, _ => absurd h (by omega)
  | n + 1, h, h1, h0 => by
    show sumC f n + f n = 1
    by_cases e : j = n
    · rw [← e, h1, sumC_0 f j (fun k hk => h0 k (by omega) (by omega))]
    · rw [sumC_1 n (by omega) h1 (fun k a b => h0 k a (by omega)), h0 n (fun q => e q.symm) (by omega)]
theorem sumC_le (f : Nat → Nat) (B : Nat) : ∀ n : Nat, (∀ k, k < n → f k ≤ B) → sumC f n ≤ n * B
  | 0, _ => Nat.zero_le _
  | n + 1, h => by
    show sumC f n + f n ≤ _
    have a := sumC_le f B n (fun k hk => h k (by omega))
    have b := h n (by omega)
    rw [Nat.succ_mul]; omega
theorem sumC_z (f : Nat → Nat) : ∀ n : Nat, sumC f n = 0 → ∀ k, k < n → f k = 0
  | 0, _, _, h => absurd h (by omega)
  | n + 1, h, k, hk => by
    have h : sumC f n + f n = 0 := h
    by_cases e : k = n
    · rw [e]; omega
    · exact sumC_z f n (by omega) k (by omega)
/-- each marked cell has one origin: the carriers of all origins are the marked cells -/
theorem car_o {o : Nat → Int32} {n : Nat} (hn : n ≤ 20) : ∀ m : Nat, (∀ k, k < m → o k = -6 ∨ ∃ j, j < n ∧ o k = nI j) → sumC (fun j => cntE o (nI j) m) n = cnt (fun k => ps (o k)) m
  | 0, _ => sumC_0 _ n (fun _ _ => rfl)
  | m + 1, h => by
    have ih := car_o hn m (fun k hk => h k (by omega))
    have e : ∀ j, j < n → cntE o (nI j) (m + 1) = cntE o (nI j) m + (if o m = nI j then 1 else 0) := by
      intro j hj
      show (if decide (o m = nI j) = true then cntE o (nI j) m + 1 else cntE o (nI j) m) = _
      by_cases c : o m = nI j
      · rw [if_pos c, if_pos (decide_eq_true c)]
      · rw [if_neg c, if_neg (by rw [decide_eq_false c]; exact Bool.false_ne_true)]; rfl
    rw [sumC_e _ _ n e, sumC_a, ih, cnt_s]
    rcases h m (by omega) with c | ⟨j, hj, c⟩
    · rw [c, ps_6, if_neg Bool.false_ne_true, sumC_0 _ n (fun k hk => if_neg (fun q => nI_n6 (show k < 2 ^ 31 by omega) q.symm))]
      rfl
    · rw [c, ps_n (by omega), if_pos rfl, sumC_1 (f := fun k => if nI j = nI k then 1 else 0) (j := j) n hj (if_pos rfl) (fun k hk hk2 => if_neg (fun q => hk ((nI_eq (by omega) (by omega)).mp (Eq.symm q))))]
theorem mk_o {n : Nat} {z : Nat → Prop} {o h : Int32} (H : mk n z o h) : o = -6 ∨ ∃ j, j < n ∧ o = nI j := by
  rcases H with ⟨e, -⟩ | ⟨j, i, e, -, h1, -⟩
  · exact Or.inl e
  · exact Or.inr ⟨j, h1, e⟩
theorem mk_h {n : Nat} {z : Nat → Prop} {o h : Int32} (H : mk n z o h) (ho : o ≠ -6) : ∃ i, i ≤ 99 ∧ h = nI i := by
  rcases H with ⟨e, -⟩ | ⟨j, i, -, e, -, h1, -⟩
  · exact absurd e ho
  · exact ⟨i, h1, e⟩
section OBS
variable {ν : NS} {k n : Nat} {x : Int32}
def carC (ν : NS) (k : Nat) : Nat := carr ν (nI k)
theorem carr_le : carr ν x ≤ 48 := by
  have a := cnt_le (fun k => decide (ν 1 k = x)) 32
  have b := cnt_le (fun k => decide (ν 7 k = x)) 16
  unfold carr cntE; omega
/-- the carriers of all poisons are the poisoned words and registers -/
theorem car_all (H : PI ν) : sumC (carC ν) (tn (ν 15 0)) = cntP (ν 1) 0 32 + cntP (ν 7) 0 16 := by
  have hn := H.hi.2
  have a := car_o (o := ν 1) hn 32 (fun k hk => mk_o (H.w hk).2)
  have b := car_o (o := ν 7) hn 16 (fun k hk => mk_o (H.r hk).2)
  show sumC (fun j => cntE (ν 1) (nI j) 32 + cntE (ν 7) (nI j) 16) _ = _
  rw [sumC_a, a, b]
  unfold cntP
  simp only [Nat.zero_add]
/-- the greatest of some, and its place -/
theorem wiM_n (c : Nat → Nat) (hc : ∀ k, c k < 2 ^ 31) : ∀ n : Nat, n < 2 ^ 31 → ∃ B : Nat, (wiM (fun k => nI (c k)) n).2 = nI B ∧ B < 2 ^ 31 ∧ (∀ k, k < n → c k ≤ B) ∧ ((B = 0 ∧ (wiM (fun k => nI (c k)) n).1 = -6) ∨ (0 < B ∧ ∃ k, k < n ∧ c k = B ∧ (wiM (fun k => nI (c k)) n).1 = nI k))
  | 0, _ => ⟨0, rfl, by decide, fun k hk => absurd hk (by omega), Or.inl ⟨rfl, rfl⟩⟩
  | n + 1, hn => by
    obtain ⟨B, h1, h2, h3, h4⟩ := wiM_n c hc n (by omega)
    have e : wiM (fun k => nI (c k)) (n + 1) = if (wiM (fun k => nI (c k)) n).2 < nI (c n) then (nI n, nI (c n)) else wiM (fun k => nI (c k)) n := rfl
    rw [e, h1]
    by_cases q : B < c n
    · rw [if_pos ((nI_ltI h2 (hc n)).mpr q)]
      refine ⟨c n, rfl, hc n, fun k hk => ?_, Or.inr ⟨by omega, n, by omega, rfl, rfl⟩⟩
      by_cases e2 : k = n
      · rw [e2]; exact Nat.le_refl _
      · have := h3 k (by omega); omega
    · rw [if_neg (fun z => q ((nI_ltI h2 (hc n)).mp z))]
      refine ⟨B, h1, h2, fun k hk => ?_, ?_⟩
      · by_cases e2 : k = n
        · rw [e2]; omega
        · exact h3 k (by omega)
      · rcases h4 with h4 | ⟨h5, k, h6, h7, h8⟩
        · exact Or.inl h4
        · exact Or.inr ⟨h5, k, by omega, h7, h8⟩
def widC (ν : NS) : Int32 := (wiM (fun k => nI (carr ν (nI k))) (tn (ν 15 0))).1
/-- the injection with the most carriers -/
theorem wid_all (H : PI ν) : (widC ν = -6 ∧ ∀ k, k < tn (ν 15 0) → carC ν k = 0) ∨ ∃ j, j < tn (ν 15 0) ∧ widC ν = nI j ∧ 0 < carC ν j ∧ ∀ k, k < tn (ν 15 0) → carC ν k ≤ carC ν j := by
  have hn := H.hi.2
  obtain ⟨B, -, -, h3, h4⟩ := wiM_n (carC ν) (fun k => Nat.lt_of_le_of_lt carr_le (by decide)) (tn (ν 15 0)) (by omega)
  rcases h4 with ⟨e1, e2⟩ | ⟨e1, j, e2, e3, e4⟩
  · exact Or.inl ⟨e2, fun k hk => by have := h3 k hk; omega⟩
  · exact Or.inr ⟨j, e2, e4, by omega, fun k hk => by rw [e3]; exact h3 k hk⟩
theorem lt6 {i : Nat} (hi : i ≤ 99) : (-6 : Int32) < nI i := by
  rw [Int32.lt_iff_toInt_lt, nI_toInt (by omega)]
  have e : (-6 : Int32).toInt = -6 := by decide
  omega
/-- the most hops of some, or none -/
theorem mh_n {o h : Nat → Int32} : ∀ m : Nat, (∀ k, k < m → o k = x → ∃ i, i ≤ 99 ∧ h k = nI i) → (mh o h x m = -6 ∧ cntE o x m = 0) ∨ (0 < cntE o x m ∧ ∃ i, i ≤ 99 ∧ mh o h x m = nI i)
  | 0, _ => Or.inl ⟨rfl, rfl⟩
  | m + 1, hh => by
    have ih := mh_n m (fun k hk => hh k (by omega))
    have e1 : mh o h x (m + 1) = if o m = x then (if mh o h x m < h m then h m else mh o h x m) else mh o h x m := rfl
    have e2 : cntE o x (m + 1) = if decide (o m = x) = true then cntE o x m + 1 else cntE o x m := rfl
    rw [e1, e2]
    by_cases c : o m = x
    · obtain ⟨i, hi, ei⟩ := hh m (by omega) c
      rw [if_pos c, if_pos (decide_eq_true c)]
      right
      refine ⟨by omega, ?_⟩
      rcases ih with ⟨a, -⟩ | ⟨-, j, hj, a⟩
      · rw [a, ei]
        rw [if_pos (lt6 hi)]
        exact ⟨i, hi, rfl⟩
      · rw [a, ei]
        split
        · exact ⟨i, hi, rfl⟩
        · exact ⟨j, hj, rfl⟩
    · rw [if_neg c, if_neg (by rw [decide_eq_false c]; exact Bool.false_ne_true)]
      exact ih
def farC (ν : NS) (x : Int32) : Int32 := if mh (ν 1) (ν 2) x 32 < mh (ν 7) (ν 8) x 16 then mh (ν 7) (ν 8) x 16 else mh (ν 1) (ν 2) x 32
/-- a poison has a farthest carrier just if it has carriers -/
theorem far_all (H : PI ν) (hk : k < 20) : farC ν (nI k) = -6 ↔ carC ν k = 0 := by
  have h6 : nI k ≠ -6 := nI_n6 (by omega)
  have a := mh_n (x := nI k) (o := ν 1) (h := ν 2) 32 (fun j hj e => mk_h (H.w hj).2 (by rw [e]; exact h6))
  have b := mh_n (x := nI k) (o := ν 7) (h := ν 8) 16 (fun j hj e => mk_h (H.r hj).2 (by rw [e]; exact h6))
  have lt6 : ∀ i : Nat, i ≤ 99 → (-6 : Int32) < nI i := fun i hi => by
    rw [Int32.lt_iff_toInt_lt, nI_toInt (by omega)]
    have e : (-6 : Int32).toInt = -6 := by decide
    omega
  have nlt6 : ∀ i : Nat, i ≤ 99 → ¬ nI i < (-6 : Int32) := fun i hi => by
    rw [Int32.lt_iff_toInt_lt, nI_toInt (by omega)]
    have e : (-6 : Int32).toInt = -6 := by decide
    omega
  unfold farC carC carr
  rcases a with ⟨a1, a2⟩ | ⟨a1, i, hi, a2⟩
  · rcases b with ⟨b1, b2⟩ | ⟨b1, j, hj, b2⟩
    · rw [a1, b1, a2, b2, if_neg (by decide)]
      exact ⟨fun _ => rfl, fun _ => rfl⟩
    · rw [a1, b2, a2, if_pos (lt6 j hj)]
      exact ⟨fun q => absurd q (nI_n6 (by omega)), fun q => absurd q (by omega)⟩
  · rcases b with ⟨b1, b2⟩ | ⟨b1, j, hj, b2⟩
    · rw [a2, b1, b2, if_neg (nlt6 i hi)]
      exact ⟨fun q => absurd q (nI_n6 (by omega)), fun q => absurd q (by omega)⟩
    · rw [a2, b2]
      split
      · exact ⟨fun q => absurd q (nI_n6 (by omega)), fun q => absurd q (by omega)⟩
      · exact ⟨fun q => absurd q (nI_n6 (by omega)), fun q => absurd q (by omega)⟩
/-- the law's own mask of the tasks at risk -/
def arG (ν : NS) (k : Nat) : Bool := !bz (ν 11 (k / 4)) && ps (ν 7 k)
def arN (ν : NS) : Nat → Int32
  | 0 => nI 0
  | k + 1 => arN ν k ||| (if arG ν k then nI 1 <<< (nI (k / 4) &&& 31) else nI 0)
theorem or_0 (a : Int32) : a ||| nI 0 = a := by
  apply Int32.toBitVec_inj.1
  show a.toBitVec ||| BitVec.ofNat 32 0 = a.toBitVec
  simp
theorem or_2 (a b : Int32) : (a ||| b) ||| b = a ||| b := by
  apply Int32.toBitVec_inj.1
  show (a.toBitVec ||| b.toBitVec) ||| b.toBitVec = a.toBitVec ||| b.toBitVec
  rw [BitVec.or_assoc, BitVec.or_self]
theorem ar_t (M B : Int32) (s p0 p1 p2 p3 : Bool) : (((M ||| (if !s && p0 then B else nI 0)) ||| (if !s && p1 then B else nI 0)) ||| (if !s && p2 then B else nI 0)) ||| (if !s && p3 then B else nI 0) = if !s && (p0 || p1 || p2 || p3) then M ||| B else M := by
  cases s <;> cases p0 <;> cases p1 <;> cases p2 <;> cases p3 <;> simp [or_0, or_2]
theorem cnt_pos4 (p : Nat → Bool) : decide (0 < cnt p 4) = (p 0 || p 1 || p 2 || p 3) := by
  rw [cnt_4]
  cases p 0 <;> cases p 1 <;> cases p 2 <;> cases p 3 <;> rfl
theorem arG_4 {t j : Nat} (hj : j < 4) (hk : k = t * 4 + j) : arG ν k = (!bz (ν 11 t) && ps (ν 7 (t * 4 + j))) := by
  unfold arG
  rw [hk, show (t * 4 + j) / 4 = t by omega]
theorem ar_s {t : Nat} (e : arN ν (t * 4) = arC ν t) : arN ν ((t + 1) * 4) = arC ν (t + 1) := by
  have d : (t + 1) * 4 = t * 4 + 1 + 1 + 1 + 1 := by omega
  rw [d]
  show (((arN ν (t * 4) ||| (if arG ν (t * 4) then nI 1 <<< (nI (t * 4 / 4) &&& 31) else nI 0)) ||| (if arG ν (t * 4 + 1) then nI 1 <<< (nI ((t * 4 + 1) / 4) &&& 31) else nI 0)) ||| (if arG ν (t * 4 + 1 + 1) then nI 1 <<< (nI ((t * 4 + 1 + 1) / 4) &&& 31) else nI 0)) ||| (if arG ν (t * 4 + 1 + 1 + 1) then nI 1 <<< (nI ((t * 4 + 1 + 1 + 1) / 4) &&& 31) else nI 0) = _
  rw [show t * 4 / 4 = t by omega, show (t * 4 + 1) / 4 = t by omega, show (t * 4 + 1 + 1) / 4 = t by omega, show (t * 4 + 1 + 1 + 1) / 4 = t by omega, arG_4 (j := 0) (t := t) (by decide) (by omega), arG_4 (j := 1) (t := t) (by decide) (by omega), arG_4 (j := 2) (t := t) (by decide) (by omega), arG_4 (j := 3) (t := t) (by decide) (by omega), ar_t, e]
  show _ = if !bz (ν 11 t) && decide (0 < cntP (ν 7) (t * 4 + 0) (t * 4 + 4 - (t * 4 + 0))) then arC ν t ||| (nI 1 <<< (nI t &&& 31)) else arC ν t
  rw [show t * 4 + 4 - (t * 4 + 0) = 4 by omega]
  unfold cntP
  rw [cnt_pos4]
theorem ar_all : arC ν 4 = arN ν 16 := ((ar_s (t := 3) (ar_s (t := 2) (ar_s (t := 1) (ar_s (t := 0) rfl))))).symm
/-! a page's scrubbing -/
theorem cntH_le {i m : Nat} : cntH ν i m ≤ cntP (ν 1) i m := by
  unfold cntH cntP
  induction m with
  | zero => exact Nat.le_refl _
  | succ m ih =>
    rw [cnt_s, cnt_s]
    cases c : canH ν (i + m)
    · rw [if_neg Bool.false_ne_true]; split <;> omega
    · have : ps (ν 1 (i + m)) = true := by
        unfold canH at c
        simp only [Bool.and_eq_true] at c
        exact c.1
      rw [if_pos rfl, if_pos this]; omega
theorem fe_1 {μ : NS} {w k : Nat} : ps (c_fetch μ w 1 k) = (ps (μ 1 k) && !(decide (k = w) && canH μ w)) := by
  unfold c_fetch
  cases c : canH μ w
  · rw [if_neg Bool.false_ne_true, Bool.and_false, Bool.not_false, Bool.and_true]
  · rw [if_pos rfl]
    show ps (upd (μ 1) w (μ 4 w) k) = _
    by_cases e : k = w
    · rw [e, upd_s, decide_eq_true rfl]
      unfold canH at c
      simp only [Bool.and_eq_true, Bool.not_eq_true'] at c
      rw [c.2.2]; simp
    · rw [upd_o e, decide_eq_false e, Bool.false_and, Bool.not_false, Bool.and_true]
theorem scr_1 {p j : Nat} (hj : j < 4) : ps (scrS ν p 1 (p * 4 + j)) = (ps (ν 1 (p * 4 + j)) && !canH ν (p * 4 + j)) := by
  unfold scrS
  rw [fe_1, fe_1, fe_1, fe_1, canH_o (show p * 4 + 3 ≠ p * 4 + 2 by omega), canH_o (show p * 4 + 3 ≠ p * 4 + 1 by omega), canH_o (show p * 4 + 3 ≠ p * 4 + 0 by omega), canH_o (show p * 4 + 2 ≠ p * 4 + 1 by omega), canH_o (show p * 4 + 2 ≠ p * 4 + 0 by omega), canH_o (show p * 4 + 1 ≠ p * 4 + 0 by omega)]
  rcases (show j = 0 ∨ j = 1 ∨ j = 2 ∨ j = 3 by omega) with e | e | e | e <;> subst e <;> simp
theorem cnt_e (p q : Nat → Bool) : ∀ m : Nat, (∀ i, i < m → p i = q i) → cnt p m = cnt q m
  | 0, _ => rfl
  | m + 1, h => by
    rw [cnt_s, cnt_s, cnt_e p q m (fun i hi => h i (by omega)), h m (by omega)]
theorem cnt_d (p q : Nat → Bool) (h : ∀ i, q i = true → p i = true) : ∀ m : Nat, cnt (fun i => p i && !q i) m + cnt q m = cnt p m
  | 0 => rfl
  | m + 1 => by
    have ih := cnt_d p q h m
    rw [cnt_s, cnt_s, cnt_s]
    have := h m
    cases c : q m
    · cases d : p m <;> simp <;> omega
    · rw [this c]; simp; omega
theorem canH_p {k : Nat} (c : canH ν k = true) : ps (ν 1 k) = true := by
  unfold canH at c
  simp only [Bool.and_eq_true] at c
  exact c.1
theorem scr_bad {p : Nat} : cntP (scrS ν p 1) (p * 4) 4 + cntH ν (p * 4) 4 = cntP (ν 1) (p * 4) 4 := by
  unfold cntP cntH
  rw [cnt_e (fun k => ps (scrS ν p 1 (p * 4 + k))) (fun k => ps (ν 1 (p * 4 + k)) && !canH ν (p * 4 + k)) 4 (fun i hi => scr_1 hi)]
  exact cnt_d (fun k => ps (ν 1 (p * 4 + k))) (fun k => canH ν (p * 4 + k)) (fun i c => canH_p c) 4
theorem scr_c {p j : Nat} (hj : j < 4) : canH (scrS ν p) (p * 4 + j) = false := by
  unfold scrS
  rcases (show j = 0 ∨ j = 1 ∨ j = 2 ∨ j = 3 by omega) with e | e | e | e <;> subst e
  · rw [canH_o (by omega), canH_o (by omega), canH_o (by omega), canH_s]
  · rw [canH_o (by omega), canH_o (by omega), canH_s]
  · rw [canH_o (by omega), canH_s]
  · rw [canH_s]
def besC (ν : NS) : Int32 := (wiM (fun k => nI (cntH ν (k * 4) ((k + 1) * 4 - k * 4))) 8).1
/-- where something can be healed, there is a best page -/
theorem bes_all {p : Nat} (hp : p < 8) : cntH ν (p * 4) 4 = 0 ∨ ∃ j, j < 8 ∧ besC ν = nI j := by
  obtain ⟨B, -, -, h3, h4⟩ := wiM_n (fun k => cntH ν (k * 4) ((k + 1) * 4 - k * 4)) (fun k => by
    have := cnt_le (fun i => canH ν (k * 4 + i)) ((k + 1) * 4 - k * 4)
    show cntH ν (k * 4) ((k + 1) * 4 - k * 4) < 2 ^ 31
    unfold cntH
    omega) 8 (by decide)
  have hB := h3 p hp
  rw [show (p + 1) * 4 - p * 4 = 4 by omega] at hB
  rcases h4 with ⟨e1, -⟩ | ⟨-, j, e2, -, e4⟩
  · left; omega
  · exact Or.inr ⟨j, e2, e4⟩
end OBS
