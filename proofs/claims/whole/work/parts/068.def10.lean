/-! the reference's text: whether it is whole, and its run -/
theorem dgR_ge {ch : Nat → Nat} {len : Nat} : ∀ (m k p : Nat) (nu : Nat → Nat), p ≤ (dgR ch len m k p nu).2.1
  | 0, _, p, _ => Nat.le_refl p
  | m + 1, k, p, nu => by
    unfold dgR; split
    · exact Nat.le_trans (Nat.le_succ p) (dgR_ge m (k + 1) (p + 1) _)
    · exact Nat.le_refl p
theorem nlM_ge {ch : Nat → Nat} {len g : Nat} : ∀ (m p v : Nat), p ≤ (nlM ch len g m p v).1
  | 0, p, _ => Nat.le_refl p
  | m + 1, p, v => by
    unfold nlM; split
    · exact Nat.le_trans (Nat.le_succ p) (nlM_ge m (p + 1) _)
    · exact Nat.le_refl p
theorem nuR_ge {ch : Nat → Nat} {len g p : Nat} : p ≤ (nuR ch len g p).1 := by
  unfold nuR; split
  · exact Nat.le_trans (Nat.le_succ p) (nlM_ge 91 (p + 1) _)
  · exact Nat.le_refl p
theorem tkP_ge {ch : Nat → Nat} {len c p : Nat} : p ≤ tkP ch len c p := by unfold tkP; split <;> omega
theorem nlM_v {ch : Nat → Nat} {len g : Nat} : ∀ (m p v : Nat), v ≤ g → (nlM ch len g m p v).2 ≤ g
  | 0, _, _, h => h
  | m + 1, p, v, h => by
    unfold nlM; split
    · rename_i c
      exact nlM_v m (p + 1) _ c.2.2
    · exact h
theorem nuR_v {ch : Nat → Nat} {len g p : Nat} (hg : 9 ≤ g) : (nuR ch len g p).2 ≤ g := by
  unfold nuR; split
  · rename_i c
    have h1 := innN_t c
    exact nlM_v 91 _ _ (by omega)
  · exact Nat.zero_le g
theorem dgR_ok {ch : Nat → Nat} {len : Nat} : ∀ (m k p : Nat) (nu : Nat → Nat), (dgR ch len m k p nu).1 = true → (∀ j, k ≤ j → j < k + m → (dgR ch len m k p nu).2.2 j < 4) ∧ (∀ j, j < k → (dgR ch len m k p nu).2.2 j = nu j)
  | 0, k, p, nu, _ => ⟨fun j h1 h2 => absurd h2 (by omega), fun j _ => rfl⟩
  | m + 1, k, p, nu, h => by
    unfold dgR at h ⊢
    split at h
    · rename_i c
      rw [if_pos c]
      have h1 := innN_t c
      obtain ⟨a, b⟩ := dgR_ok m (k + 1) (p + 1) _ h
      refine ⟨fun j h2 h3 => ?_, fun j h2 => ?_⟩
      · by_cases e : j = k
        · subst e
          rw [b j (by omega)]
          unfold updN
          rw [if_pos rfl]
          omega
        · exact a j (by omega) (by omega)
      · rw [b j (by omega)]
        unfold updN
        rw [if_neg (by omega)]
    · cases h
def letOk (le : Nat) (nu : Nat → Nat) : Prop := (le = 76 ∧ nu 0 < 4 ∧ nu 1 < 4 ∧ nu 2 < 32) ∨ (le = 83 ∧ nu 0 < 4 ∧ nu 1 < 4 ∧ nu 2 < 32) ∨ (le = 77 ∧ nu 0 < 4 ∧ nu 1 < 4 ∧ nu 2 < 4) ∨ (le = 65 ∧ nu 0 < 4 ∧ nu 1 < 4 ∧ nu 2 < 4 ∧ nu 3 < 4 ∧ nu 4 < 4) ∨ (le = 79 ∧ nu 0 < 4 ∧ nu 1 < 4) ∨ (le = 73 ∧ nu 0 < 32) ∨ (le = 86 ∧ nu 0 < 4 ∧ nu 1 < 4 ∧ nu 2 < 65536)
theorem mLS_le {ch : Nat → Nat} {len c g p : Nat} {nu : Nat → Nat} (hl : len ≤ 90) (hc : 0 < c) (h : p ≤ 90) : (mLS ch len c g p nu).2.1 ≤ 90 := by
  unfold mLS; split
  · split
    · exact nuR_le hl (tkP_le hl hc (dgR_le hl 2 0 p nu h))
    · exact tkP_le hl hc (dgR_le hl 2 0 p nu h)
  · exact dgR_le hl 2 0 p nu h
theorem mLS_ge {ch : Nat → Nat} {len c g p : Nat} {nu : Nat → Nat} : p ≤ (mLS ch len c g p nu).2.1 := by
  have h1 := dgR_ge (ch := ch) (len := len) 2 0 p nu
  have h2 := tkP_ge (ch := ch) (len := len) (c := c) (p := (dgR ch len 2 0 p nu).2.1)
  unfold mLS; split
  · split
    · exact Nat.le_trans h1 (Nat.le_trans h2 nuR_ge)
    · exact Nat.le_trans h1 h2
  · exact h1
theorem mLS_ok {ch : Nat → Nat} {len c g p : Nat} {nu : Nat → Nat} (hg : 9 ≤ g) (h : (mLS ch len c g p nu).1 = true) : (mLS ch len c g p nu).2.2 0 < 4 ∧ (mLS ch len c g p nu).2.2 1 < 4 ∧ (mLS ch len c g p nu).2.2 2 ≤ g := by
  unfold mLS at h ⊢
  split at h
  · rename_i c1
    rw [if_pos c1]
    split at h
    · rename_i c2
      rw [if_pos c2]
      have h3 : nuOk ch len (tkP ch len c (dgR ch len 2 0 p nu).2.1) = true := h
      obtain ⟨a, -⟩ := dgR_ok 2 0 p nu c1
      show (if _ then _ else _ : Nat → Nat) 0 < 4 ∧ (if _ then _ else _ : Nat → Nat) 1 < 4 ∧ (if _ then _ else _ : Nat → Nat) 2 ≤ g
      rw [if_pos h3]
      exact ⟨a 0 (by omega) (by omega), a 1 (by omega) (by omega), nuR_v hg⟩
    · cases h
  · cases h
theorem mOp_sg {ch : Nat → Nat} {len p : Nat} {nu : Nat → Nat} (h : sg ch len p = 0) : mOp ch len p nu = (false, p, nu) := by
  unfold mOp; exact mOpA_not (by omega)
theorem mOpA_cases (ch : Nat → Nat) (len a p : Nat) (nu : Nat → Nat) : (a = 76 ∧ mOpA ch len a p nu = mLS ch len 44 31 (p + 1) nu) ∨ (a = 83 ∧ mOpA ch len a p nu = mLS ch len 44 31 (p + 1) nu) ∨ (a = 77 ∧ mOpA ch len a p nu = dgR ch len 3 0 (p + 1) nu) ∨ (a = 65 ∧ mOpA ch len a p nu = dgR ch len 5 0 (p + 1) nu) ∨ (a = 79 ∧ mOpA ch len a p nu = dgR ch len 2 0 (p + 1) nu) ∨ (a = 73 ∧ mOpA ch len a p nu = mNu ch len 0 31 (p + 1) nu) ∨ (a = 86 ∧ mOpA ch len a p nu = mLS ch len 61 65535 (p + 1) nu) ∨ mOpA ch len a p nu = (false, p, nu) := by
  by_cases h : a ≠ 76 ∧ a ≠ 83 ∧ a ≠ 77 ∧ a ≠ 65 ∧ a ≠ 79 ∧ a ≠ 73 ∧ a ≠ 86
  · exact Or.inr (Or.inr (Or.inr (Or.inr (Or.inr (Or.inr (Or.inr (mOpA_not h)))))))
  · rcases (show a = 76 ∨ a = 83 ∨ a = 77 ∨ a = 65 ∨ a = 79 ∨ a = 73 ∨ a = 86 by omega) with e | e | e | e | e | e | e
    · exact Or.inl ⟨e, by subst e; rfl⟩
    · exact Or.inr (Or.inl ⟨e, by subst e; rfl⟩)
    · exact Or.inr (Or.inr (Or.inl ⟨e, by subst e; rfl⟩))
    · exact Or.inr (Or.inr (Or.inr (Or.inl ⟨e, by subst e; rfl⟩)))
    · exact Or.inr (Or.inr (Or.inr (Or.inr (Or.inl ⟨e, by subst e; rfl⟩))))
    · exact Or.inr (Or.inr (Or.inr (Or.inr (Or.inr (Or.inl ⟨e, by subst e; rfl⟩)))))
    · exact Or.inr (Or.inr (Or.inr (Or.inr (Or.inr (Or.inr (Or.inl ⟨e, by subst e; rfl⟩))))))
theorem mOp_le {ch : Nat → Nat} {len p : Nat} {nu : Nat → Nat} (hl : len ≤ 90) (h : p ≤ 90) : (mOp ch len p nu).2.1 ≤ 90 := by
  by_cases hp : p < len
  · unfold mOp
    rcases mOpA_cases ch len (sg ch len p) p nu with ⟨-, e⟩ | ⟨-, e⟩ | ⟨-, e⟩ | ⟨-, e⟩ | ⟨-, e⟩ | ⟨-, e⟩ | ⟨-, e⟩ | e <;> rw [e]
    · exact mLS_le hl (by omega) (by omega)
    · exact mLS_le hl (by omega) (by omega)
    · exact dgR_le hl _ _ _ _ (by omega)
    · exact dgR_le hl _ _ _ _ (by omega)
    · exact dgR_le hl _ _ _ _ (by omega)
    · exact nuR_le hl (by omega)
    · exact mLS_le hl (by omega) (by omega)
    · exact h
  · rw [mOp_sg (sg_n (by omega))]; exact h
theorem mOp_ge {ch : Nat → Nat} {len p : Nat} {nu : Nat → Nat} (h : (mOp ch len p nu).1 = true) : p + 1 ≤ (mOp ch len p nu).2.1 := by
  unfold mOp at h ⊢
  rcases mOpA_cases ch len (sg ch len p) p nu with ⟨-, e⟩ | ⟨-, e⟩ | ⟨-, e⟩ | ⟨-, e⟩ | ⟨-, e⟩ | ⟨-, e⟩ | ⟨-, e⟩ | e <;> rw [e] at h ⊢
  · exact mLS_ge
  · exact mLS_ge
  · exact dgR_ge _ _ _ _
  · exact dgR_ge _ _ _ _
  · exact dgR_ge _ _ _ _
  · exact nuR_ge
  · exact mLS_ge
  · cases h
theorem mOp_ok {ch : Nat → Nat} {len p : Nat} {nu : Nat → Nat} (h : (mOp ch len p nu).1 = true) : letOk (sg ch len p) (mOp ch len p nu).2.2 := by
  unfold mOp at h ⊢
  unfold letOk
  rcases mOpA_cases ch len (sg ch len p) p nu with ⟨g, e⟩ | ⟨g, e⟩ | ⟨g, e⟩ | ⟨g, e⟩ | ⟨g, e⟩ | ⟨g, e⟩ | ⟨g, e⟩ | e <;> rw [e] at h ⊢
  · obtain ⟨a, b, c⟩ := mLS_ok (by omega) h
    exact Or.inl ⟨g, a, b, by omega⟩
  · obtain ⟨a, b, c⟩ := mLS_ok (by omega) h
    exact Or.inr (Or.inl ⟨g, a, b, by omega⟩)
  · obtain ⟨a, -⟩ := dgR_ok 3 0 _ nu h
    exact Or.inr (Or.inr (Or.inl ⟨g, a 0 (by omega) (by omega), a 1 (by omega) (by omega), a 2 (by omega) (by omega)⟩))
  · obtain ⟨a, -⟩ := dgR_ok 5 0 _ nu h
    exact Or.inr (Or.inr (Or.inr (Or.inl ⟨g, a 0 (by omega) (by omega), a 1 (by omega) (by omega), a 2 (by omega) (by omega), a 3 (by omega) (by omega), a 4 (by omega) (by omega)⟩)))
  · obtain ⟨a, -⟩ := dgR_ok 2 0 _ nu h
    exact Or.inr (Or.inr (Or.inr (Or.inr (Or.inl ⟨g, a 0 (by omega) (by omega), a 1 (by omega) (by omega)⟩))))
  · have h3 : nuOk ch len (p + 1) = true := h
    have h4 := nuR_v (ch := ch) (len := len) (g := 31) (p := p + 1) (by omega)
    have h5 : (mNu ch len 0 31 (p + 1) nu).2.2 0 = (nuR ch len 31 (p + 1)).2 := by
      show (if _ then _ else _ : Nat → Nat) 0 = _
      rw [if_pos h3]; rfl
    exact Or.inr (Or.inr (Or.inr (Or.inr (Or.inr (Or.inl ⟨g, by rw [h5]; omega⟩)))))
  · obtain ⟨a, b, c⟩ := mLS_ok (by omega) h
    exact Or.inr (Or.inr (Or.inr (Or.inr (Or.inr (Or.inr ⟨g, a, b, by omega⟩)))))
  · cases h
/-- whether the text is whole; where it stops, its letter, its numbers -/
def ixT (ch : Nat → Nat) (len : Nat) : Nat → Nat → Nat → (Nat → Nat) → Bool × Nat × Nat × (Nat → Nat)
  | 0, p, le, nu => (false, p, le, nu)
  | m + 1, p, _, nu => if (mOp ch len p nu).1 = true then (if (mOp ch len p nu).2.1 = len then (true, (mOp ch len p nu).2.1, sg ch len p, (mOp ch len p nu).2.2) else if sg ch len (mOp ch len p nu).2.1 = 59 then ixT ch len m ((mOp ch len p nu).2.1 + 1) (sg ch len p) (mOp ch len p nu).2.2 else (false, (mOp ch len p nu).2.1, sg ch len p, (mOp ch len p nu).2.2)) else (false, (mOp ch len p nu).2.1, sg ch len p, (mOp ch len p nu).2.2)
theorem ixT_a {ch : Nat → Nat} {len k p le : Nat} {nu : Nat → Nat} (h1 : (mOp ch len p nu).1 = false) (hk : k < 91) : ixT ch len (91 - k) p le nu = (false, (mOp ch len p nu).2.1, sg ch len p, (mOp ch len p nu).2.2) := by
  rw [show 91 - k = (91 - (k + 1)) + 1 from by omega]
  show (if _ then _ else _) = _
  rw [if_neg (by rw [h1]; decide)]
theorem ixT_b {ch : Nat → Nat} {len k p le : Nat} {nu : Nat → Nat} (h1 : (mOp ch len p nu).1 = true) (h2 : (mOp ch len p nu).2.1 = len) (hk : k < 91) : ixT ch len (91 - k) p le nu = (true, (mOp ch len p nu).2.1, sg ch len p, (mOp ch len p nu).2.2) := by
  rw [show 91 - k = (91 - (k + 1)) + 1 from by omega]
  show (if _ then _ else _) = _
  rw [if_pos h1, if_pos h2]
theorem ixT_c {ch : Nat → Nat} {len k p le : Nat} {nu : Nat → Nat} (h1 : (mOp ch len p nu).1 = true) (h2 : (mOp ch len p nu).2.1 ≠ len) (h3 : decide (sg ch len (mOp ch len p nu).2.1 = 59) = false) (hk : k < 91) : ixT ch len (91 - k) p le nu = (false, tkP ch len 59 (mOp ch len p nu).2.1, sg ch len p, (mOp ch len p nu).2.2) := by
  have h3 := of_decide_eq_false h3
  rw [show 91 - k = (91 - (k + 1)) + 1 from by omega]
  show (if _ then _ else _) = _
  rw [if_pos h1, if_neg h2, if_neg h3]
  unfold tkP; rw [if_neg h3]
theorem ixT_d {ch : Nat → Nat} {len k p le : Nat} {nu : Nat → Nat} (h1 : (mOp ch len p nu).1 = true) (h2 : (mOp ch len p nu).2.1 ≠ len) (h3 : decide (sg ch len (mOp ch len p nu).2.1 = 59) = true) (hk : k < 91) : ixT ch len (91 - k) p le nu = ixT ch len (91 - (k + 1)) (tkP ch len 59 (mOp ch len p nu).2.1) (sg ch len p) (mOp ch len p nu).2.2 := by
  have h3 := of_decide_eq_true h3
  rw [show 91 - k = (91 - (k + 1)) + 1 from by omega]
  show (if _ then _ else _) = _
  rw [if_pos h1, if_neg h2, if_pos h3]
  unfold tkP; rw [if_pos h3]
theorem ixT_le {ch : Nat → Nat} {len : Nat} (hl : len ≤ 90) : ∀ (m p le : Nat) (nu : Nat → Nat), p ≤ 90 → (ixT ch len m p le nu).2.1 ≤ 90
  | 0, _, _, _, h => h
  | m + 1, p, le, nu, h => by
    have h1 := mOp_le (nu := nu) (ch := ch) hl h
    unfold ixT; split
    · split
      · exact h1
      · split
        · rename_i c
          have := sg_in (ch := ch) (len := len) (p := (mOp ch len p nu).2.1) (by omega)
          exact ixT_le hl m _ _ _ (by omega)
        · exact h1
    · exact h1
def doS (σ : MS) (b le : Nat) (nu : Nat → Nat) : MS := if le = 76 then mLdS σ b (nu 0) (nu 1) (nu 2) else if le = 83 then mStoS σ b (nu 0) (nu 1) (nu 2) else if le = 77 then mMovS σ b (nu 0) (nu 1) (nu 2) else if le = 65 then mCmpS σ b (nu 0) (nu 1) (nu 2) (nu 3) (nu 4) else if le = 79 then mOuS σ b (nu 0) (nu 1) else if le = 73 then mInjS σ b (nu 0) else mSetS σ b (nu 0) (nu 1) (nI (nu 2))
def doR (σ : MS) (b le : Nat) (nu : Nat → Nat) : Int32 := if le = 76 then mLdR σ b (nu 0) (nu 2) else if le = 83 then mStoR σ b (nu 0) (nu 1) (nu 2) else if le = 77 then mMovR σ b (nu 0) (nu 2) else if le = 65 then mCmpR σ b (nu 0) (nu 1) (nu 3) (nu 4) else if le = 79 then mOuR σ b (nu 0) (nu 1) else if le = 73 then mInjR σ b else mSetR σ b (nu 0) (nu 1)
/-! what an operation leaves alone: the number of injections -/
theorem mGet_o {σ : MS} {k i j : Nat} {v : Int32} (h1 : k + 2 < j) : mGet σ k v i j = σ j := lay_o h1
theorem mFe_o {σ : MS} {b w : Nat} (hw : w < 32) : mFe σ b w (b + 256) = σ (b + 256) := by
  unfold mFe; split
  · rw [upd_o (by omega)]; exact lay_o (by unfold wdt; omega)
  · rfl
theorem mWr_o {σ : MS} {b w : Nat} (hw : w < 32) : mWr σ b w (b + 256) = σ (b + 256) := by
  unfold mWr; split
  · exact lay_o (by unfold cpt; omega)
  · rfl
theorem rgt_lt {b t r : Nat} (ht : t < 4) (hr : r < 4) : rgt b t r + 2 < b + 256 := by unfold rgt; omega
theorem wdt_lt {b w : Nat} (hw : w < 32) : wdt b w + 2 < b + 256 := by unfold wdt; omega
theorem shN_o {σ : MS} {b : Nat} : ∀ i : Nat, i ≤ 28 → shN σ b i (b + 256) = σ (b + 256)
  | 0, _ => rfl
  | i + 1, h => by
    show upd _ _ _ _ = _
    rw [upd_o (by omega)]; exact shN_o i (by omega)
theorem mF6_o {σ : MS} {b t r : Nat} (ht : t < 4) : mF6 σ b t r (b + 256) = σ (b + 256) := by
  unfold mF6; rw [upd_o (by omega)]
  unfold mF5; rw [upd_o (by omega)]
  unfold mF4; rw [upd_o (by omega)]
  unfold mF3; rw [upd_o (by omega)]
  unfold mF2; rw [upd_o (by omega)]
  unfold mF1; rw [upd_o (by omega), upd_o (by omega)]
  exact shN_o 28 (by omega)
theorem mClp_o {σ : MS} {k j : Nat} (h1 : k + 2 < j) : mClp σ k j = σ j := by
  unfold mClp; split
  · exact lay_o h1
  · rfl
theorem mUF_o {σ : MS} {b t r a c : Nat} (ht : t < 4) (ha : a < 4) (hc : c < 4) : mUF σ b t r a c (b + 256) = σ (b + 256) := by
  unfold mUF; split
  · rw [mClp_o (rgt_lt ht hc), mClp_o (rgt_lt ht ha), mF6_o ht]
  · exact mF6_o ht
theorem mUse_o {σ : MS} {b t a c : Nat} (ht : t < 4) (ha : a < 4) (hc : c < 4) : mUse σ b t a c (b + 256) = σ (b + 256) := by
  unfold mUse; split
  · exact mUF_o ht ha hc
  · split
    · exact mUF_o ht ha hc
    · rfl
theorem mLdS_o {σ : MS} {b t r w : Nat} (ht : t < 4) (hr : r < 4) (hw : w < 32) : mLdS σ b t r w (b + 256) = σ (b + 256) := by
  unfold mLdS; split
  · rfl
  · rw [mGet_o (rgt_lt ht hr), mFe_o hw]
theorem mStoS_o {σ : MS} {b t r w : Nat} (hw : w < 32) : mStoS σ b t r w (b + 256) = σ (b + 256) := by
  unfold mStoS; split
  · rfl
  · unfold mSto1; rw [mWr_o hw, mGet_o (wdt_lt hw)]
theorem mMovS_o {σ : MS} {b t a c : Nat} (ht : t < 4) (ha : a < 4) : mMovS σ b t a c (b + 256) = σ (b + 256) := by
  unfold mMovS; split
  · rfl
  · exact mGet_o (rgt_lt ht ha)
theorem mCpU_o {σ : MS} {b t q a c : Nat} (ht : t < 4) (ha : a < 4) (hc : c < 4) : mCpU σ b t q a c (b + 256) = σ (b + 256) := by
  unfold mCpU; split
  · rfl
  · exact mUse_o ht ha hc
theorem mCmpS_o {σ : MS} {b t q k a c : Nat} (ht : t < 4) (hk : k < 4) (ha : a < 4) (hc : c < 4) : mCmpS σ b t q k a c (b + 256) = σ (b + 256) := by
  unfold mCmpS; split
  · rfl
  · split
    · rw [lay_o (rgt_lt ht hk), mCpU_o ht ha hc]
    · exact mCpU_o ht ha hc
theorem mOuS_o {σ : MS} {b t a : Nat} (ht : t < 4) (ha : a < 4) : mOuS σ b t a (b + 256) = σ (b + 256) := by
  unfold mOuS; split
  · rfl
  · exact mUse_o ht ha ha
theorem mSetS_o {σ : MS} {b t r : Nat} {v : Int32} (ht : t < 4) (hr : r < 4) : mSetS σ b t r v (b + 256) = σ (b + 256) := by
  unfold mSetS; split
  · rfl
  · exact lay_o (rgt_lt ht hr)
theorem mInjS_hi {σ : MS} {b w : Nat} (h : WH (σ (b + 256)) 20) : WH (mInjS σ b w (b + 256)) 20 := by
  unfold mInjS; split
  · exact h
  · rename_i c
    have h2 := h.2
    unfold mInj
    rw [upd_s]
    refine ⟨by rw [tn_nI (by omega)], by rw [tn_nI (by omega)]; omega⟩
theorem doS_hi {σ : MS} {b le : Nat} {nu : Nat → Nat} (hl : letOk le nu) (h : WH (σ (b + 256)) 20) : WH (doS σ b le nu (b + 256)) 20 := by
  rcases hl with ⟨e, h0, h1, h2⟩ | ⟨e, h0, h1, h2⟩ | ⟨e, h0, h1, h2⟩ | ⟨e, h0, h1, h2, h3, h4⟩ | ⟨e, h0, h1⟩ | ⟨e, h0⟩ | ⟨e, h0, h1, h2⟩ <;> subst e
  · show WH (mLdS σ b (nu 0) (nu 1) (nu 2) (b + 256)) 20
    rw [mLdS_o h0 h1 h2]; exact h
  · show WH (mStoS σ b (nu 0) (nu 1) (nu 2) (b + 256)) 20
    rw [mStoS_o h2]; exact h
  · show WH (mMovS σ b (nu 0) (nu 1) (nu 2) (b + 256)) 20
    rw [mMovS_o h0 h1]; exact h
  · show WH (mCmpS σ b (nu 0) (nu 1) (nu 2) (nu 3) (nu 4) (b + 256)) 20
    rw [mCmpS_o h0 h2 h3 h4]; exact h
  · show WH (mOuS σ b (nu 0) (nu 1) (b + 256)) 20
    rw [mOuS_o h0 h1]; exact h
  · show WH (mInjS σ b (nu 0) (b + 256)) 20
    exact mInjS_hi h
  · show WH (mSetS σ b (nu 0) (nu 1) (nI (nu 2)) (b + 256)) 20
    rw [mSetS_o h0 h1]; exact h
/-- the run in the copy: which is the first to stop a task, how many, the numbers, the reader -/
def rU (ch : Nat → Nat) (len : Nat) (st : Int32) : Nat → MS → Nat → Nat → (Nat → Nat) → Int32 → Nat → Int32 × Nat × MS × Nat × Nat × (Nat → Nat)
  | 0, σ, p, le, nu, f, n => (f, n, σ, p, le, nu)
  | m + 1, σ, p, _, nu, f, n => if (mOp ch len p nu).1 = true then (if isErr (doR σ 1560 (sg ch len p) (mOp ch len p nu).2.2) = true then (f, n, doS σ 1560 (sg ch len p) (mOp ch len p nu).2.2, (mOp ch len p nu).2.1, sg ch len p, (mOp ch len p nu).2.2) else rU ch len st m (doS σ 1560 (sg ch len p) (mOp ch len p nu).2.2) (tkP ch len 59 (mOp ch len p nu).2.1) (sg ch len p) (mOp ch len p nu).2.2 (if f = -6 then (if st < sumI (stT (doS σ 1560 (sg ch len p) (mOp ch len p nu).2.2) 1560) 4 then nI n else f) else f) (n + 1)) else (f, n, σ, (mOp ch len p nu).2.1, sg ch len p, (mOp ch len p nu).2.2)
theorem rU_a {ch : Nat → Nat} {len k p le n : Nat} {nu : Nat → Nat} {st f : Int32} {σ : MS} (h1 : (mOp ch len p nu).1 = false) (hk : k < 91) : rU ch len st (91 - k) σ p le nu f n = (f, n, σ, (mOp ch len p nu).2.1, sg ch len p, (mOp ch len p nu).2.2) := by
  rw [show 91 - k = (91 - (k + 1)) + 1 from by omega]
  show (if _ then _ else _) = _
  rw [if_neg (by rw [h1]; decide)]
theorem rU_b {ch : Nat → Nat} {len k p le n : Nat} {nu : Nat → Nat} {st f : Int32} {σ : MS} (h1 : (mOp ch len p nu).1 = true) (h2 : isErr (doR σ 1560 (sg ch len p) (mOp ch len p nu).2.2) = true) (hk : k < 91) : rU ch len st (91 - k) σ p le nu f n = (f, n, doS σ 1560 (sg ch len p) (mOp ch len p nu).2.2, (mOp ch len p nu).2.1, sg ch len p, (mOp ch len p nu).2.2) := by
  rw [show 91 - k = (91 - (k + 1)) + 1 from by omega]
  show (if _ then _ else _) = _
  rw [if_pos h1, if_pos h2]
theorem rU_c {ch : Nat → Nat} {len k p le n : Nat} {nu : Nat → Nat} {st f f2 : Int32} {σ : MS} (h1 : (mOp ch len p nu).1 = true) (h2 : isErr (doR σ 1560 (sg ch len p) (mOp ch len p nu).2.2) = false) (h3 : (if f = -6 then (if st < sumI (stT (doS σ 1560 (sg ch len p) (mOp ch len p nu).2.2) 1560) 4 then nI n else f) else f) = f2) (hk : k < 91) : rU ch len st (91 - k) σ p le nu f n = rU ch len st (91 - (k + 1)) (doS σ 1560 (sg ch len p) (mOp ch len p nu).2.2) (tkP ch len 59 (mOp ch len p nu).2.1) (sg ch len p) (mOp ch len p nu).2.2 f2 (n + 1) := by
  subst h3
  rw [show 91 - k = (91 - (k + 1)) + 1 from by omega]
  show (if _ then _ else _) = _
  rw [if_pos h1, if_neg (by rw [h2]; decide)]
