/-! words for the class's state -/
def ps (x : Int32) : Bool := !decide (x = -6)
theorem ps_f {x : Int32} (h : ps x = false) : x = -6 := by
  unfold ps at h
  simpa using h
theorem ps_t {x : Int32} (h : ps x = true) : x ≠ -6 := by
  unfold ps at h
  simpa using h
def hp (a b : Int32) : Int32 := if ps a then (if nI 99 < b + nI 1 then nI 99 else b + nI 1) else -6
def cnt (p : Nat → Bool) : Nat → Nat
  | 0 => 0
  | m + 1 => if p m then cnt p m + 1 else cnt p m
theorem cnt_le (p : Nat → Bool) : ∀ m, cnt p m ≤ m
  | 0 => Nat.le_refl 0
  | m + 1 => by
    unfold cnt
    have := cnt_le p m
    split <;> omega
def cntP (o : Nat → Int32) (i m : Nat) : Nat := cnt (fun k => ps (o (i + k))) m
def cntE (o : Nat → Int32) (x : Int32) (m : Nat) : Nat := cnt (fun k => decide (o k = x)) m
def mh (o h : Nat → Int32) (x : Int32) : Nat → Int32
  | 0 => -6
  | m + 1 => if o m = x then (if mh o h x m < h m then h m else mh o h x m) else mh o h x m
def isErr (x : Int32) : Bool := decide (x < 0) && decide (-6 < x)
def iB (x : Int32) : Bool := !decide (x < nI 1) && !decide (nI 16 < x)
theorem iB_eq {x : Int32} (h : iB x = true) : x = nI (tn x) ∧ 1 ≤ tn x ∧ tn x ≤ 16 := by
  unfold iB at h
  simp only [Bool.and_eq_true, Bool.not_eq_true', decide_eq_false_iff_not] at h
  have h0 : ¬ x < 0 := fun q => h.1 (by
    rw [Int32.lt_iff_toInt_lt] at q ⊢
    have : (nI 1).toInt = 1 := rfl
    have : (0 : Int32).toInt = 0 := rfl
    omega)
  obtain ⟨j, hj, e⟩ := nI_of h0
  subst e
  have ht : tn (nI j) = j := nI_clamp hj
  rw [ht]
  have h1 := h.1
  have h2 := h.2
  rw [nI_ltI hj (by decide)] at h1
  rw [nI_ltI (by decide) hj] at h2
  exact ⟨rfl, by omega, by omega⟩
theorem mm_nI {a b : Nat} (ha : a < 2 ^ 31) (hb : b < 2 ^ 31) : (if nI b < nI a then nI b else nI a) = nI (min a b) := by
  by_cases h : b < a
  · rw [if_pos ((nI_ltI hb ha).mpr h), Nat.min_eq_right (by omega)]
  · rw [if_neg (fun q => h ((nI_ltI hb ha).mp q)), Nat.min_eq_left (by omega)]
def rowsAdd (rw : Nat → Int32) (a b c d : Int32) : Nat → Int32 := upd (upd (upd (upd (va_cpy rw rw 0 4 28) 0 a) 1 b) 2 c) 3 d
theorem nx_xor (a b : Nat) : nI a ^^^ nI b = nI (a ^^^ b) := by
  apply Int32.toBitVec_inj.1
  show BitVec.ofNat 32 a ^^^ BitVec.ofNat 32 b = BitVec.ofNat 32 (a ^^^ b)
  apply BitVec.eq_of_getLsbD_eq
  intro i hi
  simp [hi]
/-- the first k cells copied -/
def cpB (f g : Nat → Int32) (k : Nat) : Nat → Int32 := fun j => if j < k then f j else g j
theorem cpB_0 (f g : Nat → Int32) : cpB f g 0 = g := by
  funext j
  unfold cpB
  rw [if_neg (Nat.not_lt_zero j)]
theorem cpB_s (f g : Nat → Int32) (k : Nat) : bf (upd (cpB f g k) k (bI (bz (f k)))) = bf (cpB f g (k + 1)) := by
  funext j
  unfold bf upd cpB
  by_cases h : j = k
  · subst h
    rw [if_pos rfl, if_pos (Nat.lt_succ_self j), bz_bI]
  · rw [if_neg h]
    by_cases h2 : j < k
    · rw [if_pos h2, if_pos (Nat.lt_succ_of_lt h2)]
    · rw [if_neg h2, if_neg (by omega)]
theorem cpB_e (f g : Nat → Int32) {k j : Nat} (h : j < k) : bf (cpB f g k) j = bf f j := by
  unfold bf cpB
  rw [if_pos h]
