/-! the reference: its one row of numbers σ, an object's picture at the base b -/
abbrev MS : Type := Nat → Int32
def inn (v lo hi : Int32) : Bool := !decide (v < lo) && !decide (hi < v)
theorem inn_iN {x : Int32} {n : Nat} (hn : n + 1 < 2 ^ 31) : inn x (nI 0) (nI n) = iN x (n + 1) := iN_of_le hn
def innN (v lo hi : Nat) : Bool := decide (lo ≤ v) && decide (v ≤ hi)
theorem inn_iB {x : Int32} : inn x (nI 1) (nI 16) = iB x := rfl
def rgt (b t r : Nat) : Nat := b + 192 + 3 * (4 * t + r)
def wdt (b w : Nat) : Nat := b + 3 * w
def cpt (b w : Nat) : Nat := b + 96 + 3 * w
def lay (σ : MS) (k : Nat) (v o h : Int32) : MS := upd (upd (upd σ k v) (k + 1) o) (k + 2) (if ps o then h else nI 0)
def mor (h : Int32) : Int32 := if h < nI 99 then h + nI 1 else nI 99
def mGet (σ : MS) (k : Nat) (v : Int32) (j : Nat) : MS := lay σ k v (σ (j + 1)) (mor (σ (j + 2)))
def m1 (x : Int32) : Bool := decide (x = nI 1)
def mMi (σ : MS) (b w : Nat) : Bool := m1 (σ (b + 240 + w / 4))
def mCH (σ : MS) (b w : Nat) : Bool := ps (σ (wdt b w + 1)) && (mMi σ b w && !ps (σ (cpt b w + 1)))
def mFe1 (σ : MS) (b w : Nat) : MS := lay σ (wdt b w) (σ (cpt b w)) (-6) (nI 0)
def mFe (σ : MS) (b w : Nat) : MS := if mCH σ b w then upd (mFe1 σ b w) (b + 311) (mFe1 σ b w (b + 311) + nI 1) else σ
def mWr (σ : MS) (b w : Nat) : MS := if mMi σ b w then lay σ (cpt b w) (σ (wdt b w)) (σ (wdt b w + 1)) (σ (wdt b w + 2)) else σ
def shN (σ : MS) (b : Nat) : Nat → MS
  | 0 => σ
  | i + 1 => upd (shN σ b i) (b + 278 + (31 - i)) (shN σ b i (b + 278 + (31 - i) - 4))
def mF1 (σ : MS) (b t r : Nat) : MS := upd (upd (shN σ b 28) (b + 278) (nI t)) (b + 278 + 1) (nI r)
def mF2 (σ : MS) (b t r : Nat) : MS := upd (mF1 σ b t r) (b + 278 + 2) (mF1 σ b t r (rgt b t r + 1))
def mF3 (σ : MS) (b t r : Nat) : MS := upd (mF2 σ b t r) (b + 278 + 3) (σ (b + 248 + t))
def mF4 (σ : MS) (b t r : Nat) : MS := upd (mF3 σ b t r) (b + 277) (mF3 σ b t r (b + 277) + (if mF3 σ b t r (b + 277) < nI 8 then nI 1 else nI 0))
def mF5 (σ : MS) (b t r : Nat) : MS := upd (mF4 σ b t r) (b + 310) (mF4 σ b t r (b + 310) + nI 1)
def mF6 (σ : MS) (b t r : Nat) : MS := upd (mF5 σ b t r) (b + 252 + t) (if σ (b + 248 + t) = 0 then nI 1 else mF5 σ b t r (b + 252 + t))
def mM2 (σ : MS) (b t : Nat) : Bool := decide (σ (b + 248 + t) = nI 2)
def mClp (σ : MS) (k : Nat) : MS := if ps (σ (k + 1)) then lay σ k (nI 0) (-6) (nI 0) else σ
/-- the register of the fault -/
def mCul (σ : MS) (b t a c : Nat) : Nat := if ps (σ (rgt b t a + 1)) then a else c
def mNo (σ : MS) (b t a c : Nat) : Bool := !ps (σ (rgt b t a + 1)) && !ps (σ (rgt b t c + 1))
def mUF (σ : MS) (b t r a c : Nat) : MS := if mM2 σ b t then mClp (mClp (mF6 σ b t r) (rgt b t a)) (rgt b t c) else mF6 σ b t r
def mUse (σ : MS) (b t a c : Nat) : MS := if ps (σ (rgt b t a + 1)) then mUF σ b t a a c else if ps (σ (rgt b t c + 1)) then mUF σ b t c a c else σ
def mUok (σ : MS) (b t a c : Nat) : Bool := mNo σ b t a c || mM2 σ b t
def mSt (σ : MS) (b t : Nat) : Bool := m1 (σ (b + 252 + t))
def mInj1 (σ : MS) (b w : Nat) : MS := lay σ (wdt b w) (σ (wdt b w)) (σ (b + 256)) (nI 0)
def mInj (σ : MS) (b w : Nat) : MS := upd (upd (mInj1 σ b w) (b + 257 + tn (σ (b + 256))) (nI w)) (b + 256) (nI (tn (σ (b + 256)) + 1))
theorem bI_ge (b : Bool) : 0 ≤ bI b := by cases b <;> decide
theorem bI_nlt (b : Bool) : ¬ bI b < 0 := by cases b <;> decide
def rm8 (x : Int32) : Int32 := x - x / nI 256 * nI 256
def mby (x : Int32) (p : Nat) : Int32 := if p = 0 then rm8 x else x / nI 256
def mInjS (σ : MS) (b w : Nat) : MS := if tn (σ (b + 256)) = 20 then σ else mInj σ b w
def mInjR (σ : MS) (b : Nat) : Int32 := if tn (σ (b + 256)) = 20 then -4 else nI (tn (σ (b + 256)))
def mSetS (σ : MS) (b t r : Nat) (v : Int32) : MS := if mSt σ b t then σ else lay σ (rgt b t r) v (-6) (nI 0)
def mSetR (σ : MS) (b t r : Nat) : Int32 := if mSt σ b t then -5 else σ (rgt b t r)
def mLdS (σ : MS) (b t r w : Nat) : MS := if mSt σ b t then σ else mGet (mFe σ b w) (rgt b t r) (mFe σ b w (wdt b w)) (wdt b w)
def mLdR (σ : MS) (b t w : Nat) : Int32 := if mSt σ b t then -5 else mFe σ b w (wdt b w)
def mLbS (σ : MS) (b t r w p : Nat) : MS := if mSt σ b t then σ else mGet (mFe σ b w) (rgt b t r) (mby (mFe σ b w (wdt b w)) p) (wdt b w)
def mLbR (σ : MS) (b t w p : Nat) : Int32 := if mSt σ b t then -5 else mby (mFe σ b w (wdt b w)) p
def mSto1 (σ : MS) (b t r w : Nat) : MS := mWr (mGet σ (wdt b w) (σ (rgt b t r)) (rgt b t r)) b w
def mStoS (σ : MS) (b t r w : Nat) : MS := if mSt σ b t then σ else mSto1 σ b t r w
def mStoR (σ : MS) (b t r w : Nat) : Int32 := if mSt σ b t then -5 else bI (ps (mSto1 σ b t r w (rgt b t r + 1)))
def mbv (x y : Int32) (p : Nat) : Int32 := if p = 0 then x / nI 256 * nI 256 + rm8 y else nI 256 * rm8 y + rm8 x
def mStb1 (μ : MS) (b t r w p : Nat) : MS := if ps (μ (rgt b t r + 1)) then mGet μ (wdt b w) (mbv (μ (wdt b w)) (μ (rgt b t r)) p) (rgt b t r) else upd μ (wdt b w) (mbv (μ (wdt b w)) (μ (rgt b t r)) p)
def mStb2 (σ : MS) (b t r w p : Nat) : MS := mWr (mStb1 (mFe σ b w) b t r w p) b w
def mStbS (σ : MS) (b t r w p : Nat) : MS := if mSt σ b t then σ else mStb2 σ b t r w p
def mStbR (σ : MS) (b t r w p : Nat) : Int32 := if mSt σ b t then -5 else bI (ps (mStb2 σ b t r w p (wdt b w + 1)))
def mMovS (σ : MS) (b t a c : Nat) : MS := if mSt σ b t then σ else mGet σ (rgt b t a) (σ (rgt b t c)) (rgt b t c)
def mMovR (σ : MS) (b t c : Nat) : Int32 := if mSt σ b t then -5 else σ (rgt b t c)
def mRes (q : Nat) (x y : Int32) : Int32 := (((if q = 3 then x.toInt64 * y.toInt64 else (if q = 0 then x + y else if q = 1 then x - y else if q = 2 then x ^^^ y else nI 0).toInt64) &&& 65535) : Int64).toInt32
def mCpU (σ : MS) (b t q a c : Nat) : MS := if q = 2 ∧ a = c then σ else mUse σ b t a c
def mCpD (σ : MS) (b t q a c : Nat) : Bool := decide (q = 2 ∧ a = c) || mUok σ b t a c
def mCpV (σ : MS) (b t q a c : Nat) : Int32 := if q = 2 ∧ a = c then nI 0 else mRes q (mUse σ b t a c (rgt b t a)) (mUse σ b t a c (rgt b t c))
def mCmpS (σ : MS) (b t q k a c : Nat) : MS := if mSt σ b t then σ else if mCpD σ b t q a c then lay (mCpU σ b t q a c) (rgt b t k) (mCpV σ b t q a c) (-6) (nI 0) else mCpU σ b t q a c
def mCmpR (σ : MS) (b t q a c : Nat) : Int32 := if mSt σ b t then -5 else if mCpD σ b t q a c then mCpV σ b t q a c else -7
theorem mCpU_t {σ : MS} {b t q a c : Nat} (h : q = 2 ∧ a = c) : mCpU σ b t q a c = σ := if_pos h
theorem mCpU_f {σ : MS} {b t q a c : Nat} (h : ¬ (q = 2 ∧ a = c)) : mCpU σ b t q a c = mUse σ b t a c := if_neg h
theorem mCpV_t {σ : MS} {b t q a c : Nat} (h : q = 2 ∧ a = c) : mCpV σ b t q a c = nI 0 := if_pos h
theorem mCpV_f {σ : MS} {b t q a c : Nat} (h : ¬ (q = 2 ∧ a = c)) : mCpV σ b t q a c = mRes q (mUse σ b t a c (rgt b t a)) (mUse σ b t a c (rgt b t c)) := if_neg h
theorem mCpD_t {σ : MS} {b t q a c : Nat} (h : q = 2 ∧ a = c) : mCpD σ b t q a c = true := by unfold mCpD; rw [decide_eq_true h, Bool.true_or]
theorem mCpD_f {σ : MS} {b t q a c : Nat} (h : ¬ (q = 2 ∧ a = c)) : mCpD σ b t q a c = mUok σ b t a c := by unfold mCpD; rw [decide_eq_false h, Bool.false_or]
def mLaW (σ : MS) (b t a : Nat) : Nat := tn (mUse σ b t a a (rgt b t a)) % 32
def mLaS (σ : MS) (b t k a : Nat) : MS := if mSt σ b t then σ else if mUok σ b t a a then mLdS (mUse σ b t a a) b t k (mLaW σ b t a) else mUse σ b t a a
def mLaR (σ : MS) (b t a : Nat) : Int32 := if mSt σ b t then -5 else if mUok σ b t a a then mLdR (mUse σ b t a a) b t (mLaW σ b t a) else -7
def mOuS (σ : MS) (b t a : Nat) : MS := if mSt σ b t then σ else mUse σ b t a a
def mOuR (σ : MS) (b t a : Nat) : Int32 := if mSt σ b t then -5 else if mUok σ b t a a then mUse σ b t a a (rgt b t a) else -7
def mCpN (σ : MS) (f t : Nat) : Nat → MS
  | 0 => σ
  | k + 1 => upd (mCpN σ f t k) (312 * t + k) (mCpN σ f t k (312 * f + k))
def mCp (σ : MS) (f t : Nat) : MS := mCpN σ f t 312
def nInc (n : Nat) : Nat := if n < 4 then n + 1 else n
def mShf (σ : MS) (n : Nat) : MS := if n = 4 then mCp (mCp (mCp σ 2 1) 3 2) 4 3 else σ
def mAcc (σ : MS) (n : Nat) (x : Int32) : MS := if isErr x then σ else mCp (mCp (mShf σ n) 0 (nInc n)) 5 0
def nAcc (n : Nat) (x : Int32) : Nat := if isErr x then n else nInc n
theorem inn_eq {x : Int32} {a b : Nat} (ha : a < 2 ^ 31) (hb : b < 2 ^ 31) (h : inn x (nI a) (nI b) = true) : x = nI (tn x) ∧ a ≤ tn x ∧ tn x ≤ b := by
  unfold inn at h
  simp only [Bool.and_eq_true, Bool.not_eq_true', decide_eq_false_iff_not] at h
  have h0 : ¬ x < 0 := fun q => h.1 (by
    rw [Int32.lt_iff_toInt_lt] at q ⊢
    rw [nI_toInt ha]
    have : (0 : Int32).toInt = 0 := rfl
    omega)
  obtain ⟨j, hj, e⟩ := nI_of h0
  subst e
  have ht : tn (nI j) = j := nI_clamp hj
  rw [ht]
  have h1 := h.1
  have h2 := h.2
  rw [nI_ltI hj ha] at h1
  rw [nI_ltI hb hj] at h2
  exact ⟨rfl, by omega, by omega⟩
/-- a change taken over or not: v whether the call is one, S the copy behind it, R its answer -/
def mAS (v : Bool) (S : MS) (n : Nat) (R : Int32) (σ : MS) : MS := if v then mAcc S n R else σ
def mAN (v : Bool) (n : Nat) (R : Int32) : Nat := if v then nAcc n R else n
def fetM (σ : MS) (f : Nat) : Nat → MS
  | 0 => σ
  | i + 1 => mFe (fetM σ f i) 1560 (f + i)
def redM (σ : MS) (ρ : MS) (f : Nat) : Nat → MS
  | 0 => ρ
  | i + 1 => upd (upd (upd (redM σ ρ f i) (3 * i + 0) (fetM σ f (i + 1) (wdt 1560 (f + i) + 0))) (3 * i + 1) (fetM σ f (i + 1) (wdt 1560 (f + i) + 1))) (3 * i + 2) (fetM σ f (i + 1) (wdt 1560 (f + i) + 2))
def putM (σ : MS) (ρ : MS) (t : Nat) : Nat → MS
  | 0 => σ
  | i + 1 => mWr (lay (putM σ ρ t i) (wdt 1560 (t + i)) (ρ (3 * i)) (ρ (3 * i + 1)) (mor (ρ (3 * i + 2)))) 1560 (t + i)
def sumI (g : Nat → Int32) : Nat → Int32
  | 0 => nI 0
  | i + 1 => sumI g i + g i
def cpyC (σ : MS) (ρ : MS) (t : Nat) (i : Nat) : Int32 := bI (ps (putM σ ρ t (i + 1) (wdt 1560 (t + i) + 1)))
def filM (σ : MS) (w : Nat) (v : Int32) : Nat → MS
  | 0 => σ
  | i + 1 => mWr (lay (filM σ w v i) (wdt 1560 (w + i)) v (-6) (nI 0)) 1560 (w + i)
def filC (σ : MS) (w : Nat) (v : Int32) (i : Nat) : Int32 := bI (ps (filM σ w v i (wdt 1560 (w + i) + 1)))
def mMirS (σ : MS) (b p : Nat) (u : Bool) : MS := mWr (mWr (mWr (mWr (upd σ (b + 240 + p) (bI u)) b (4 * p)) b (4 * p + 1)) b (4 * p + 1 + 1)) b (4 * p + 1 + 1 + 1)
def mScr (σ : MS) (b p : Nat) : MS := mFe (mFe (mFe (mFe σ b (4 * p)) b (4 * p + 1)) b (4 * p + 1 + 1)) b (4 * p + 1 + 1 + 1)
def mScrC (σ : MS) (b p : Nat) : Int32 := nI 0 + bI (mCH σ b (4 * p)) + bI (mCH (mFe σ b (4 * p)) b (4 * p + 1)) + bI (mCH (mFe (mFe σ b (4 * p)) b (4 * p + 1)) b (4 * p + 1 + 1)) + bI (mCH (mFe (mFe (mFe σ b (4 * p)) b (4 * p + 1)) b (4 * p + 1 + 1)) b (4 * p + 1 + 1 + 1))
def mLay0 (σ : MS) (b t r : Nat) : MS := lay σ (rgt b t r) (nI 0) (-6) (nI 0)
def resM (σ : MS) (b t : Nat) : Nat → MS
  | 0 => σ
  | k + 1 => mLay0 (resM σ b t k) b t k
def resG (σ : MS) (b t k : Nat) : Int32 := bI (ps (resM σ b t k (rgt b t k + 1)))
def pwM (σ : MS) (i k : Nat) : Int32 := bI (ps (σ (wdt 0 (i + k) + 1)))
def heM (σ : MS) (i k : Nat) : Int32 := bI (mCH σ 0 (i + k))
def crM (σ : MS) (x : Int32) (c : Nat) : Bool := decide (σ (c + 1) = x) && (decide (c < 96) || decide (192 ≤ c))
def crG (σ : MS) (x : Int32) (k : Nat) : Int32 := bI (crM σ x (3 * k))
def faM (σ : MS) (x : Int32) : Nat → Int32
  | 0 => -6
  | k + 1 => if crM σ x (3 * k) then (if faM σ x k < σ (3 * k + 2) then σ (3 * k + 2) else faM σ x k) else faM σ x k
def wiM (g : Nat → Int32) : Nat → Int32 × Int32
  | 0 => (-6, nI 0)
  | k + 1 => if (wiM g k).2 < g k then (nI k, g k) else wiM g k
def arG (σ : MS) (k : Nat) : Bool := decide (σ (252 + k / 4) = 0) && ps (σ (rgt 0 (k / 4) (k % 4) + 1))
def arM (σ : MS) : Nat → Int32
  | 0 => nI 0
  | k + 1 => arM σ k ||| (if arG σ k then nI 1 <<< (nI (k / 4) &&& 31) else nI 0)
def stT (σ : MS) (b k : Nat) : Int32 := σ (b + 252 + k)
theorem inn_or {x : Int32} {k : Nat} (hk : k < 2 ^ 30) : inn x (nI 0) (nI k - nI 1) = iN x k := by
  cases k with
  | zero =>
    have e : nI 0 - nI 1 = (-1 : Int32) := by decide
    rw [e]
    unfold inn iN
    by_cases h : x < 0
    · simp [show x < nI 0 from h, h]
    · have h1 : nI 0 ≤ x := Int32.not_lt.mp h
      have h2 : (-1 : Int32) < x := by
        rw [Int32.lt_iff_toInt_lt]
        rw [Int32.le_iff_toInt_le] at h1
        have a : (nI 0).toInt = 0 := rfl
        have b : (-1 : Int32).toInt = -1 := rfl
        omega
      simp [h1, h2]
  | succ k =>
    rw [show nI (k + 1) - nI 1 = nI k from by rw [pk_sub (by omega)]; rfl]
    exact inn_iN (by omega)
def cpOkM (x y c : Int32) : Bool := iN x 32 && (iN y 32 && (iB c && (decide (tn x + tn c ≤ 32) && decide (tn y + tn c ≤ 32))))
def filOkM (x c y : Int32) : Bool := iN x 32 && (iB c && (iN y 65536 && decide (tn x + tn c ≤ 32)))
theorem upd_o {f : Nat → Int32} {k j : Nat} {v : Int32} (h : j ≠ k) : upd f k v j = f j := by unfold upd; rw [if_neg h]
theorem lay_o {σ : MS} {k j : Nat} {v o h : Int32} (h1 : k + 2 < j) : lay σ k v o h j = σ j := by
  unfold lay; rw [upd_o (by omega), upd_o (by omega), upd_o (by omega)]
theorem upd_s {f : Nat → Int32} {k : Nat} {v : Int32} : upd f k v k = v := by unfold upd; rw [if_pos rfl]
theorem mInj_x {σ : MS} {b w : Nat} (hw : w < 32) (h : σ (b + 256) = nI (tn (σ (b + 256)))) : upd (upd (lay σ (wdt b w) (σ (wdt b w)) (nI (tn (σ (b + 256)))) (nI 0)) (b + 257 + tn (σ (b + 256))) (nI w)) (b + 256) (upd (lay σ (wdt b w) (σ (wdt b w)) (nI (tn (σ (b + 256)))) (nI 0)) (b + 257 + tn (σ (b + 256))) (nI w) (b + 256) + nI 1) = mInj σ b w := by
  have e1 : upd (lay σ (wdt b w) (σ (wdt b w)) (nI (tn (σ (b + 256)))) (nI 0)) (b + 257 + tn (σ (b + 256))) (nI w) (b + 256) = σ (b + 256) := by
    rw [upd_o (by omega)]
    exact lay_o (by unfold wdt; omega)
  have e2 : σ (b + 256) + nI 1 = nI (tn (σ (b + 256)) + 1) := (congrArg (fun z => z + nI 1) h).trans (by rw [nI_add])
  rw [e1, e2]
  unfold mInj mInj1
  rw [← h]
