/-! the reader's operations -/
def itOk (ch : Nat → Nat) (len c p : Nat) : Bool := if c = 100 then dOk ch len p else if c = 119 ∨ c = 110 then isd ch len p else sOk ch len c p
def itQ (ch : Nat → Nat) (len c : Nat) (q : Q4) : Q4 := if c = 100 then rD ch len q else if c = 119 then rN ch len 31 q else if c = 110 then rN ch len 65535 q else rS ch len c q
theorem itOk_d {ch : Nat → Nat} {len p : Nat} : itOk ch len 100 p = dOk ch len p := rfl
theorem itOk_w {ch : Nat → Nat} {len p : Nat} : itOk ch len 119 p = isd ch len p := rfl
theorem itOk_n {ch : Nat → Nat} {len p : Nat} : itOk ch len 110 p = isd ch len p := rfl
theorem itOk_c {ch : Nat → Nat} {len p : Nat} : itOk ch len 44 p = sOk ch len 44 p := rfl
theorem itOk_e {ch : Nat → Nat} {len p : Nat} : itOk ch len 61 p = sOk ch len 61 p := rfl
theorem itQ_d {ch : Nat → Nat} {len : Nat} {q : Q4} : itQ ch len 100 q = rD ch len q := rfl
theorem itQ_w {ch : Nat → Nat} {len : Nat} {q : Q4} : itQ ch len 119 q = rN ch len 31 q := rfl
theorem itQ_n {ch : Nat → Nat} {len : Nat} {q : Q4} : itQ ch len 110 q = rN ch len 65535 q := rfl
theorem itQ_c {ch : Nat → Nat} {len : Nat} {q : Q4} : itQ ch len 44 q = rS ch len 44 q := rfl
theorem itQ_e {ch : Nat → Nat} {len : Nat} {q : Q4} : itQ ch len 61 q = rS ch len 61 q := rfl
theorem itQ_le {ch : Nat → Nat} {len c : Nat} {q : Q4} (hl : len ≤ 90) (h : q.1 ≤ 90) : (itQ ch len c q).1 ≤ 90 := by
  unfold itQ
  split
  · exact rD_le hl h
  · split
    · exact rN_le hl h
    · split
      · exact rN_le hl h
      · exact rS_le hl h
theorem itQ_pc {ch : Nat → Nat} {len c : Nat} {q : Q4} (h : q.2.2 ≤ 5) : (itQ ch len c q).2.2 ≤ 5 := by
  unfold itQ
  split
  · exact rD_pc h
  · split
    · exact rN_pc h
    · split
      · exact rN_pc h
      · exact rS_pc h
def rIts (ch : Nat → Nat) (len : Nat) : List Nat → Q4 → Bool × Q4
  | [], q => (true, q)
  | c :: cs, q => if itOk ch len c q.1 = true then rIts ch len cs (itQ ch len c q) else (false, itQ ch len c q)
theorem rIts_le {ch : Nat → Nat} {len : Nat} (hl : len ≤ 90) : ∀ (cs : List Nat) (q : Q4), q.1 ≤ 90 → (rIts ch len cs q).2.1 ≤ 90
  | [], _, h => h
  | c :: cs, q, h => by
    unfold rIts; split
    · exact rIts_le hl cs _ (itQ_le hl h)
    · exact itQ_le hl h
theorem rIts_pc {ch : Nat → Nat} {len : Nat} : ∀ (cs : List Nat) (q : Q4), q.2.2 ≤ 5 → (rIts ch len cs q).2.2.2 ≤ 5
  | [], _, h => h
  | c :: cs, q, h => by
    unfold rIts; split
    · exact rIts_pc cs _ (itQ_pc h)
    · exact itQ_pc h
def shp (x : Nat) : List Nat := (sbyt.getD (shi x) []).map (fun v => v.toNatClampNeg)
def rO (ch : Nat → Nat) (len : Nat) (q : Q4) : Bool × Q4 := if shi (sg ch len q.1) = 6 then (false, q) else rIts ch len (shp (sg ch len q.1)) (q.1 + 1, q.2.1, 0)
theorem rO_no {ch : Nat → Nat} {len : Nat} {q : Q4} {x : Nat} (h : sg ch len q.1 = x) (hs : shi x = 6) : rO ch len q = (false, q) := by
  subst h; unfold rO; rw [if_pos hs]
theorem rO_at {ch : Nat → Nat} {len : Nat} {q : Q4} {x i : Nat} {cs : List Nat} (h : sg ch len q.1 = x) (hs : shi x = i) (hi : i ≠ 6) (hc : (sbyt.getD i []).map (fun v => v.toNatClampNeg) = cs) : rO ch len q = rIts ch len cs (q.1 + 1, q.2.1, 0) := by
  subst h; subst hc; unfold rO shp; rw [hs, if_neg hi]
theorem sg_p {ch : Nat → Nat} {len p : Nat} (h : p < len) : sg ch len p = ch p := by unfold sg; rw [if_pos h]
theorem sg_n {ch : Nat → Nat} {len p : Nat} (h : len ≤ p) : sg ch len p = 0 := by unfold sg; rw [if_neg (by omega)]
theorem rO_le {ch : Nat → Nat} {len : Nat} {q : Q4} (hl : len ≤ 90) (h : q.1 ≤ 90) : (rO ch len q).2.1 ≤ 90 := by
  unfold rO; split
  · exact h
  · rename_i c
    by_cases hp : q.1 < len
    · exact rIts_le hl _ _ (by show q.1 + 1 ≤ 90; omega)
    · exact absurd (by rw [sg_n (by omega)]; rfl) c
theorem rO_pc {ch : Nat → Nat} {len : Nat} {q : Q4} (h : q.2.2 ≤ 5) : (rO ch len q).2.2.2 ≤ 5 := by
  unfold rO; split
  · exact h
  · exact rIts_pc _ _ (by show 0 ≤ 5; omega)
def rX (ch : Nat → Nat) (len : Nat) (q : Q4) : Bool × Q4 := if 0 < q.1 then (if sOk ch len 59 q.1 = true then rO ch len (rS ch len 59 q) else (false, rS ch len 59 q)) else rO ch len q
def rXk (ch : Nat → Nat) (len kd : Nat) (q : Q4) : Nat := if 0 < q.1 then (if sOk ch len 59 q.1 = true then sg ch len (rS ch len 59 q).1 else kd) else sg ch len q.1
theorem rX_le {ch : Nat → Nat} {len : Nat} {q : Q4} (hl : len ≤ 90) (h : q.1 ≤ 90) : (rX ch len q).2.1 ≤ 90 := by
  unfold rX; split
  · split
    · exact rO_le hl (rS_le hl h)
    · exact rS_le hl h
  · exact rO_le hl h
theorem rX_pc {ch : Nat → Nat} {len : Nat} {q : Q4} (h : q.2.2 ≤ 5) : (rX ch len q).2.2.2 ≤ 5 := by
  unfold rX; split
  · split
    · exact rO_pc (rS_pc h)
    · exact rS_pc h
  · exact rO_pc h
/-- where the first fault stands: the answer, the letter, the reader -/
def fF (ch : Nat → Nat) (len : Nat) : Nat → Nat → Q4 → Int32 × Nat × Q4
  | 0, kd, q => (nI q.1, kd, q)
  | m + 1, _, q => if (rO ch len q).1 = true then (if len ≤ (rO ch len q).2.1 then (-6, sg ch len q.1, (rO ch len q).2) else if sOk ch len 59 (rO ch len q).2.1 = true then fF ch len m (sg ch len q.1) (rS ch len 59 (rO ch len q).2) else (nI (rS ch len 59 (rO ch len q).2).1, sg ch len q.1, rS ch len 59 (rO ch len q).2)) else (nI (rO ch len q).2.1, sg ch len q.1, (rO ch len q).2)
theorem fF_go {ch : Nat → Nat} {len k kd : Nat} {q : Q4} (h1 : (rO ch len q).1 = true) (h2 : ¬ len ≤ (rO ch len q).2.1) (h3 : sOk ch len 59 (rO ch len q).2.1 = true) (hk : k < 90) : fF ch len (90 - k) kd q = fF ch len (90 - (k + 1)) (sg ch len q.1) (rS ch len 59 (rO ch len q).2) := by
  rw [show 90 - k = (90 - (k + 1)) + 1 from by omega]
  show (if _ then _ else _) = _
  rw [if_pos h1, if_neg h2, if_pos h3]
theorem fF_a {ch : Nat → Nat} {len k kd : Nat} {q : Q4} (h1 : (rO ch len q).1 = false) (hk : k < 90) : fF ch len (90 - k) kd q = (nI (rO ch len q).2.1, sg ch len q.1, (rO ch len q).2) := by
  rw [show 90 - k = (90 - (k + 1)) + 1 from by omega]
  show (if _ then _ else _) = _
  rw [if_neg (by rw [h1]; decide)]
theorem fF_b {ch : Nat → Nat} {len k kd : Nat} {q : Q4} (h1 : (rO ch len q).1 = true) (h2 : len ≤ (rO ch len q).2.1) (hk : k < 90) : fF ch len (90 - k) kd q = (-6, sg ch len q.1, (rO ch len q).2) := by
  rw [show 90 - k = (90 - (k + 1)) + 1 from by omega]
  show (if _ then _ else _) = _
  rw [if_pos h1, if_pos h2]
theorem fF_c {ch : Nat → Nat} {len k kd : Nat} {q : Q4} (h1 : (rO ch len q).1 = true) (h2 : ¬ len ≤ (rO ch len q).2.1) (h3 : sOk ch len 59 (rO ch len q).2.1 = false) (hk : k < 90) : fF ch len (90 - k) kd q = (nI (rS ch len 59 (rO ch len q).2).1, sg ch len q.1, rS ch len 59 (rO ch len q).2) := by
  rw [show 90 - k = (90 - (k + 1)) + 1 from by omega]
  show (if _ then _ else _) = _
  rw [if_pos h1, if_neg h2, if_neg (by rw [h3]; decide)]
theorem fF_d {ch : Nat → Nat} {len k kd : Nat} {q : Q4} (hk : ¬ k < 90) : fF ch len (90 - k) kd q = (nI q.1, kd, q) := by
  rw [show 90 - k = 0 from by omega]; rfl
