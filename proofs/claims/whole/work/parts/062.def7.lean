/-! the reference's reader -/
theorem sg_lt {ch : Nat → Nat} {len p : Nat} (h : ∀ k, ch k < 128) : sg ch len p < 128 := by
  unfold sg; split
  · exact h p
  · omega
theorem sg_in {ch : Nat → Nat} {len p : Nat} (h : 0 < sg ch len p) : p < len := by
  unfold sg at h; split at h
  · assumption
  · omega
theorem innN_t {v a b : Nat} (h : innN v a b = true) : a ≤ v ∧ v ≤ b := by
  unfold innN at h; simpa using h
def tkP (ch : Nat → Nat) (len c p : Nat) : Nat := if sg ch len p = c then p + 1 else p
def dgR (ch : Nat → Nat) (len : Nat) : Nat → Nat → Nat → (Nat → Nat) → Bool × Nat × (Nat → Nat)
  | 0, _, p, nu => (true, p, nu)
  | m + 1, k, p, nu => if innN (sg ch len p) 48 51 then dgR ch len m (k + 1) (p + 1) (updN nu k (sg ch len p - 48)) else (false, p, nu)
theorem dgR_le {ch : Nat → Nat} {len : Nat} (hl : len ≤ 90) : ∀ m k p nu, p ≤ 90 → (dgR ch len m k p nu).2.1 ≤ 90
  | 0, _, _, _, h => h
  | m + 1, k, p, nu, h => by
    unfold dgR; split
    · rename_i c
      have h1 := innN_t c
      have h2 : p < len := sg_in (ch := ch) (by omega)
      exact dgR_le hl m (k + 1) (p + 1) _ (by omega)
    · exact h
theorem tkP_le {ch : Nat → Nat} {len c p : Nat} (hl : len ≤ 90) (hc : 0 < c) (h : p ≤ 90) : tkP ch len c p ≤ 90 := by
  unfold tkP; split
  · rename_i e
    have : p < len := sg_in (ch := ch) (by omega)
    omega
  · exact h
def nlM (ch : Nat → Nat) (len g : Nat) : Nat → Nat → Nat → Nat × Nat
  | 0, p, v => (p, v)
  | m + 1, p, v => if 0 < v ∧ innN (sg ch len p) 48 57 = true ∧ 10 * v + sg ch len p - 48 ≤ g then nlM ch len g m (p + 1) (10 * v + sg ch len p - 48) else (p, v)
theorem nlM_stop {ch : Nat → Nat} {len g p v : Nat} (h : ¬ (0 < v ∧ innN (sg ch len p) 48 57 = true ∧ 10 * v + sg ch len p - 48 ≤ g)) : ∀ m, nlM ch len g m p v = (p, v)
  | 0 => rfl
  | m + 1 => by unfold nlM; rw [if_neg h]
theorem nlM_go {ch : Nat → Nat} {len g p v k : Nat} (h : 0 < v ∧ innN (sg ch len p) 48 57 = true ∧ 10 * v + sg ch len p - 48 ≤ g) (hk : k < 91) : nlM ch len g (91 - k) p v = nlM ch len g (91 - (k + 1)) (p + 1) (10 * v + sg ch len p - 48) := by
  rw [show 91 - k = (91 - (k + 1)) + 1 from by omega]
  show (if _ then _ else _) = _
  rw [if_pos h]
theorem nlM_le {ch : Nat → Nat} {len g : Nat} (hl : len ≤ 90) : ∀ m p v, p ≤ 90 → (nlM ch len g m p v).1 ≤ 90
  | 0, p, v, h => h
  | m + 1, p, v, h => by
    unfold nlM
    split
    · rename_i c
      have h1 := innN_t c.2.1
      have h2 : p < len := sg_in (ch := ch) (by omega)
      exact nlM_le hl m (p + 1) _ (by omega)
    · exact h
def nuOk (ch : Nat → Nat) (len p : Nat) : Bool := innN (sg ch len p) 48 57
def nuR (ch : Nat → Nat) (len g p : Nat) : Nat × Nat := if nuOk ch len p then nlM ch len g 91 (p + 1) (sg ch len p - 48) else (p, 0)
theorem nuR_le {ch : Nat → Nat} {len g p : Nat} (hl : len ≤ 90) (h : p ≤ 90) : (nuR ch len g p).1 ≤ 90 := by
  unfold nuR; split
  · rename_i c
    have h1 := innN_t c
    have h2 : p < len := sg_in (ch := ch) (by omega)
    exact nlM_le hl 91 _ _ (by omega)
  · exact h
section FR7
variable {p : Program} {l : Launch} {e : Env} {R : Room} {s : State} {m : MethodId} {args : Array Value} {below : List Frame} {meth : Method} {c : Code} {H : Heap} {locs : List Loc} {cells slots : Nat} {Q : State → Prop}
variable {cc : ByteArray} {pc : Nat} {ls : Array Slot} {rest : List Value}
/-- a switch that falls to its default -/
theorem fr_tabD (k lo hi : Nat) (hk : k < 2 ^ 31) (hx : p.tables.exec = Jvm.exec) (hb : c.code = cc) {dflt : Int} {offs : Array Int} {len tgt : Nat} (hdg : decode cc pc = .ok (.tableswitch dflt (lo : Int) (hi : Int) offs, len)) (ht : (pc : Int) + dflt = (tgt : Int)) (hin : lo ≤ k → k ≤ hi → offs[k - lo]? = some dflt)
    (kk : W p l e R s m args below meth c H locs cells slots Q (F0 m tgt ls rest)) : W p l e R s m args below meth c H locs cells slots Q (F0 m pc ls (.int (nI k) :: rest)) := by
  have e1 : (nI k).toInt = (k : Int) := nI_toInt hk
  by_cases h : lo ≤ k ∧ k ≤ hi
  · refine lv_tableIn (off := dflt) (tgt := tgt) hx hb hdg (by rw [e1]; omega) (by rw [e1]; omega) ?_ ht kk
    rw [e1, show ((k : Int) - (lo : Int)).toNat = k - lo from by omega]
    exact hin h.1 h.2
  · refine lv_tableOut (tgt := tgt) hx hb hdg (by rw [e1]; omega) ht kk
end FR7
def mNu (ch : Nat → Nat) (len k g p : Nat) (nu : Nat → Nat) : Bool × Nat × (Nat → Nat) := (nuOk ch len p, (nuR ch len g p).1, if nuOk ch len p then updN nu k (nuR ch len g p).2 else nu)
def mLS (ch : Nat → Nat) (len c g p : Nat) (nu : Nat → Nat) : Bool × Nat × (Nat → Nat) :=
  if (dgR ch len 2 0 p nu).1 then (if sg ch len (dgR ch len 2 0 p nu).2.1 = c then mNu ch len 2 g (tkP ch len c (dgR ch len 2 0 p nu).2.1) (dgR ch len 2 0 p nu).2.2 else (false, tkP ch len c (dgR ch len 2 0 p nu).2.1, (dgR ch len 2 0 p nu).2.2)) else (false, (dgR ch len 2 0 p nu).2)
def mOpA (ch : Nat → Nat) (len a p : Nat) (nu : Nat → Nat) : Bool × Nat × (Nat → Nat) :=
  if a = 76 ∨ a = 83 then mLS ch len 44 31 (p + 1) nu else if a = 77 then dgR ch len 3 0 (p + 1) nu else if a = 65 then dgR ch len 5 0 (p + 1) nu else if a = 79 then dgR ch len 2 0 (p + 1) nu else if a = 73 then mNu ch len 0 31 (p + 1) nu else if a = 86 then mLS ch len 61 65535 (p + 1) nu else (false, p, nu)
def mOp (ch : Nat → Nat) (len p : Nat) (nu : Nat → Nat) : Bool × Nat × (Nat → Nat) := mOpA ch len (sg ch len p) p nu
theorem mOpA_not {ch : Nat → Nat} {len a p : Nat} {nu : Nat → Nat} (h : a ≠ 76 ∧ a ≠ 83 ∧ a ≠ 77 ∧ a ≠ 65 ∧ a ≠ 79 ∧ a ≠ 73 ∧ a ≠ 86) : mOpA ch len a p nu = (false, p, nu) := by
  unfold mOpA
  rw [if_neg (by omega), if_neg (by omega), if_neg (by omega), if_neg (by omega), if_neg (by omega), if_neg (by omega)]
