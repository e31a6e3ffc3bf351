/-! the text and its reader -/
def updN (f : Nat → Nat) (k x : Nat) : Nat → Nat := fun j => if j = k then x else f j
def nf (g : Nat → Nat) : Nat → Int32 := fun k => nI (g k)
theorem nf_upd (g : Nat → Nat) (k x : Nat) : upd (nf g) k (nI x) = nf (updN g k x) := by
  funext j
  unfold upd nf updN
  by_cases h : j = k
  · simp only [if_pos h]
  · simp only [if_neg h]
abbrev Q4 : Type := Nat × (Nat → Nat) × Nat
def isd (ch : Nat → Nat) (len p : Nat) : Bool := decide (p < len) && (decide (48 ≤ ch p) && decide (ch p ≤ 57))
theorem isd_t {ch : Nat → Nat} {len p : Nat} (h : isd ch len p = true) : p < len ∧ 48 ≤ ch p ∧ ch p ≤ 57 := by
  unfold isd at h
  simpa using h
def dh (ch : Nat → Nat) (len p : Nat) : Int32 := if isd ch len p then nI (ch p - 48) else -6
theorem dh_t {ch : Nat → Nat} {len p : Nat} (h : isd ch len p = true) : dh ch len p = nI (ch p - 48) := by unfold dh; rw [if_pos h]
theorem dh_f {ch : Nat → Nat} {len p : Nat} (h : isd ch len p = false) : dh ch len p = -6 := by unfold dh; rw [h, if_neg (by decide)]
def ptA (pt : Nat → Nat) (pc x : Nat) : Nat → Nat := if pc < 5 then updN pt pc x else pt
def pcA (pc : Nat) : Nat := if pc < 5 then pc + 1 else pc
def addQ (q : Q4) (p x : Nat) : Q4 := (p, ptA q.2.1 q.2.2 x, pcA q.2.2)
def dOk (ch : Nat → Nat) (len p : Nat) : Bool := isd ch len p && decide (ch p - 48 < 4)
def rD (ch : Nat → Nat) (len : Nat) (q : Q4) : Q4 := if dOk ch len q.1 then addQ q (q.1 + 1) (ch q.1 - 48) else q
def sOk (ch : Nat → Nat) (len c p : Nat) : Bool := decide (p < len) && decide (ch p = c)
def rS (ch : Nat → Nat) (len c : Nat) (q : Q4) : Q4 := if sOk ch len c q.1 then (q.1 + 1, q.2) else q
def nlp (ch : Nat → Nat) (len g : Nat) : Nat → Nat → Nat → Nat × Nat
  | 0, p, v => (p, v)
  | m + 1, p, v => if isd ch len p = true ∧ v ≠ 0 ∧ v * 10 + (ch p - 48) ≤ g then nlp ch len g m (p + 1) (v * 10 + (ch p - 48)) else (p, v)
theorem nlp_stop {ch : Nat → Nat} {len g p v : Nat} (h : ¬ (isd ch len p = true ∧ v ≠ 0 ∧ v * 10 + (ch p - 48) ≤ g)) : ∀ m, nlp ch len g m p v = (p, v)
  | 0 => rfl
  | m + 1 => by unfold nlp; rw [if_neg h]
theorem nlp_go {ch : Nat → Nat} {len g p v m k : Nat} (h : isd ch len p = true ∧ v ≠ 0 ∧ v * 10 + (ch p - 48) ≤ g) (hk : k < 90) (hm : m = 90 - (k + 1)) : nlp ch len g (90 - k) p v = nlp ch len g m (p + 1) (v * 10 + (ch p - 48)) := by
  rw [show 90 - k = m + 1 from by omega]
  show (if _ then _ else _) = _
  rw [if_pos h]
theorem nlp_le {ch : Nat → Nat} {len g : Nat} (hl : len ≤ 90) : ∀ m p v, p ≤ 90 → (nlp ch len g m p v).1 ≤ 90
  | 0, p, v, h => h
  | m + 1, p, v, h => by
    unfold nlp
    split
    · rename_i c
      have := (isd_t c.1).1
      exact nlp_le hl m (p + 1) _ (by omega)
    · exact h
def rN (ch : Nat → Nat) (len g : Nat) (q : Q4) : Q4 := if isd ch len q.1 then addQ q (nlp ch len g 90 (q.1 + 1) (ch q.1 - 48)).1 (nlp ch len g 90 (q.1 + 1) (ch q.1 - 48)).2 else q
theorem rD_le {ch : Nat → Nat} {len : Nat} {q : Q4} (hl : len ≤ 90) (h : q.1 ≤ 90) : (rD ch len q).1 ≤ 90 := by
  unfold rD addQ
  split
  · rename_i c
    unfold dOk at c
    rw [Bool.and_eq_true] at c
    have := (isd_t c.1).1
    show q.1 + 1 ≤ 90
    omega
  · exact h
theorem rS_le {ch : Nat → Nat} {len c : Nat} {q : Q4} (hl : len ≤ 90) (h : q.1 ≤ 90) : (rS ch len c q).1 ≤ 90 := by
  unfold rS
  split
  · rename_i k
    unfold sOk at k
    simp only [Bool.and_eq_true, decide_eq_true_eq] at k
    show q.1 + 1 ≤ 90
    omega
  · exact h
theorem rN_le {ch : Nat → Nat} {len g : Nat} {q : Q4} (hl : len ≤ 90) (h : q.1 ≤ 90) : (rN ch len g q).1 ≤ 90 := by
  unfold rN addQ
  split
  · rename_i c
    have := (isd_t c).1
    exact nlp_le hl 90 _ _ (by omega)
  · exact h
theorem rD_pc {ch : Nat → Nat} {len : Nat} {q : Q4} (h : q.2.2 ≤ 5) : (rD ch len q).2.2 ≤ 5 := by
  unfold rD addQ pcA
  split
  · show (if q.2.2 < 5 then q.2.2 + 1 else q.2.2) ≤ 5
    split <;> omega
  · exact h
theorem rS_pc {ch : Nat → Nat} {len c : Nat} {q : Q4} (h : q.2.2 ≤ 5) : (rS ch len c q).2.2 ≤ 5 := by
  unfold rS
  split <;> exact h
theorem rN_pc {ch : Nat → Nat} {len g : Nat} {q : Q4} (h : q.2.2 ≤ 5) : (rN ch len g q).2.2 ≤ 5 := by
  unfold rN addQ pcA
  split
  · show (if q.2.2 < 5 then q.2.2 + 1 else q.2.2) ≤ 5
    split <;> omega
  · exact h
def sg (ch : Nat → Nat) (len p : Nat) : Nat := if p < len then ch p else 0
def teF (T : Nat → ClassId) (td : Nat → Nat) (ch : Nat → Nat) (len kd : Nat) (q : Q4) : List va_W := [[((td 0), .inr (4, [.ref (td 1), .int (nI (len)), .int (nI (q.1)), .int (nI (kd)), .ref (td 2), .int (nI (q.2.2))]))], [((td 1), .inl (T 2, 90, .inl (nf ch)))], [((td 2), .inl (T 0, 5, .inl (nf q.2.1)))]]
def teW (T : Nat → ClassId) (td : Nat → Nat) (ch : Nat → Nat) (len kd : Nat) (q : Q4) : va_W := (teF T td ch len kd q).flatten
section FR4
variable {p : Program} {l : Launch} {e : Env} {R : Room} {s : State} {m : MethodId} {args : Array Value} {below : List Frame} {meth : Method} {c : Code} {H : Heap} {locs : List Loc} {cells slots : Nat} {Q : State → Prop}
variable {cc : ByteArray} {pc : Nat} {ls : Array Slot} {rest : List Value} {D : va_G} {A : Nat → Prop} {a : Nat} {T : Nat → ClassId} {Z : ZZ} {fs : List va_W} {H0 : Heap}
theorem fr_iastn {v : Nat} {g : Nat → Nat} (hx : p.tables.exec = Jvm.exec) (hb : c.code = cc) (hK : va_K D vwCl (tyL T) s) (hP : frP D fs H) (hD : va_D A fs.flatten) (hS : va_S A H0 H locs) (i k : Nat) {n : Nat} {fs' : List va_W} (ha : fs[i]? = some [(a, .inl (T 0, n, .inl (nf g)))]) (hfs : fs.set i [(a, .inl (T 0, n, .inl (nf (updN g k v))))] = fs') (hk : k < n) (hk2 : k < 2 ^ 31) (hdg : decode cc pc = .ok (.iastore, 1))
    (kk : ∀ (H1 : Heap) (locs1 : List Loc), frP D fs' H1 → va_D A fs'.flatten → va_S A H0 H1 locs1 → W p l e R s m args below meth c H1 locs1 cells slots Q (F0 m (pc + 1) ls rest)) : W p l e R s m args below meth c H locs cells slots Q (F0 m pc ls (.int (nI v) :: .int (nI k) :: .ref a :: rest)) :=
  fr_iast hx hb hK hP hD hS i k ha (by rw [nf_upd]; exact hfs) hk hk2 hdg kk
theorem fr_castn {v : Nat} {g : Nat → Nat} (hv : v < 65536) (hx : p.tables.exec = Jvm.exec) (hb : c.code = cc) (hK : va_K D vwCl (tyL T) s) (hP : frP D fs H) (hD : va_D A fs.flatten) (hS : va_S A H0 H locs) (i k : Nat) {n : Nat} {fs' : List va_W} (ha : fs[i]? = some [(a, .inl (T 2, n, .inl (nf g)))]) (hfs : fs.set i [(a, .inl (T 2, n, .inl (nf (updN g k v))))] = fs') (hk : k < n) (hk2 : k < 2 ^ 31) (hdg : decode cc pc = .ok (.castore, 1))
    (kk : ∀ (H1 : Heap) (locs1 : List Loc), frP D fs' H1 → va_D A fs'.flatten → va_S A H0 H1 locs1 → W p l e R s m args below meth c H1 locs1 cells slots Q (F0 m (pc + 1) ls rest)) : W p l e R s m args below meth c H locs cells slots Q (F0 m pc ls (.int (nI v) :: .int (nI k) :: .ref a :: rest)) :=
  fr_cast hx hb hK hP hD hS i k ha (by rw [nf_upd]; exact hfs) (by have h := (pk_charN hv).1; unfold vp_nar; rw [h]) hk hk2 hdg kk
end FR4
