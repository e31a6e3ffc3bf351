abbrev tyL (T : Nat → ClassId) : List (ClassId × FieldType) := [(T 0, .int), (T 1, .boolean), (T 2, .char), (T 3, .object "PoisonedMemory$State")]
/-! MY OWN LAYER: worlds as lists of fragments (a fragment: a list of cells), so that a caller may hold a fragment opaque; contracts whose answer and new world are terms -/
abbrev tn (x : Int32) : Nat := x.toNatClampNeg
def iN (x : Int32) (n : Nat) : Bool := !decide (x < 0) && !decide (nI n ≤ x)
def bI (b : Bool) : Int32 := if b then nI 1 else nI 0
theorem bI_true : bI true = nI 1 := rfl
theorem bI_false : bI false = nI 0 := rfl
theorem bI_0 {b : Bool} : bI b = 0 ↔ b = false := by
  cases b
  · exact ⟨fun _ => rfl, fun _ => rfl⟩
  · exact ⟨fun h => absurd h (by decide), fun h => absurd h (by decide)⟩
theorem bI_n0 {b : Bool} : bI b ≠ 0 ↔ b = true := by
  cases b
  · exact ⟨fun h => absurd rfl h, fun h => absurd h (by decide)⟩
  · exact ⟨fun _ => rfl, fun _ => by decide⟩
theorem bI_nar {b : Bool} : narrow .boolean (.int (bI b)) = .int (bI b) := by cases b <;> rfl
theorem bI_fit {b : Bool} : fits .boolean (.int (bI b)) = true := by cases b <;> rfl
theorem bI_vnar {b : Bool} : vp_nar .boolean (bI b) = bI b := by cases b <;> rfl
theorem iN_iff {x : Int32} {n : Nat} : iN x n = true ↔ ¬ x < 0 ∧ ¬ nI n ≤ x := by
  unfold iN
  simp
theorem iN_eq {x : Int32} {n : Nat} (h : iN x n = true) : x = nI (tn x) := by
  obtain ⟨j, hj, e⟩ := nI_of (iN_iff.mp h).1
  subst e
  show nI j = nI (nI j).toNatClampNeg
  rw [nI_clamp hj]
theorem tn_nI {j : Nat} (h : j < 2 ^ 31) : tn (nI j) = j := nI_clamp h
theorem iN_lt {x : Int32} {n : Nat} (h : iN x n = true) (hn : n < 2 ^ 31) : tn x < n := by
  obtain ⟨j, hj, e⟩ := nI_of (iN_iff.mp h).1
  subst e
  show (nI j).toNatClampNeg < n
  rw [nI_clamp hj]
  have h2 := (iN_iff.mp h).2
  rw [nI_leI hn hj] at h2
  omega
theorem iN_nI {j n : Nat} (hj : j < 2 ^ 31) (hn : n < 2 ^ 31) : iN (nI j) n = decide (j < n) := by
  by_cases h : j < n
  · rw [iN_iff.mpr ⟨nI_pos hj, fun q => by rw [nI_leI hn hj] at q; omega⟩]
    simp [h]
  · rw [show iN (nI j) n = false from Bool.eq_false_iff.mpr (fun q => h (by have := iN_lt q hn; rwa [tn_nI hj] at this))]
    simp [h]
theorem iN_of_le {x : Int32} {n : Nat} (hn : n + 1 < 2 ^ 31) : (!decide (x < nI 0) && !decide (nI n < x)) = iN x (n + 1) := by
  rw [Bool.eq_iff_iff, iN_iff]
  simp only [Bool.and_eq_true, Bool.not_eq_true', decide_eq_false_iff_not]
  constructor
  · intro ⟨h1, h2⟩
    refine ⟨h1, fun q => h2 ?_⟩
    obtain ⟨j, hj, e⟩ := nI_of (x := x) h1
    subst e
    rw [nI_leI hn hj] at q
    exact nI_lt (by omega) hj
  · intro h
    refine ⟨h.1, fun q => h.2 ?_⟩
    obtain ⟨j, hj, e⟩ := nI_of (x := x) h.1
    subst e
    rw [nI_ltI (by omega) hj] at q
    exact nI_le (by omega) hj
theorem nI_inc (k : Nat) : nI k + Int32.ofInt 1 = nI (k + 1) := by
  rw [show Int32.ofInt 1 = 1 from rfl, nI_1]
/-! words of nest mates -/
def nwF : List (String × Nat × String × String × String × String) := [("PoisonedMemory", 136, "PoisonedMemory$State", "words", "LPoisonedMemory$Cells;", "PoisonedMemory"), ("PoisonedMemory", 139, "PoisonedMemory$Cells", "values", "[I", "PoisonedMemory"), ("PoisonedMemory", 143, "PoisonedMemory$Cells", "origins", "[I", "PoisonedMemory"), ("PoisonedMemory", 146, "PoisonedMemory$Cells", "hops", "[I", "PoisonedMemory"), ("PoisonedMemory", 152, "PoisonedMemory$State", "seconds", "LPoisonedMemory$Cells;", "PoisonedMemory"), ("PoisonedMemory", 161, "PoisonedMemory$State", "registers", "LPoisonedMemory$Cells;", "PoisonedMemory"), ("PoisonedMemory", 167, "PoisonedMemory$State", "modes", "[I", "PoisonedMemory"), ("PoisonedMemory", 170, "PoisonedMemory$State", "stopped", "[Z", "PoisonedMemory"), ("PoisonedMemory", 174, "PoisonedMemory$State", "injections", "I", "PoisonedMemory"), ("PoisonedMemory", 181, "PoisonedMemory$State", "sources", "[I", "PoisonedMemory"), ("PoisonedMemory", 184, "PoisonedMemory$State", "faultLog", "LPoisonedMemory$FaultLog;", "PoisonedMemory"), ("PoisonedMemory", 188, "PoisonedMemory$FaultLog", "faults", "I", "PoisonedMemory"), ("PoisonedMemory", 193, "PoisonedMemory$FaultLog", "held", "I", "PoisonedMemory"), ("PoisonedMemory", 196, "PoisonedMemory$FaultLog", "rows", "[I", "PoisonedMemory"), ("PoisonedMemory", 199, "PoisonedMemory$State", "healed", "I", "PoisonedMemory"), ("PoisonedMemory$State", 89, "PoisonedMemory$Cells", "values", "[I", "PoisonedMemory"), ("PoisonedMemory$State", 160, "PoisonedMemory$Cells", "origins", "[I", "PoisonedMemory")]
def nwM : List (String × Nat × MethodName × String) := [("PoisonedMemory", 9, ⟨"PoisonedMemory$State", "<init>", "()V"⟩, "PoisonedMemory"), ("PoisonedMemory", 28, ⟨"PoisonedMemory$Text", "<init>", "()V"⟩, "PoisonedMemory"), ("PoisonedMemory", 149, ⟨"PoisonedMemory$State", "hasSecond", "(I)Z"⟩, "PoisonedMemory"), ("PoisonedMemory", 178, ⟨"PoisonedMemory$State", "isOrigin", "(I)Z"⟩, "PoisonedMemory"), ("PoisonedMemory", 208, ⟨"PoisonedMemory$State", "countCarriers", "(I)I"⟩, "PoisonedMemory"), ("PoisonedMemory", 220, ⟨"PoisonedMemory$State", "countHealable", "(II)I"⟩, "PoisonedMemory"), ("PoisonedMemory$History", 17, ⟨"PoisonedMemory$State", "<init>", "()V"⟩, "PoisonedMemory"), ("PoisonedMemory$History", 29, ⟨"PoisonedMemory", "isError", "(I)Z"⟩, "PoisonedMemory"), ("PoisonedMemory$State", 42, ⟨"PoisonedMemory$FaultLog", "<init>", "()V"⟩, "PoisonedMemory"), ("PoisonedMemory$State", 71, ⟨"PoisonedMemory", "isWord", "(I)Z"⟩, "PoisonedMemory"), ("PoisonedMemory$State", 79, ⟨"PoisonedMemory", "isBlockLength", "(I)Z"⟩, "PoisonedMemory"), ("PoisonedMemory$State", 100, ⟨"PoisonedMemory", "isValue", "(I)Z"⟩, "PoisonedMemory"), ("PoisonedMemory$State", 110, ⟨"PoisonedMemory", "isPage", "(I)Z"⟩, "PoisonedMemory"), ("PoisonedMemory$State", 117, ⟨"PoisonedMemory", "isTask", "(I)Z"⟩, "PoisonedMemory"), ("PoisonedMemory$State", 120, ⟨"PoisonedMemory", "cellOf", "(II)I"⟩, "PoisonedMemory"), ("PoisonedMemory$State", 123, ⟨"PoisonedMemory", "isRegister", "(I)Z"⟩, "PoisonedMemory"), ("PoisonedMemory$State", 129, ⟨"PoisonedMemory", "isPart", "(I)Z"⟩, "PoisonedMemory"), ("PoisonedMemory$State", 132, ⟨"PoisonedMemory", "byteOf", "(II)I"⟩, "PoisonedMemory")]
def nwOk (U : State) : Prop := (∀ q ∈ nwF, va_Nw (.fieldLinkNest q.1 q.2.1 q.2.2.1 q.2.2.2.1 q.2.2.2.2.1 q.2.2.2.2.2) U) ∧ (∀ q ∈ nwM, va_Nw (.methodLinkNest q.1 q.2.1 q.2.2.1 q.2.2.2) U)
theorem nwOk.warm {s U : State} (hW : s.WarmedH U.vm) (h : nwOk s) : nwOk U := ⟨fun q hq => va_Nw.warmF hW (h.1 q hq), fun q hq => va_Nw.warmM hW (h.2 q hq)⟩
theorem nwOk.same {u U : State} (e : u.vm = U.vm) (h : nwOk u) : nwOk U := ⟨fun q hq => va_Nw.same rfl e (h.1 q hq), fun q hq => va_Nw.same rfl e (h.2 q hq)⟩
/-! no String constant is reached here -/
abbrev ZZ : Type := Nat
def amb (_ : ZZ) (_ : Nat → Prop) (_ : State) (_ : Heap) : Prop := True
theorem amb.to {Z : ZZ} {A B : Nat → Prop} {s U : State} {H : Heap} {locs : List Loc} (h : amb Z A s s.heap) (hS : va_S A s.heap H locs) (hF : ∀ q, B q → A q) (hW : s.WarmedH U.vm) (hU : U.heap = H) : amb Z B U U.heap := trivial
theorem amb.blind {Z : ZZ} {A : Nat → Prop} {U : State} (g : JFrame) (mk : MethodId) (a : Array Value) (h : amb Z A U U.heap) : amb Z A (U.calling g mk a) (U.calling g mk a).heap := trivial
/-! fragments -/
def frP (D : va_G) (fs : List va_W) (H : Heap) : Prop := va_P D vwCl fs.flatten H
theorem frP.at {D : va_G} {fs : List va_W} {H : Heap} (h : frP D fs H) (i : Nat) {f : va_W} (hf : fs[i]? = some f) : va_P D vwCl f H := by
  intro k q hk
  have hm : q ∈ fs.flatten := List.mem_flatten.mpr ⟨f, List.mem_of_getElem? hf, List.mem_of_getElem? hk⟩
  obtain ⟨j, hj⟩ := List.getElem?_of_mem hm
  exact h j q hj
theorem frP.mk {D : va_G} {fs : List va_W} {H : Heap} (h : ∀ (i : Nat) (f : va_W), fs[i]? = some f → va_P D vwCl f H) : frP D fs H := by
  intro k q hk
  obtain ⟨f, hf, hq⟩ := List.mem_flatten.mp (List.mem_of_getElem? hk)
  obtain ⟨i, hi⟩ := List.getElem?_of_mem hf
  obtain ⟨j, hj⟩ := List.getElem?_of_mem hq
  exact h i f hi j q hj
theorem fr_index : ∀ (fs : List va_W) (i : Nat) (x : Nat × va_E), fs[i]? = some [x] → ∃ q : Nat, fs.flatten[q]? = some x ∧ ∀ y : Nat × va_E, fs.flatten.set q y = (fs.set i [y]).flatten
  | [], i, x, h => by simp at h
  | f :: fs, 0, x, h => by
    simp only [List.getElem?_cons_zero, Option.some.injEq] at h
    subst h
    exact ⟨0, by simp, fun y => by simp⟩
  | f :: fs, i + 1, x, h => by
    simp only [List.getElem?_cons_succ] at h
    obtain ⟨q, h1, h2⟩ := fr_index fs i x h
    refine ⟨f.length + q, ?_, fun y => ?_⟩
    · rw [List.flatten_cons, List.getElem?_append_right (by omega), Nat.add_sub_cancel_left]
      exact h1
    · rw [List.set_cons_succ, List.flatten_cons, List.flatten_cons, List.set_append_right _ _ (by omega), Nat.add_sub_cancel_left, h2]
def frPut : List va_W → List Nat → List va_W → List va_W
  | fs, i :: is, c :: cs => frPut (fs.set i c) is cs
  | fs, _, _ => fs
theorem frPut_get : ∀ (is : List Nat) (cs fs : List va_W) (k : Nat) (f : va_W), is.length = cs.length → (frPut fs is cs)[k]? = some f → (∃ j : Nat, is[j]? = some k ∧ cs[j]? = some f) ∨ (k ∉ is ∧ fs[k]? = some f)
  | [], cs, fs, k, f, _, h => by
    have h : fs[k]? = some f := by simpa [frPut] using h
    exact Or.inr ⟨List.not_mem_nil, h⟩
  | i :: is, [], fs, k, f, hl, h => by simp at hl
  | i :: is, c :: cs, fs, k, f, hl, h => by
    rcases frPut_get is cs (fs.set i c) k f (by simpa using hl) h with ⟨j, h1, h2⟩ | ⟨h1, h2⟩
    · exact Or.inl ⟨j + 1, by simpa using h1, by simpa using h2⟩
    · by_cases e : k = i
      · subst e
        have hlt : k < fs.length := by
          have := (List.getElem?_eq_some_iff.mp h2).1
          simpa using this
        rw [List.getElem?_set_self hlt] at h2
        exact Or.inl ⟨0, by simp, by simpa using h2⟩
      · rw [List.getElem?_set_ne (Ne.symm e)] at h2
        exact Or.inr ⟨by simp [e, h1], h2⟩
theorem frPut_adr : ∀ (is : List Nat) (cs fs : List va_W), (∀ (j i : Nat) (c : va_W), is[j]? = some i → cs[j]? = some c → ∃ f, fs[i]? = some f ∧ c.map Prod.fst = f.map Prod.fst) → (frPut fs is cs).map (fun f => f.map Prod.fst) = fs.map (fun f => f.map Prod.fst)
  | [], cs, fs, _ => by simp [frPut]
  | i :: is, [], fs, _ => by simp [frPut]
  | i :: is, c :: cs, fs, h => by
    obtain ⟨f, hf, he⟩ := h 0 i c (by simp) (by simp)
    have e1 : (fs.set i c).map (fun f => f.map Prod.fst) = fs.map (fun f => f.map Prod.fst) := by
      rw [List.map_set]
      apply List.ext_getElem?
      intro k
      by_cases e : i = k
      · subst e
        have hlt := (List.getElem?_eq_some_iff.mp hf).1
        rw [List.getElem?_set_self (by simpa using hlt), List.getElem?_map, hf, he]
        rfl
      · rw [List.getElem?_set_ne e]
    rw [← e1]
    show (frPut (fs.set i c) is cs).map _ = _
    refine frPut_adr is cs (fs.set i c) (fun j i' c' h1 h2 => ?_)
    obtain ⟨f', hf', he'⟩ := h (j + 1) i' c' (by simpa using h1) (by simpa using h2)
    by_cases e : i = i'
    · subst e
      have hlt := (List.getElem?_eq_some_iff.mp hf).1
      refine ⟨c, List.getElem?_set_self hlt, ?_⟩
      rw [hf] at hf'
      cases hf'
      rw [he', he]
    · exact ⟨f', by rw [List.getElem?_set_ne e]; exact hf', he'⟩
theorem va_D_adr {A : Nat → Prop} {w w' : va_W} (e : w'.map Prod.fst = w.map Prod.fst) (h : va_D A w) : va_D A w' := by
  have key : ∀ (k : Nat) (q : Nat × va_E), w'[k]? = some q → ∃ q0, w[k]? = some q0 ∧ q0.1 = q.1 := by
    intro k q hk
    have h1 : (w'.map Prod.fst)[k]? = some q.1 := by rw [List.getElem?_map, hk]; rfl
    rw [e, List.getElem?_map] at h1
    cases h2 : w[k]? with
    | none => rw [h2] at h1; cases h1
    | some q0 => rw [h2] at h1; exact ⟨q0, rfl, by simpa using h1⟩
  refine ⟨fun i j x y hi hj hxy => ?_, fun k q hk => ?_⟩
  · obtain ⟨x0, h1, h2⟩ := key i x hi
    obtain ⟨y0, h3, h4⟩ := key j y hj
    exact h.1 i j x0 y0 h1 h3 (h2.trans (hxy.trans h4.symm))
  · obtain ⟨q0, h1, h2⟩ := key k q hk
    rw [← h2]
    exact h.2 k q0 h1
theorem frD_adr {A : Nat → Prop} {fs fs' : List va_W} (e : fs'.map (fun f => f.map Prod.fst) = fs.map (fun f => f.map Prod.fst)) (h : va_D A fs.flatten) : va_D A fs'.flatten :=
  va_D_adr (by rw [List.map_flatten, List.map_flatten, e]) h
theorem frD_apart {A : Nat → Prop} {fs : List va_W} (h : va_D A fs.flatten) {k i : Nat} {f g : va_W} {p q : Nat × va_E} (hk : fs[k]? = some f) (hi : fs[i]? = some g) (hp : p ∈ f) (hq : q ∈ g) (e : p.1 = q.1) : k = i := by
  have hpw : fs.flatten.Pairwise (fun p q => p.1 ≠ q.1) := by
    rw [List.pairwise_iff_getElem]
    intro a b ha hb hab e2
    have := h.1 a b _ _ (List.getElem?_eq_getElem ha) (List.getElem?_eq_getElem hb) e2
    omega
  rw [List.pairwise_flatten] at hpw
  have h2 := (List.pairwise_iff_getElem.mp hpw.2)
  obtain ⟨lk, ek⟩ := List.getElem?_eq_some_iff.mp hk
  obtain ⟨li, ei⟩ := List.getElem?_eq_some_iff.mp hi
  rcases Nat.lt_trichotomy k i with hlt | heq | hgt
  · exact absurd e (h2 k i lk li hlt p (by rw [ek]; exact hp) q (by rw [ei]; exact hq))
  · exact heq
  · exact absurd e.symm (h2 i k li lk hgt q (by rw [ei]; exact hq) p (by rw [ek]; exact hp))
/-! contracts -/
def frPre (D : va_G) (T : Nat → ClassId) (Z : ZZ) (fs : List va_W) (sz : Nat) (U : State) : Prop := U.heap.size = sz ∧ frP D fs U.heap ∧ va_K D vwCl (tyL T) U ∧ nwOk U ∧ amb Z (va_A fs.flatten sz) U U.heap ∧ va_D (fun _ => True) fs.flatten
theorem frPre.blind {D : va_G} {T : Nat → ClassId} {Z : ZZ} {fs : List va_W} {sz : Nat} {as : List Value} : FrameBlind (va_Pc as (frPre D T Z fs sz)) := by
  intro a U g mk h
  obtain ⟨h0, h1, h2, h3, h4, h6, h5⟩ := h
  exact ⟨h0, h1, h2, va_K.moved (u := U) (U := U.calling g mk a) (Vm.Alike.refl U.vm) h3, nwOk.same (u := U) (U := U.calling g mk a) rfl h4, h6.blind g mk a, h5⟩
abbrev frAdr (fs' fs : List va_W) : Prop := fs'.map (fun f => f.map Prod.fst) = fs.map (fun f => f.map Prod.fst)
def QcI (D : va_G) (fs' : List va_W) (r : Int32) (A : Nat → Prop) : Array Value → State → Outcome → State → Prop := va_Qi (fun (r' : Int32) (_ : Unit) => r' = r) (fun _ t => frP D fs' t.heap) A
def QcV (D : va_G) (fs' : List va_W) (A : Nat → Prop) : Array Value → State → Outcome → State → Prop := va_Qv (fun (_ : Unit) => True) (fun _ t => frP D fs' t.heap) A
def CtI (l : Launch) (D : va_G) (T : Nat → ClassId) (Z : ZZ) (y : MethodName) (ws : List Cond) (rm : Room) (fs : List va_W) (as : List Value) (r : Int32) (fs' : List va_W) : Prop :=
  frAdr fs' fs ∧ ∀ sz : Nat, Met l y ws rm (va_Pc as (frPre D T Z fs sz)) (QcI D fs' r (va_A fs.flatten sz)) 0 0 (va_A fs.flatten sz)
def CtV (l : Launch) (D : va_G) (T : Nat → ClassId) (Z : ZZ) (y : MethodName) (ws : List Cond) (rm : Room) (fs : List va_W) (as : List Value) (fs' : List va_W) : Prop :=
  frAdr fs' fs ∧ ∀ sz : Nat, Met l y ws rm (va_Pc as (frPre D T Z fs sz)) (QcV D fs' (va_A fs.flatten sz)) 0 0 (va_A fs.flatten sz)
/-- what a walk has at hand -/
abbrev Ent (p : Program) (s : State) (m : MethodId) (meth : Method) (c : Code) (y : MethodName) (ws : List Cond) (as : List Value) (cc : ByteArray) (maxL : Nat) (ret : Option FieldType) : Prop :=
  p.tables.exec = Jvm.exec ∧ c.code = cc ∧ meth.sig.returnType = ret ∧ (∀ w ∈ ws, w.before as.toArray s = true) ∧ s.vm.findClass y.cls = some m.cls ∧ c.maxLocals = maxL ∧ meth.locks = false
theorem CtI.of {l : Launch} {D : va_G} {T : Nat → ClassId} {Z : ZZ} {y : MethodName} {ws ws' : List Cond} {rm : Room} {fs : List va_W} {as : List Value} {r : Int32} {fs' : List va_W} {cc : ByteArray} {maxL : Nat} {ret : Option FieldType} (hy : plainFor y = true) (hw : ws = Cond.code y cc maxL ret :: ws') (hadr : frAdr fs' fs)
    (body : ∀ (p : Program) (e : Env) (s : State) (m : MethodId) (below : List Frame) (meth : Method) (c : Code) (A : Nat → Prop), Ent p s m meth c y ws as cc maxL ret →
      va_K D vwCl (tyL T) s → nwOk s → amb Z A s s.heap → frP D fs s.heap → va_D A fs.flatten → (∀ q, s.heap.size ≤ q → A q) →
      W p l e rm s m as.toArray below meth c s.heap [] 0 0 (MQ below (QcI D fs' r A) as.toArray s 0 0 A) (entryFrame m as.toArray maxL)) : CtI l D T Z y ws rm fs as r fs' := by
  refine ⟨hadr, fun sz => ?_⟩
  refine va_MetF (cc := cc) (maxL := maxL) (ret := ret) hy hw ?_
  intro p e s m args below meth c s₁ B hml hv
  obtain ⟨rfl, hsz, hP, hK, hN, hM, hD0⟩ := hv
  subst hsz
  exact body p e s m below meth c _ ⟨B.exec, B.bytes, B.returns, atoms_spec (ws := ws) B.pre, findClass_of_methodNamed B.named, hml, B.notSynchronized⟩ hK hN hM hP hD0.self (fun q h => Or.inr h)
theorem CtV.of {l : Launch} {D : va_G} {T : Nat → ClassId} {Z : ZZ} {y : MethodName} {ws ws' : List Cond} {rm : Room} {fs : List va_W} {as : List Value} {fs' : List va_W} {cc : ByteArray} {maxL : Nat} {ret : Option FieldType} (hy : plainFor y = true) (hw : ws = Cond.code y cc maxL ret :: ws') (hadr : frAdr fs' fs)
    (body : ∀ (p : Program) (e : Env) (s : State) (m : MethodId) (below : List Frame) (meth : Method) (c : Code) (A : Nat → Prop), Ent p s m meth c y ws as cc maxL ret →
      va_K D vwCl (tyL T) s → nwOk s → amb Z A s s.heap → frP D fs s.heap → va_D A fs.flatten → (∀ q, s.heap.size ≤ q → A q) →
      W p l e rm s m as.toArray below meth c s.heap [] 0 0 (MQ below (QcV D fs' A) as.toArray s 0 0 A) (entryFrame m as.toArray maxL)) : CtV l D T Z y ws rm fs as fs' := by
  refine ⟨hadr, fun sz => ?_⟩
  refine va_MetF (cc := cc) (maxL := maxL) (ret := ret) hy hw ?_
  intro p e s m args below meth c s₁ B hml hv
  obtain ⟨rfl, hsz, hP, hK, hN, hM, hD0⟩ := hv
  subst hsz
  exact body p e s m below meth c _ ⟨B.exec, B.bytes, B.returns, atoms_spec (ws := ws) B.pre, findClass_of_methodNamed B.named, hml, B.notSynchronized⟩ hK hN hM hP hD0.self (fun q h => Or.inr h)
/-- the same cells, cut otherwise -/
theorem CtI.re {l : Launch} {D : va_G} {T : Nat → ClassId} {Z : ZZ} {y : MethodName} {ws : List Cond} {rm : Room} {fs fs' gs gs' : List va_W} {as : List Value} {r : Int32} (h : CtI l D T Z y ws rm fs as r fs') (e : fs.flatten = gs.flatten) (e' : fs'.flatten = gs'.flatten) (hadr : frAdr gs' gs) : CtI l D T Z y ws rm gs as r gs' := by
  refine ⟨hadr, fun sz => ?_⟩
  have h1 := h.2 sz
  unfold frPre QcI frP at h1
  unfold frPre QcI frP
  rw [e, e'] at h1
  exact h1
theorem CtV.re {l : Launch} {D : va_G} {T : Nat → ClassId} {Z : ZZ} {y : MethodName} {ws : List Cond} {rm : Room} {fs fs' gs gs' : List va_W} {as : List Value} (h : CtV l D T Z y ws rm fs as fs') (e : fs.flatten = gs.flatten) (e' : fs'.flatten = gs'.flatten) (hadr : frAdr gs' gs) : CtV l D T Z y ws rm gs as gs' := by
  refine ⟨hadr, fun sz => ?_⟩
  have h1 := h.2 sz
  unfold frPre QcV frP at h1
  unfold frPre QcV frP
  rw [e, e'] at h1
  exact h1
/-- behind a call -/
theorem fr_free {A : Nat → Prop} {fs cs : List va_W} {H0 H : Heap} {locs : List Loc} (hD : va_D A fs.flatten) (hS : va_S A H0 H locs) (hA : ∀ q, H0.size ≤ q → A q) {is : List Nat} (hC : is.map (fun i => fs[i]?) = cs.map some) : ∀ q, va_A cs.flatten H.size q → A q := by
  intro q h
  rcases h with ⟨k, e, h⟩ | h
  · obtain ⟨f, hf, hq⟩ := List.mem_flatten.mp (List.mem_of_getElem? h)
    obtain ⟨j, hj⟩ := List.getElem?_of_mem hf
    have h1 : (is.map (fun i => fs[i]?))[j]? = some (some f) := by rw [hC, List.getElem?_map, hj]; rfl
    rw [List.getElem?_map] at h1
    cases hi : is[j]? with
    | none => rw [hi] at h1; cases h1
    | some i =>
      rw [hi] at h1
      have h2 : fs[i]? = some f := Option.some.inj h1
      have hm : (q, e) ∈ fs.flatten := List.mem_flatten.mpr ⟨f, List.mem_of_getElem? h2, hq⟩
      obtain ⟨n, hn⟩ := List.getElem?_of_mem hm
      exact hD.2 n (q, e) hn
  · exact hA q (Nat.le_trans hS.1 h)
theorem fr_join {A : Nat → Prop} {D : va_G} {fs cs cs' fs' : List va_W} {H H1 : Heap} (hP : frP D fs H) (hD : va_D A fs.flatten) {is : List Nat} (hC : is.map (fun i => fs[i]?) = cs.map some) (hadr : frAdr cs' cs) (hput : frPut fs is cs' = fs')
    (hk : ∀ q : Nat, q < H.size → ¬ va_A cs.flatten H.size q → H1[q]? = H[q]?) (hP1 : frP D cs' H1) : frP D fs' H1 ∧ va_D A fs'.flatten := by
  have hlen : is.length = cs'.length := by
    have e1 : is.length = cs.length := by
      have := congrArg List.length hC
      simpa using this
    have e2 : cs'.length = cs.length := by
      have := congrArg List.length hadr
      simpa using this
    omega
  have at' : ∀ (j i : Nat), is[j]? = some i → ∃ f, fs[i]? = some f ∧ cs[j]? = some f := by
    intro j i hj
    have h1 : (cs.map some)[j]? = some (fs[i]?) := by rw [← hC, List.getElem?_map, hj]; rfl
    rw [List.getElem?_map] at h1
    cases hc : cs[j]? with
    | none => rw [hc] at h1; cases h1
    | some f => rw [hc] at h1; exact ⟨f, (Option.some.inj h1).symm, rfl⟩
  subst hput
  refine ⟨frP.mk (fun k f hf => ?_), frD_adr (frPut_adr is cs' fs (fun j i c' h1 h2 => ?_)) hD⟩
  · rcases frPut_get is cs' fs k f hlen hf with ⟨j, h1, h2⟩ | ⟨h1, h2⟩
    · exact hP1.at j h2
    · refine (hP.at k h2).kept (fun n q hq => ?_)
      have hlt : q.1 < H.size := (hP.at k h2 n q hq).lt
      refine hk q.1 hlt (fun hv => ?_)
      rcases hv with ⟨n2, e, hv⟩ | hv
      · obtain ⟨g, hg, hq2⟩ := List.mem_flatten.mp (List.mem_of_getElem? hv)
        obtain ⟨j, hj⟩ := List.getElem?_of_mem hg
        cases hi : is[j]? with
        | none =>
          have := List.getElem?_eq_none_iff.mp hi
          have h3 := (List.getElem?_eq_some_iff.mp hj).1
          have e1 : is.length = cs.length := by
            have := congrArg List.length hC
            simpa using this
          omega
        | some i =>
          obtain ⟨g', h3, h4⟩ := at' j i hi
          rw [hj] at h4
          cases h4
          have := frD_apart hD h2 h3 (List.mem_of_getElem? hq) hq2 rfl
          subst this
          exact h1 (List.mem_of_getElem? hi)
      · omega
  · obtain ⟨f, h3, h4⟩ := at' j i h1
    refine ⟨f, h3, ?_⟩
    have h5 : (cs'.map (fun f => f.map Prod.fst))[j]? = some (c'.map Prod.fst) := by rw [List.getElem?_map, h2]; rfl
    rw [hadr, List.getElem?_map, h4] at h5
    exact (Option.some.inj h5).symm
/-! more numbers -/
theorem nI_dec (d : Nat) {k : Nat} (h : d ≤ k) (n : Int) (hn : Int32.ofInt n = -nI d) : nI k + Int32.ofInt n = nI (k - d) := by
  rw [hn, ← Int32.sub_eq_add_neg, pk_sub h]
def bz (x : Int32) : Bool := !decide (x = 0)
theorem bz_bI (b : Bool) : bz (bI b) = b := by cases b <;> rfl
/-- a row of booleans, held as a function of ints -/
def bf (g : Nat → Int32) : Nat → Int32 := fun k => bI (bz (g k))
theorem bf_upd (g : Nat → Int32) (k : Nat) (b : Bool) : upd (bf g) k (bI b) = bf (upd g k (bI b)) := by
  funext j
  unfold upd bf
  by_cases h : j = k
  · simp only [if_pos h, bz_bI]
  · simp only [if_neg h]
theorem arrV_eq {cI : ClassId} {N : Nat} {f g : Nat → Value} (h : ∀ j, j < N → f j = g j) : arrV cI N f = arrV cI N g := by
  unfold arrV
  rw [show (fun j : Fin N => f j.val) = (fun j : Fin N => g j.val) from funext fun j => h j.val j.isLt]
theorem frP.row {D : va_G} {fs : List va_W} {H : Heap} (h : frP D fs H) {i : Nat} {a : Nat} {cA : ClassId} {n : Nat} {f g : Nat → Int32} {fs' : List va_W} (ha : fs[i]? = some [(a, .inl (cA, n, .inl f))]) (he : ∀ j, j < n → f j = g j) (hfs : fs.set i [(a, .inl (cA, n, .inl g))] = fs') : frP D fs' H := by
  subst hfs
  have hlt := (List.getElem?_eq_some_iff.mp ha).1
  refine frP.mk (fun k w hk => ?_)
  by_cases e : k = i
  · subst e
    rw [List.getElem?_set_self hlt] at hk
    cases hk
    intro j q hq
    have h1 := h.at k ha j
    cases j with
    | zero =>
      cases hq
      have h2 := h1 _ rfl
      show H[a]? = some (vp_cell cA (n, .inl g))
      rw [vp_cell_i, ← arrV_eq (f := fun j => .int (f j)) (fun j hj => by rw [he j hj]), ← vp_cell_i]
      exact h2
    | succ j => simp at hq
  · rw [List.getElem?_set_ne (Ne.symm e)] at hk
    exact h.at k hk
section FR
variable {p : Program} {l : Launch} {e : Env} {R : Room} {s : State} {m : MethodId} {args : Array Value} {below : List Frame} {meth : Method} {c : Code} {H : Heap} {locs : List Loc} {cells slots : Nat} {Q : State → Prop}
variable {cc : ByteArray} {pc : Nat} {ls : Array Slot} {rest : List Value} {D : va_G} {A : Nat → Prop} {a : Nat} {T : Nat → ClassId} {Z : ZZ} {fs : List va_W} {H0 : Heap}
/-! ends -/
theorem fr_iret {fs' : List va_W} {r v : Int32} (hx : p.tables.exec = Jvm.exec) (hb : c.code = cc) (hr : meth.sig.returnType = some .int) (hlk : meth.locks = false) (hP : frP D fs H) (hS : va_S A s.heap H locs) (hv : v = r) (hf : fs = fs') (hdg : decode cc pc = .ok (.ireturn, 1)) :
    W p l e R s m args below meth c H locs 0 0 (MQ below (QcI D fs' r A) args s 0 0 A) (F0 m pc ls [.int v]) := by
  subst hv; subst hf
  exact W.iret hx hb hr (fun t ht hW => ⟨⟨v, (), rfl, rfl, by show frP D fs t.heap; rw [ht]; exact hP⟩, hS.F ht⟩) hS.2.2 hdg hlk
theorem fr_zret {fs' : List va_W} {r v : Int32} (hx : p.tables.exec = Jvm.exec) (hb : c.code = cc) (hr : meth.sig.returnType = some .boolean) (hlk : meth.locks = false) (hP : frP D fs H) (hS : va_S A s.heap H locs) (hv : v = r) (hf : fs = fs') (hn : narrow .boolean (.int v) = .int v) (hdg : decode cc pc = .ok (.ireturn, 1)) :
    W p l e R s m args below meth c H locs 0 0 (MQ below (QcI D fs' r A) args s 0 0 A) (F0 m pc ls [.int v]) := by
  subst hv; subst hf
  exact W.zret hx hb hr hn (fun t ht hW => ⟨⟨v, (), rfl, rfl, by show frP D fs t.heap; rw [ht]; exact hP⟩, hS.F ht⟩) hS.2.2 hdg hlk
theorem fr_vret {fs' : List va_W} (hx : p.tables.exec = Jvm.exec) (hb : c.code = cc) (hr : meth.sig.returnType = none) (hlk : meth.locks = false) (hP : frP D fs H) (hS : va_S A s.heap H locs) (hf : fs = fs') (hdg : decode cc pc = .ok (.return_, 1)) :
    W p l e R s m args below meth c H locs 0 0 (MQ below (QcV D fs' A) args s 0 0 A) (F0 m pc ls []) := by
  subst hf
  exact W.vret hx hb hr (fun t ht hW => ⟨⟨(), rfl, trivial, by show frP D fs t.heap; rw [ht]; exact hP⟩, hS.F ht⟩) hS.2.2 hdg hlk
/-! numbers -/
theorem fr_iadd (x y : Nat) (hx : p.tables.exec = Jvm.exec) (hb : c.code = cc) (hdg : decode cc pc = .ok (.iadd, 1)) (k : W p l e R s m args below meth c H locs cells slots Q (F0 m (pc + 1) ls (.int (nI (x + y)) :: rest))) : W p l e R s m args below meth c H locs cells slots Q (F0 m pc ls (.int (nI y) :: .int (nI x) :: rest)) :=
  lv_iadd hx hb hdg (by rw [nI_add]; exact k)
theorem fr_isub (x y : Nat) (h : y ≤ x) (hx : p.tables.exec = Jvm.exec) (hb : c.code = cc) (hdg : decode cc pc = .ok (.isub, 1)) (k : W p l e R s m args below meth c H locs cells slots Q (F0 m (pc + 1) ls (.int (nI (x - y)) :: rest))) : W p l e R s m args below meth c H locs cells slots Q (F0 m pc ls (.int (nI y) :: .int (nI x) :: rest)) :=
  lv_isub hx hb hdg (by rw [pk_sub h]; exact k)
theorem fr_imul (x y : Nat) (hx : p.tables.exec = Jvm.exec) (hb : c.code = cc) (hdg : decode cc pc = .ok (.imul, 1)) (k : W p l e R s m args below meth c H locs cells slots Q (F0 m (pc + 1) ls (.int (nI (x * y)) :: rest))) : W p l e R s m args below meth c H locs cells slots Q (F0 m pc ls (.int (nI y) :: .int (nI x) :: rest)) :=
  lv_imul hx hb hdg (by rw [pk_mul]; exact k)
theorem fr_idiv (x y : Nat) (h1 : x < 2 ^ 31) (h2 : 0 < y) (h3 : y < 2 ^ 31) (hx : p.tables.exec = Jvm.exec) (hb : c.code = cc) (hdg : decode cc pc = .ok (.idiv, 1)) (k : W p l e R s m args below meth c H locs cells slots Q (F0 m (pc + 1) ls (.int (nI (x / y)) :: rest))) : W p l e R s m args below meth c H locs cells slots Q (F0 m pc ls (.int (nI y) :: .int (nI x) :: rest)) :=
  lv_idiv hx hb hdg (nI_ne0 h2 h3) (by rw [pk_div h1 h2 h3]; exact k)
theorem fr_iinc (j : Nat) {i nL k : Nat} {n : Int} {lv lv' : List (Nat × Value)} (j' : Nat) (hv : nI j + Int32.ofInt n = nI j') (hx : p.tables.exec = Jvm.exec) (hb : c.code = cc) (hdg : decode cc pc = .ok (.iinc i n, 3)) (h : lv_has ls nL lv) (hk : lv[k]? = some (i, .int (nI j))) (hn : i < nL) (hl : (i, Value.int (nI j')) :: lv.filter (fun q => !(q.1 == i) && !(q.1 + 1 == i && q.2.category == 2)) = lv')
    (kk : ∀ ls' : Array Slot, lv_has ls' nL lv' → W p l e R s m args below meth c H locs cells slots Q (F0 m (pc + 3) ls' rest)) : W p l e R s m args below meth c H locs cells slots Q (F0 m pc ls rest) :=
  lv_iinc hx hb hdg h hk hv hn hl kk
theorem fr_val {x y : Int32} (he : x = y) (k : W p l e R s m args below meth c H locs cells slots Q (F0 m pc ls (.int y :: rest))) : W p l e R s m args below meth c H locs cells slots Q (F0 m pc ls (.int x :: rest)) := by
  rw [he]; exact k
theorem fr_ref {x y : Value} (he : x = y) (k : W p l e R s m args below meth c H locs cells slots Q (F0 m pc ls (y :: rest))) : W p l e R s m args below meth c H locs cells slots Q (F0 m pc ls (x :: rest)) := by
  rw [he]; exact k
theorem fr_ialdq (hx : p.tables.exec = Jvm.exec) (hb : c.code = cc) (hK : va_K D vwCl (tyL T) s) (hP : frP D fs H) (i q k : Nat) {w : va_W} {n : Nat} {f : Nat → Int32} (hf : fs[i]? = some w) (ha : w[q]? = some (a, .inl (T 0, n, .inl f))) (hk : k < n) (hk2 : k < 2 ^ 31) (hdg : decode cc pc = .ok (.iaload, 1))
    (kk : W p l e R s m args below meth c H locs cells slots Q (F0 m (pc + 1) ls (.int (f k) :: rest))) : W p l e R s m args below meth c H locs cells slots Q (F0 m pc ls (.int (nI k) :: .ref a :: rest)) :=
  va_iald hx hb hK (hP.at i hf) q 0 ha rfl (fun q => by rcases q with q | q; exact nI_pos hk2 q; rw [nI_clamp hk2] at q; omega) hdg (by rw [nI_clamp hk2]; exact kk)
/-! branches over nats -/
theorem fr_icmp_eq (x y : Nat) (h1 : x < 2 ^ 31) (h2 : y < 2 ^ 31) (hx : p.tables.exec = Jvm.exec) (hb : c.code = cc) {off : Int} {tgt : Nat} (hdg : decode cc pc = .ok (.if_icmp .eq off, 3)) (ht : (pc : Int) + off = (tgt : Int))
    (kt : x = y → W p l e R s m args below meth c H locs cells slots Q (F0 m tgt ls rest)) (kf : x ≠ y → W p l e R s m args below meth c H locs cells slots Q (F0 m (pc + 3) ls rest)) : W p l e R s m args below meth c H locs cells slots Q (F0 m pc ls (.int (nI y) :: .int (nI x) :: rest)) :=
  lv_icmp_eq hx hb hdg ht (fun q => kt ((nI_eq h1 h2).mp q)) (fun q => kf (fun z => q ((nI_eq h1 h2).mpr z)))
theorem fr_icmp_ne (x y : Nat) (h1 : x < 2 ^ 31) (h2 : y < 2 ^ 31) (hx : p.tables.exec = Jvm.exec) (hb : c.code = cc) {off : Int} {tgt : Nat} (hdg : decode cc pc = .ok (.if_icmp .ne off, 3)) (ht : (pc : Int) + off = (tgt : Int))
    (kt : x ≠ y → W p l e R s m args below meth c H locs cells slots Q (F0 m tgt ls rest)) (kf : x = y → W p l e R s m args below meth c H locs cells slots Q (F0 m (pc + 3) ls rest)) : W p l e R s m args below meth c H locs cells slots Q (F0 m pc ls (.int (nI y) :: .int (nI x) :: rest)) :=
  lv_icmp_ne hx hb hdg ht (fun q => kt (fun z => q (by rw [z]))) (fun q => kf ((nI_eq h1 h2).mp q))
theorem fr_icmp_lt (x y : Nat) (h1 : x < 2 ^ 31) (h2 : y < 2 ^ 31) (hx : p.tables.exec = Jvm.exec) (hb : c.code = cc) {off : Int} {tgt : Nat} (hdg : decode cc pc = .ok (.if_icmp .lt off, 3)) (ht : (pc : Int) + off = (tgt : Int))
    (kt : x < y → W p l e R s m args below meth c H locs cells slots Q (F0 m tgt ls rest)) (kf : y ≤ x → W p l e R s m args below meth c H locs cells slots Q (F0 m (pc + 3) ls rest)) : W p l e R s m args below meth c H locs cells slots Q (F0 m pc ls (.int (nI y) :: .int (nI x) :: rest)) :=
  lv_icmp_lt hx hb hdg ht (fun q => kt ((nI_ltI h1 h2).mp q)) (fun q => kf (Nat.not_lt.mp (fun z => q ((nI_ltI h1 h2).mpr z))))
theorem fr_icmp_ge (x y : Nat) (h1 : x < 2 ^ 31) (h2 : y < 2 ^ 31) (hx : p.tables.exec = Jvm.exec) (hb : c.code = cc) {off : Int} {tgt : Nat} (hdg : decode cc pc = .ok (.if_icmp .ge off, 3)) (ht : (pc : Int) + off = (tgt : Int))
    (kt : y ≤ x → W p l e R s m args below meth c H locs cells slots Q (F0 m tgt ls rest)) (kf : x < y → W p l e R s m args below meth c H locs cells slots Q (F0 m (pc + 3) ls rest)) : W p l e R s m args below meth c H locs cells slots Q (F0 m pc ls (.int (nI y) :: .int (nI x) :: rest)) :=
  lv_icmp_ge hx hb hdg ht (fun q => kt ((nI_leI h2 h1).mp q)) (fun q => kf (Nat.not_le.mp (fun z => q ((nI_leI h2 h1).mpr z))))
theorem fr_icmp_gt (x y : Nat) (h1 : x < 2 ^ 31) (h2 : y < 2 ^ 31) (hx : p.tables.exec = Jvm.exec) (hb : c.code = cc) {off : Int} {tgt : Nat} (hdg : decode cc pc = .ok (.if_icmp .gt off, 3)) (ht : (pc : Int) + off = (tgt : Int))
    (kt : y < x → W p l e R s m args below meth c H locs cells slots Q (F0 m tgt ls rest)) (kf : x ≤ y → W p l e R s m args below meth c H locs cells slots Q (F0 m (pc + 3) ls rest)) : W p l e R s m args below meth c H locs cells slots Q (F0 m pc ls (.int (nI y) :: .int (nI x) :: rest)) :=
  lv_icmp_gt hx hb hdg ht (fun q => kt ((nI_ltI h2 h1).mp q)) (fun q => kf (Nat.not_lt.mp (fun z => q ((nI_ltI h2 h1).mpr z))))
theorem fr_icmp_le (x y : Nat) (h1 : x < 2 ^ 31) (h2 : y < 2 ^ 31) (hx : p.tables.exec = Jvm.exec) (hb : c.code = cc) {off : Int} {tgt : Nat} (hdg : decode cc pc = .ok (.if_icmp .le off, 3)) (ht : (pc : Int) + off = (tgt : Int))
    (kt : x ≤ y → W p l e R s m args below meth c H locs cells slots Q (F0 m tgt ls rest)) (kf : y < x → W p l e R s m args below meth c H locs cells slots Q (F0 m (pc + 3) ls rest)) : W p l e R s m args below meth c H locs cells slots Q (F0 m pc ls (.int (nI y) :: .int (nI x) :: rest)) :=
  lv_icmp_le hx hb hdg ht (fun q => kt ((nI_leI h1 h2).mp q)) (fun q => kf (Nat.not_le.mp (fun z => q ((nI_leI h1 h2).mpr z))))
theorem fr_ifeq_b {b : Bool} (hx : p.tables.exec = Jvm.exec) (hb : c.code = cc) {off : Int} {tgt : Nat} (hdg : decode cc pc = .ok (.ifCond .eq off, 3)) (ht : (pc : Int) + off = (tgt : Int))
    (kt : b = false → W p l e R s m args below meth c H locs cells slots Q (F0 m tgt ls rest)) (kf : b = true → W p l e R s m args below meth c H locs cells slots Q (F0 m (pc + 3) ls rest)) : W p l e R s m args below meth c H locs cells slots Q (F0 m pc ls (.int (bI b) :: rest)) :=
  lv_if_eq hx hb hdg ht (fun q => kt (bI_0.mp q)) (fun q => kf (bI_n0.mp q))
theorem fr_ifne_b {b : Bool} (hx : p.tables.exec = Jvm.exec) (hb : c.code = cc) {off : Int} {tgt : Nat} (hdg : decode cc pc = .ok (.ifCond .ne off, 3)) (ht : (pc : Int) + off = (tgt : Int))
    (kt : b = true → W p l e R s m args below meth c H locs cells slots Q (F0 m tgt ls rest)) (kf : b = false → W p l e R s m args below meth c H locs cells slots Q (F0 m (pc + 3) ls rest)) : W p l e R s m args below meth c H locs cells slots Q (F0 m pc ls (.int (bI b) :: rest)) :=
  lv_if_ne hx hb hdg ht (fun q => kt (bI_n0.mp q)) (fun q => kf (bI_0.mp q))
theorem fr_irem (x y : Nat) (h1 : x < 2 ^ 31) (h2 : 0 < y) (h3 : y < 2 ^ 31) (hx : p.tables.exec = Jvm.exec) (hb : c.code = cc) (hdg : decode cc pc = .ok (.irem, 1)) (k : W p l e R s m args below meth c H locs cells slots Q (F0 m (pc + 1) ls (.int (nI (x % y)) :: rest))) : W p l e R s m args below meth c H locs cells slots Q (F0 m pc ls (.int (nI y) :: .int (nI x) :: rest)) :=
  lv_irem hx hb hdg (nI_ne0 h2 h3) (by rw [pk_rem h1 h2 h3]; exact k)
theorem fr_if_eq (x : Nat) (h1 : x < 2 ^ 31) (hx : p.tables.exec = Jvm.exec) (hb : c.code = cc) {off : Int} {tgt : Nat} (hdg : decode cc pc = .ok (.ifCond .eq off, 3)) (ht : (pc : Int) + off = (tgt : Int))
    (kt : x = 0 → W p l e R s m args below meth c H locs cells slots Q (F0 m tgt ls rest)) (kf : x ≠ 0 → W p l e R s m args below meth c H locs cells slots Q (F0 m (pc + 3) ls rest)) : W p l e R s m args below meth c H locs cells slots Q (F0 m pc ls (.int (nI x) :: rest)) :=
  lv_if_eq hx hb hdg ht (fun q => kt (by rw [← nI_0, nI_eq h1 (by decide)] at q; exact q)) (fun q => kf (fun z => q (by rw [z]; rfl)))
theorem fr_if_ne (x : Nat) (h1 : x < 2 ^ 31) (hx : p.tables.exec = Jvm.exec) (hb : c.code = cc) {off : Int} {tgt : Nat} (hdg : decode cc pc = .ok (.ifCond .ne off, 3)) (ht : (pc : Int) + off = (tgt : Int))
    (kt : x ≠ 0 → W p l e R s m args below meth c H locs cells slots Q (F0 m tgt ls rest)) (kf : x = 0 → W p l e R s m args below meth c H locs cells slots Q (F0 m (pc + 3) ls rest)) : W p l e R s m args below meth c H locs cells slots Q (F0 m pc ls (.int (nI x) :: rest)) :=
  lv_if_ne hx hb hdg ht (fun q => kt (fun z => q (by rw [z]; rfl))) (fun q => kf (by rw [← nI_0, nI_eq h1 (by decide)] at q; exact q))
theorem fr_if_gt (x : Nat) (h1 : x < 2 ^ 31) (hx : p.tables.exec = Jvm.exec) (hb : c.code = cc) {off : Int} {tgt : Nat} (hdg : decode cc pc = .ok (.ifCond .gt off, 3)) (ht : (pc : Int) + off = (tgt : Int))
    (kt : 0 < x → W p l e R s m args below meth c H locs cells slots Q (F0 m tgt ls rest)) (kf : x ≤ 0 → W p l e R s m args below meth c H locs cells slots Q (F0 m (pc + 3) ls rest)) : W p l e R s m args below meth c H locs cells slots Q (F0 m pc ls (.int (nI x) :: rest)) :=
  lv_if_gt hx hb hdg ht (fun q => kt (by rw [← nI_0, nI_ltI (by decide) h1] at q; exact q)) (fun q => kf (Nat.not_lt.mp (fun z => q (by rw [← nI_0, nI_ltI (by decide) h1]; exact z))))
theorem fr_if_le (x : Nat) (h1 : x < 2 ^ 31) (hx : p.tables.exec = Jvm.exec) (hb : c.code = cc) {off : Int} {tgt : Nat} (hdg : decode cc pc = .ok (.ifCond .le off, 3)) (ht : (pc : Int) + off = (tgt : Int))
    (kt : x ≤ 0 → W p l e R s m args below meth c H locs cells slots Q (F0 m tgt ls rest)) (kf : 0 < x → W p l e R s m args below meth c H locs cells slots Q (F0 m (pc + 3) ls rest)) : W p l e R s m args below meth c H locs cells slots Q (F0 m pc ls (.int (nI x) :: rest)) :=
  lv_if_le hx hb hdg ht (fun q => kt (by rw [← nI_0, nI_leI h1 (by decide)] at q; exact q)) (fun q => kf (Nat.not_le.mp (fun z => q (by rw [← nI_0, nI_leI h1 (by decide)]; exact z))))
/-! arrays -/
theorem fr_iald (hx : p.tables.exec = Jvm.exec) (hb : c.code = cc) (hK : va_K D vwCl (tyL T) s) (hP : frP D fs H) (i k : Nat) {n : Nat} {f : Nat → Int32} (ha : fs[i]? = some [(a, .inl (T 0, n, .inl f))]) (hk : k < n) (hk2 : k < 2 ^ 31) (hdg : decode cc pc = .ok (.iaload, 1))
    (kk : W p l e R s m args below meth c H locs cells slots Q (F0 m (pc + 1) ls (.int (f k) :: rest))) : W p l e R s m args below meth c H locs cells slots Q (F0 m pc ls (.int (nI k) :: .ref a :: rest)) :=
  va_iald hx hb hK (hP.at i ha) 0 0 rfl rfl (fun q => by rcases q with q | q; exact nI_pos hk2 q; rw [nI_clamp hk2] at q; omega) hdg (by rw [nI_clamp hk2]; exact kk)
theorem fr_zald (hx : p.tables.exec = Jvm.exec) (hb : c.code = cc) (hK : va_K D vwCl (tyL T) s) (hP : frP D fs H) (i k : Nat) {n : Nat} {f : Nat → Int32} (ha : fs[i]? = some [(a, .inl (T 1, n, .inl f))]) (hk : k < n) (hk2 : k < 2 ^ 31) (hdg : decode cc pc = .ok (.baload, 1))
    (kk : W p l e R s m args below meth c H locs cells slots Q (F0 m (pc + 1) ls (.int (f k) :: rest))) : W p l e R s m args below meth c H locs cells slots Q (F0 m pc ls (.int (nI k) :: .ref a :: rest)) :=
  va_zald hx hb hK (hP.at i ha) 0 1 rfl rfl (fun q => by rcases q with q | q; exact nI_pos hk2 q; rw [nI_clamp hk2] at q; omega) hdg (by rw [nI_clamp hk2]; exact kk)
theorem fr_cald (hx : p.tables.exec = Jvm.exec) (hb : c.code = cc) (hK : va_K D vwCl (tyL T) s) (hP : frP D fs H) (i k : Nat) {n : Nat} {f : Nat → Int32} (ha : fs[i]? = some [(a, .inl (T 2, n, .inl f))]) (hk : k < n) (hk2 : k < 2 ^ 31) (hdg : decode cc pc = .ok (.caload, 1))
    (kk : W p l e R s m args below meth c H locs cells slots Q (F0 m (pc + 1) ls (.int (f k) :: rest))) : W p l e R s m args below meth c H locs cells slots Q (F0 m pc ls (.int (nI k) :: .ref a :: rest)) :=
  va_cald hx hb hK (hP.at i ha) 0 2 rfl rfl (fun q => by rcases q with q | q; exact nI_pos hk2 q; rw [nI_clamp hk2] at q; omega) hdg (by rw [nI_clamp hk2]; exact kk)
theorem fr_aald (hx : p.tables.exec = Jvm.exec) (hb : c.code = cc) (hK : va_K D vwCl (tyL T) s) (hP : frP D fs H) (i k : Nat) {n : Nat} {f : Nat → Option Nat} (ha : fs[i]? = some [(a, .inl (T 3, n, .inr (.inr (.inr (.inr f)))))]) (hk : k < n) (hk2 : k < 2 ^ 31) (hdg : decode cc pc = .ok (.aaload, 1))
    (kk : W p l e R s m args below meth c H locs cells slots Q (F0 m (pc + 1) ls (va_rf (f k) :: rest))) : W p l e R s m args below meth c H locs cells slots Q (F0 m pc ls (.int (nI k) :: .ref a :: rest)) :=
  va_aldq hx hb hK (hP.at i ha) 0 3 rfl rfl (fun q => by rcases q with q | q; exact nI_pos hk2 q; rw [nI_clamp hk2] at q; omega) hdg (by rw [nI_clamp hk2]; exact kk)
theorem fr_iast (hx : p.tables.exec = Jvm.exec) (hb : c.code = cc) (hK : va_K D vwCl (tyL T) s) (hP : frP D fs H) (hD : va_D A fs.flatten) (hS : va_S A H0 H locs) (i k : Nat) {n : Nat} {f : Nat → Int32} {x : Int32} {fs' : List va_W} (ha : fs[i]? = some [(a, .inl (T 0, n, .inl f))]) (hfs : fs.set i [(a, .inl (T 0, n, .inl (upd f k x)))] = fs') (hk : k < n) (hk2 : k < 2 ^ 31) (hdg : decode cc pc = .ok (.iastore, 1))
    (kk : ∀ (H1 : Heap) (locs1 : List Loc), frP D fs' H1 → va_D A fs'.flatten → va_S A H0 H1 locs1 → W p l e R s m args below meth c H1 locs1 cells slots Q (F0 m (pc + 1) ls rest)) : W p l e R s m args below meth c H locs cells slots Q (F0 m pc ls (.int x :: .int (nI k) :: .ref a :: rest)) := by
  obtain ⟨q, h1, h2⟩ := fr_index fs i _ ha
  refine va_iast hx hb hK (show va_P D vwCl fs.flatten H from hP) hD hS q 0 h1 rfl (fun q => by rcases q with q | q; exact nI_pos hk2 q; rw [nI_clamp hk2] at q; omega) hdg (fun H1 locs1 hP1 hD1 hS1 => ?_)
  rw [nI_clamp hk2, h2, hfs] at hP1 hD1
  exact kk H1 locs1 hP1 hD1 hS1
theorem fr_zast (hx : p.tables.exec = Jvm.exec) (hb : c.code = cc) (hK : va_K D vwCl (tyL T) s) (hP : frP D fs H) (hD : va_D A fs.flatten) (hS : va_S A H0 H locs) (i k : Nat) {n : Nat} {f : Nat → Int32} {x : Int32} {fs' : List va_W} (ha : fs[i]? = some [(a, .inl (T 1, n, .inl f))]) (hfs : fs.set i [(a, .inl (T 1, n, .inl (upd f k x)))] = fs') (hxn : vp_nar .boolean x = x) (hk : k < n) (hk2 : k < 2 ^ 31) (hdg : decode cc pc = .ok (.bastore, 1))
    (kk : ∀ (H1 : Heap) (locs1 : List Loc), frP D fs' H1 → va_D A fs'.flatten → va_S A H0 H1 locs1 → W p l e R s m args below meth c H1 locs1 cells slots Q (F0 m (pc + 1) ls rest)) : W p l e R s m args below meth c H locs cells slots Q (F0 m pc ls (.int x :: .int (nI k) :: .ref a :: rest)) := by
  obtain ⟨q, h1, h2⟩ := fr_index fs i _ ha
  refine va_zast hx hb hK (show va_P D vwCl fs.flatten H from hP) hD hS q 1 h1 rfl (fun q => by rcases q with q | q; exact nI_pos hk2 q; rw [nI_clamp hk2] at q; omega) hdg (fun H1 locs1 hP1 hD1 hS1 => ?_)
  rw [nI_clamp hk2, hxn, h2, hfs] at hP1 hD1
  exact kk H1 locs1 hP1 hD1 hS1
theorem fr_cast (hx : p.tables.exec = Jvm.exec) (hb : c.code = cc) (hK : va_K D vwCl (tyL T) s) (hP : frP D fs H) (hD : va_D A fs.flatten) (hS : va_S A H0 H locs) (i k : Nat) {n : Nat} {f : Nat → Int32} {x : Int32} {fs' : List va_W} (ha : fs[i]? = some [(a, .inl (T 2, n, .inl f))]) (hfs : fs.set i [(a, .inl (T 2, n, .inl (upd f k x)))] = fs') (hxn : vp_nar .char x = x) (hk : k < n) (hk2 : k < 2 ^ 31) (hdg : decode cc pc = .ok (.castore, 1))
    (kk : ∀ (H1 : Heap) (locs1 : List Loc), frP D fs' H1 → va_D A fs'.flatten → va_S A H0 H1 locs1 → W p l e R s m args below meth c H1 locs1 cells slots Q (F0 m (pc + 1) ls rest)) : W p l e R s m args below meth c H locs cells slots Q (F0 m pc ls (.int x :: .int (nI k) :: .ref a :: rest)) := by
  obtain ⟨q, h1, h2⟩ := fr_index fs i _ ha
  refine va_cast hx hb hK (show va_P D vwCl fs.flatten H from hP) hD hS q 2 h1 rfl (fun q => by rcases q with q | q; exact nI_pos hk2 q; rw [nI_clamp hk2] at q; omega) hdg (fun H1 locs1 hP1 hD1 hS1 => ?_)
  rw [nI_clamp hk2, hxn, h2, hfs] at hP1 hD1
  exact kk H1 locs1 hP1 hD1 hS1
theorem fr_zastb {b : Bool} {g : Nat → Int32} (hx : p.tables.exec = Jvm.exec) (hb : c.code = cc) (hK : va_K D vwCl (tyL T) s) (hP : frP D fs H) (hD : va_D A fs.flatten) (hS : va_S A H0 H locs) (i k : Nat) {n : Nat} {fs' : List va_W} (ha : fs[i]? = some [(a, .inl (T 1, n, .inl (bf g)))]) (hfs : fs.set i [(a, .inl (T 1, n, .inl (bf (upd g k (bI b)))))] = fs') (hk : k < n) (hk2 : k < 2 ^ 31) (hdg : decode cc pc = .ok (.bastore, 1))
    (kk : ∀ (H1 : Heap) (locs1 : List Loc), frP D fs' H1 → va_D A fs'.flatten → va_S A H0 H1 locs1 → W p l e R s m args below meth c H1 locs1 cells slots Q (F0 m (pc + 1) ls rest)) : W p l e R s m args below meth c H locs cells slots Q (F0 m pc ls (.int (bI b) :: .int (nI k) :: .ref a :: rest)) :=
  fr_zast hx hb hK hP hD hS i k ha (by rw [bf_upd]; exact hfs) bI_vnar hk hk2 hdg kk
/-- a whole row copied -/
theorem fr_acopy {ty : FieldType} {fs' : List va_W} (hx : p.tables.exec = Jvm.exec) (hb : c.code = cc) (hml : c.maxLocals = ls.size) {own : String} {index : Nat} (hown : s.vm.findClass own = some m.cls) (hlink : (Cond.methodLink own index arraycopyName).before args s = true) (hnat : (Cond.native arraycopyName).before args s = true) (hstat : (Cond.static arraycopyName).before args s = true) (hini : (Cond.initialized "java/lang/System").before args s = true)
    (hK : va_K D vwCl (tyL T) s) (hP : frP D fs H) (hD : va_D A fs.flatten) (hS : va_S A H0 H locs) (i0 i1 t n : Nat) {a0 : Nat} {cA : ClassId} {f g : Nat → Int32} (ha0 : fs[i0]? = some [(a0, .inl (cA, n, .inl f))]) (ha1 : fs[i1]? = some [(a, .inl (cA, n, .inl g))]) (ht : (tyL T)[t]? = some (cA, ty)) (hfs : fs.set i1 [(a, .inl (cA, n, .inl f))] = fs') (hfit : ∀ i, i < n → fits ty (.int (f i)) = true) (hn : n < 2 ^ 31) (hprim : refKind ty = false)
    (hframes : 1 ≤ R.frames) (hlocals : (rest.map fun v => v.category).sum + (nativeFrameWords "java/lang/System" "arraycopy" 5 + 11) ≤ R.locals) (hdg : decode cc pc = .ok (.invokestatic index, 3))
    (kk : ∀ (H1 : Heap) (locs1 : List Loc), frP D fs' H1 → va_D A fs'.flatten → va_S A H0 H1 locs1 → W p l e R s m args below meth c H1 locs1 cells slots Q (F0 m (pc + 3) ls rest)) : W p l e R s m args below meth c H locs cells slots Q (F0 m pc ls (.int (nI n) :: .int (nI 0) :: .ref a :: .int (nI 0) :: .ref a0 :: rest)) := by
  obtain ⟨q0, h1, -⟩ := fr_index fs i0 _ ha0
  obtain ⟨q1, h2, h3⟩ := fr_index fs i1 _ ha1
  have hlt := (List.getElem?_eq_some_iff.mp ha1).1
  have e0 : (nI 0).toNatClampNeg = 0 := nI_clamp (by decide)
  have en : (nI n).toNatClampNeg = n := nI_clamp hn
  refine va_copyi hx hb hml hown hlink hnat hstat hini hK (show va_P D vwCl fs.flatten H from hP) hD hS q0 q1 t t h1 h2 ht ht hprim (nI_pos (by decide)) (nI_pos (by decide)) (nI_pos hn) (by rw [e0, en]; omega) (by rw [e0, en]; omega) (fun i hi => by rw [e0, Nat.zero_add]; rw [en] at hi; exact hfit i hi) hframes hlocals hdg (fun H1 locs1 hP1 hD1 hS1 => ?_)
  rw [h3, e0, en] at hP1 hD1
  refine kk H1 locs1 (frP.row (show frP D _ H1 from hP1) (List.getElem?_set_self hlt) (fun j hj => ?_) (by rw [List.set_set]; exact hfs)) (frD_adr ?_ hD) hS1
  · rw [pk_cpy_in (Nat.zero_le _) (by omega)]
    simp
  · subst hfs
    rw [List.map_set]
    apply List.ext_getElem?
    intro k
    by_cases e : i1 = k
    · subst e
      rw [List.getElem?_set_self (by simpa using hlt), List.getElem?_map, ha1]
      rfl
    · rw [List.getElem?_set_ne e]
theorem fr_pcopy {fs' : List va_W} (hx : p.tables.exec = Jvm.exec) (hb : c.code = cc) (hml : c.maxLocals = ls.size) {own : String} {index : Nat} (hown : s.vm.findClass own = some m.cls) (hlink : (Cond.methodLink own index arraycopyName).before args s = true) (hnat : (Cond.native arraycopyName).before args s = true) (hstat : (Cond.static arraycopyName).before args s = true) (hini : (Cond.initialized "java/lang/System").before args s = true)
    (hK : va_K D vwCl (tyL T) s) (hP : frP D fs H) (hD : va_D A fs.flatten) (hS : va_S A H0 H locs) (i0 i1 sp dp n : Nat) {a0 n0 n1 : Nat} {f g : Nat → Int32} (ha0 : fs[i0]? = some [(a0, .inl (T 0, n0, .inl f))]) (ha1 : fs[i1]? = some [(a, .inl (T 0, n1, .inl g))]) (hfs : fs.set i1 [(a, .inl (T 0, n1, .inl (va_cpy f g sp dp n)))] = fs') (h1 : sp + n ≤ n0) (h2 : dp + n ≤ n1) (h3 : sp < 2 ^ 31) (h4 : dp < 2 ^ 31) (h5 : n < 2 ^ 31)
    (hframes : 1 ≤ R.frames) (hlocals : (rest.map fun v => v.category).sum + (nativeFrameWords "java/lang/System" "arraycopy" 5 + 11) ≤ R.locals) (hdg : decode cc pc = .ok (.invokestatic index, 3))
    (kk : ∀ (H1 : Heap) (locs1 : List Loc), frP D fs' H1 → va_D A fs'.flatten → va_S A H0 H1 locs1 → W p l e R s m args below meth c H1 locs1 cells slots Q (F0 m (pc + 3) ls rest)) : W p l e R s m args below meth c H locs cells slots Q (F0 m pc ls (.int (nI n) :: .int (nI dp) :: .ref a :: .int (nI sp) :: .ref a0 :: rest)) := by
  obtain ⟨q0, g1, -⟩ := fr_index fs i0 _ ha0
  obtain ⟨q1, g2, g3⟩ := fr_index fs i1 _ ha1
  have e1 : (nI sp).toNatClampNeg = sp := nI_clamp h3
  have e2 : (nI dp).toNatClampNeg = dp := nI_clamp h4
  have e3 : (nI n).toNatClampNeg = n := nI_clamp h5
  refine va_copyi hx hb hml hown hlink hnat hstat hini hK (show va_P D vwCl fs.flatten H from hP) hD hS q0 q1 0 0 g1 g2 rfl rfl rfl (nI_pos h3) (nI_pos h4) (nI_pos h5) (by rw [e1, e3]; omega) (by rw [e2, e3]; omega) (fun i hi => rfl) hframes hlocals hdg (fun H1 locs1 hP1 hD1 hS1 => ?_)
  rw [g3, e1, e2, e3, hfs] at hP1 hD1
  exact kk H1 locs1 hP1 hD1 hS1
/-! fields: reads by va_get, va_getN over the one fragment (hP.at i rfl); writes -/
theorem fr_put (hx : p.tables.exec = Jvm.exec) (hb : c.code = cc) {own C : String} {TT : u_T} {N ci index : Nat} {Ts : List Cond} (hts : ∀ w ∈ Ts, w.before args s = true) (hin : ∀ w ∈ u_ws C TT N, w ∈ Ts) (ty0 : Nat → FieldType) (hty : ∀ k, k < N → parseFieldDescriptor (TT k).2.2.1 = some (ty0 k)) (hnm : ∀ a, a < N → ∀ b, b < N → a ≠ b → (TT a).2.1 ≠ (TT b).2.1) (hown : s.vm.findClass own = some m.cls) (hK : va_K D vwCl (tyL T) s) (hP : frP D fs H) (hD : va_D A fs.flatten) (hS : va_S A H0 H locs) (i : Nat) {vs : List Value} {fs' : List va_W} (he : fs[i]? = some [(a, .inr (ci, vs))]) (hc : vwCl[ci]? = some (C, TT, N)) (k : Nat) (hk : k < N) {v : Value} (hfs : fs.set i [(a, .inr (ci, vs.set k v))] = fs') (hlink : (Cond.fieldLink own index C (TT k).2.1 (TT k).2.2.1).before args s = true) (hsame : (TT k).1 = C) (hfin : (TT k).2.2.2 = false) {ty : FieldType} (hd : parseFieldDescriptor (TT k).2.2.1 = some ty) (hn : narrow ty v = v) (hfit : fits ty v = true) (hl : k < vs.length)
    (hdg : decode cc pc = .ok (.putfield index, 3)) (kk : ∀ (H1 : Heap) (locs1 : List Loc), frP D fs' H1 → va_D A fs'.flatten → va_S A H0 H1 locs1 → W p l e R s m args below meth c H1 locs1 cells slots Q (F0 m (pc + 3) ls rest)) : W p l e R s m args below meth c H locs cells slots Q (F0 m pc ls (v :: .ref a :: rest)) := by
  obtain ⟨q, h1, h2⟩ := fr_index fs i _ he
  refine va_put hx hb hts hin ty0 hty hnm hown hK (show va_P D vwCl fs.flatten H from hP) hD hS q h1 hc k hk hlink (fun x h9 => by rw [← hsame]; exact h9) hfin hd hn hfit hl hdg (fun H1 locs1 hP1 hD1 hS1 => ?_)
  rw [h2, hfs] at hP1 hD1
  exact kk H1 locs1 hP1 hD1 hS1
/-! calls -/
theorem fr_recv {b : Nat} {i0 ci : Nat} {q : vw_C} {vs : List Value} {tl : va_W} (hK : va_K D vwCl (tyL T) s) (hP : frP D fs H) (hc : vwCl[ci]? = some q) (hi : fs[i0]? = some ((b, .inr (ci, vs)) :: tl)) : ∃ cell : Cell, H[b]? = some cell ∧ cell.vm.isStatics = false ∧ s.vm.findClass q.1 = some cell.cls :=
  va_recv hK (hP.at i0 hi) hc (q0 := 0) rfl
theorem fr_preOk {cs : List va_W} {As : List Value} {is : List Nat} (hK : va_K D vwCl (tyL T) s) (hN : nwOk s) (hM : amb Z A s s.heap) (hS : va_S A s.heap H locs) (hF : ∀ q, va_A cs.flatten H.size q → A q) (hP : frP D fs H) (hD : va_D A fs.flatten) (hC : is.map (fun i => fs[i]?) = cs.map some) (hnd : va_nd is = true) : ∀ U : State, U.heap = H → s.WarmedH U.vm → va_Pc As (frPre D T Z cs H.size) As.toArray U := by
  intro U hU hW
  have at' : ∀ (j : Nat) (f : va_W), cs[j]? = some f → ∃ i, is[j]? = some i ∧ fs[i]? = some f := by
    intro j f hj
    have h1 : (is.map (fun i => fs[i]?))[j]? = some (some f) := by rw [hC, List.getElem?_map, hj]; rfl
    rw [List.getElem?_map] at h1
    cases hi : is[j]? with
    | none => rw [hi] at h1; cases h1
    | some i => rw [hi] at h1; exact ⟨i, rfl, Option.some.inj h1⟩
  refine ⟨rfl, by rw [hU], ?_, va_K.moved hW.alike hK, hN.warm hW, hM.to hS hF hW hU, ?_⟩
  · rw [hU]
    refine frP.mk (fun j f hj => ?_)
    obtain ⟨i, -, hi⟩ := at' j f hj
    exact hP.at i hi
  · have hpw : cs.flatten.Pairwise (fun p q => p.1 ≠ q.1) := by
      rw [List.pairwise_flatten]
      refine ⟨fun f hf => ?_, ?_⟩
      · obtain ⟨j, hj⟩ := List.getElem?_of_mem hf
        obtain ⟨i, -, hi⟩ := at' j f hj
        have h3 : fs.flatten.Pairwise (fun p q => p.1 ≠ q.1) := by
          rw [List.pairwise_iff_getElem]
          intro a b ha hb hab e2
          have := hD.1 a b _ _ (List.getElem?_eq_getElem ha) (List.getElem?_eq_getElem hb) e2
          omega
        rw [List.pairwise_flatten] at h3
        exact h3.1 f (List.mem_of_getElem? hi)
      · rw [List.pairwise_iff_getElem]
        intro j1 j2 l1 l2 hlt p hp q hq e
        obtain ⟨i1, g1, k1⟩ := at' j1 _ (List.getElem?_eq_getElem l1)
        obtain ⟨i2, g2, k2⟩ := at' j2 _ (List.getElem?_eq_getElem l2)
        have := frD_apart hD k1 k2 hp hq e
        subst this
        have := va_nd_inj is hnd j1 j2 i1 g1 g2
        omega
    refine ⟨fun i j x y hi hj hxy => ?_, fun _ _ _ => trivial⟩
    rw [List.pairwise_iff_getElem] at hpw
    obtain ⟨li, ei⟩ := List.getElem?_eq_some_iff.mp hi
    obtain ⟨lj, ej⟩ := List.getElem?_eq_some_iff.mp hj
    rcases Nat.lt_trichotomy i j with hlt | heq | hgt
    · exact absurd (by rw [ei, ej]; exact hxy) (hpw i j li lj hlt)
    · exact heq
    · exact absurd (by rw [ei, ej]; exact hxy.symm) (hpw j i lj li hgt)
/-! a callee whose world stands first in ours -/
theorem fr_pre_C {cs tl : List va_W} : (List.range' 0 cs.length).map (fun i => (cs ++ tl)[i]?) = cs.map some := by
  apply List.ext_getElem?
  intro k
  rw [List.getElem?_map, List.getElem?_map]
  by_cases h : k < cs.length
  · rw [List.getElem?_range' (by simpa using h), List.getElem?_eq_getElem h]
    simp [List.getElem?_append_left h, List.getElem?_eq_getElem h]
  · rw [List.getElem?_eq_none_iff.mpr (by simpa using Nat.not_lt.mp h), List.getElem?_eq_none_iff.mpr (Nat.not_lt.mp h)]
    rfl
theorem va_nd_of : ∀ {l : List Nat}, l.Nodup → va_nd l = true
  | [], _ => rfl
  | a :: l, h => by
    rw [List.nodup_cons] at h
    simp only [va_nd, Bool.and_eq_true, decide_eq_true_eq]
    exact ⟨h.1, va_nd_of h.2⟩
theorem frPut_pre : ∀ (cs cs' pr tl : List va_W), cs.length = cs'.length → frPut (pr ++ (cs ++ tl)) (List.range' pr.length cs.length) cs' = pr ++ (cs' ++ tl)
  | [], [], pr, tl, _ => by simp [frPut]
  | [], _ :: _, _, _, h => by simp at h
  | _ :: _, [], _, _, h => by simp at h
  | c :: cs, c' :: cs', pr, tl, h => by
    have ih := frPut_pre cs cs' (pr ++ [c']) tl (by simpa using h)
    rw [List.length_cons, List.range'_succ]
    show frPut ((pr ++ (c :: cs ++ tl)).set pr.length c') (List.range' (pr.length + 1) cs.length) cs' = _
    have e : (pr ++ (c :: cs ++ tl)).set pr.length c' = pr ++ [c'] ++ (cs ++ tl) := by
      rw [List.set_append_right _ _ (Nat.le_refl _)]
      simp
    rw [e]
    have e2 : (pr ++ [c']).length = pr.length + 1 := by simp
    rw [e2] at ih
    rw [ih]
    simp
section CALLS
variable {y : MethodName} {bytes : ByteArray} {maxL nL n index : Nat} {ret : Option FieldType} {ws : List Cond} {rm : Room} {Ts : List Cond} {own C host : String} {b : Nat} {As : List Value} {st : List Value} {cs cs' fs' : List va_W} {r : Int32} {i0 ci : Nat} {q0 : vw_C} {vs : List Value} {tl : va_W}
theorem fr_Vi (S : CallFix p m c cc nL s args Ts own) (hCt : CtI l D T Z y ws rm cs (.ref b :: As) r cs') (cw : CallW R s args own q0.1 index y bytes maxL ret ws rm 0 0 n)
    (hK : va_K D vwCl (tyL T) s) (hN : nwOk s) (hM : amb Z A s s.heap) (hP : frP D fs H) (hD : va_D A fs.flatten) (hS : va_S A s.heap H locs) (hA : ∀ q, s.heap.size ≤ q → A q) (is : List Nat) (hC : is.map (fun i => fs[i]?) = cs.map some) (hnd : va_nd is = true) (hput : frPut fs is cs' = fs') (hc : vwCl[ci]? = some q0) (hi : fs[i0]? = some ((b, .inr (ci, vs)) :: tl))
    (hn : As.length = n) (hsz : ls.size = nL) (hst : st = As.reverse ++ .ref b :: rest) (hW : (rest.map fun v => v.category).sum ≤ 8) (hdg : decode cc pc = .ok (.invokevirtual index, 3)) (hf : cells ≤ R.cells ∧ slots ≤ R.slots)
    (kk : ∀ (H1 : Heap) (locs1 : List Loc), frP D fs' H1 → va_D A fs'.flatten → va_S A s.heap H1 locs1 → W p l e R s m args below meth c H1 locs1 cells slots Q (F0 m (pc + 3) ls (.int r :: rest))) : W p l e R s m args below meth c H locs cells slots Q (F0 m pc ls st) := by
  have hF := fr_free hD hS hA hC
  refine va_calli (va_runV S (hCt.2 H.size) cw ⟨frPre.blind, fr_recv hK hP hc hi, fr_preOk hK hN hM hS hF hP hD hC hnd⟩ rfl hn hsz hst (lv_room hW) hdg hf) hS (fun q _ h => hF q h) hF (fun r' u t H1 locs1 ht hvm hw hB hz1 hk1 hS1 => ?_)
  subst hw
  rw [ht] at hB
  obtain ⟨hP1, hD1⟩ := fr_join hP hD hC hCt.1 hput hk1 hB
  exact kk H1 locs1 hP1 hD1 hS1
theorem fr_Vv (S : CallFix p m c cc nL s args Ts own) (hCt : CtV l D T Z y ws rm cs (.ref b :: As) cs') (cw : CallW R s args own q0.1 index y bytes maxL ret ws rm 0 0 n)
    (hK : va_K D vwCl (tyL T) s) (hN : nwOk s) (hM : amb Z A s s.heap) (hP : frP D fs H) (hD : va_D A fs.flatten) (hS : va_S A s.heap H locs) (hA : ∀ q, s.heap.size ≤ q → A q) (is : List Nat) (hC : is.map (fun i => fs[i]?) = cs.map some) (hnd : va_nd is = true) (hput : frPut fs is cs' = fs') (hc : vwCl[ci]? = some q0) (hi : fs[i0]? = some ((b, .inr (ci, vs)) :: tl))
    (hn : As.length = n) (hsz : ls.size = nL) (hst : st = As.reverse ++ .ref b :: rest) (hW : (rest.map fun v => v.category).sum ≤ 8) (hdg : decode cc pc = .ok (.invokevirtual index, 3)) (hf : cells ≤ R.cells ∧ slots ≤ R.slots)
    (kk : ∀ (H1 : Heap) (locs1 : List Loc), frP D fs' H1 → va_D A fs'.flatten → va_S A s.heap H1 locs1 → W p l e R s m args below meth c H1 locs1 cells slots Q (F0 m (pc + 3) ls rest)) : W p l e R s m args below meth c H locs cells slots Q (F0 m pc ls st) := by
  have hF := fr_free hD hS hA hC
  refine va_callv (va_runV S (hCt.2 H.size) cw ⟨frPre.blind, fr_recv hK hP hc hi, fr_preOk hK hN hM hS hF hP hD hC hnd⟩ rfl hn hsz hst (lv_room hW) hdg hf) hS (fun q _ h => hF q h) hF (fun u t H1 locs1 ht hvm hw hB hz1 hk1 hS1 => ?_)
  rw [ht] at hB
  obtain ⟨hP1, hD1⟩ := fr_join hP hD hC hCt.1 hput hk1 hB
  exact kk H1 locs1 hP1 hD1 hS1
theorem fr_VNi (S : CallFix p m c cc nL s args Ts own) (hCt : CtI l D T Z y ws rm cs (.ref b :: As) r cs') (cw : va_CN R s args own index y host bytes maxL ret ws rm 0 0 n ∧ (Cond.instanceMethod y).before args s = true ∧ (Cond.selects q0.1 y y).before args s = true)
    (hK : va_K D vwCl (tyL T) s) (hN : nwOk s) (hM : amb Z A s s.heap) (hP : frP D fs H) (hD : va_D A fs.flatten) (hS : va_S A s.heap H locs) (hA : ∀ q, s.heap.size ≤ q → A q) (is : List Nat) (hC : is.map (fun i => fs[i]?) = cs.map some) (hnd : va_nd is = true) (hput : frPut fs is cs' = fs') (hc : vwCl[ci]? = some q0) (hi : fs[i0]? = some ((b, .inr (ci, vs)) :: tl))
    (hn : As.length = n) (hsz : ls.size = nL) (hst : st = As.reverse ++ .ref b :: rest) (hW : (rest.map fun v => v.category).sum ≤ 8) (hdg : decode cc pc = .ok (.invokevirtual index, 3)) (hf : cells ≤ R.cells ∧ slots ≤ R.slots)
    (kk : ∀ (H1 : Heap) (locs1 : List Loc), frP D fs' H1 → va_D A fs'.flatten → va_S A s.heap H1 locs1 → W p l e R s m args below meth c H1 locs1 cells slots Q (F0 m (pc + 3) ls (.int r :: rest))) : W p l e R s m args below meth c H locs cells slots Q (F0 m pc ls st) := by
  have hF := fr_free hD hS hA hC
  refine va_calli (va_runVN S (hCt.2 H.size) cw ⟨frPre.blind, fr_recv hK hP hc hi, fr_preOk hK hN hM hS hF hP hD hC hnd⟩ rfl hn hsz hst (lv_room hW) hdg hf) hS (fun q _ h => hF q h) hF (fun r' u t H1 locs1 ht hvm hw hB hz1 hk1 hS1 => ?_)
  subst hw
  rw [ht] at hB
  obtain ⟨hP1, hD1⟩ := fr_join hP hD hC hCt.1 hput hk1 hB
  exact kk H1 locs1 hP1 hD1 hS1
theorem fr_ViP {tl2 : List va_W} (S : CallFix p m c cc nL s args Ts own) (hCt : CtI l D T Z y ws rm cs (.ref b :: As) r cs') (cw : CallW R s args own q0.1 index y bytes maxL ret ws rm 0 0 n)
    (hK : va_K D vwCl (tyL T) s) (hN : nwOk s) (hM : amb Z A s s.heap) (hP : frP D (cs ++ tl2) H) (hD : va_D A (cs ++ tl2).flatten) (hS : va_S A s.heap H locs) (hA : ∀ q, s.heap.size ≤ q → A q) (hc : vwCl[ci]? = some q0) (hi : cs[i0]? = some ((b, .inr (ci, vs)) :: tl))
    (hn : As.length = n) (hsz : ls.size = nL) (hst : st = As.reverse ++ .ref b :: rest) (hW : (rest.map fun v => v.category).sum ≤ 8) (hdg : decode cc pc = .ok (.invokevirtual index, 3)) (hf : cells ≤ R.cells ∧ slots ≤ R.slots)
    (kk : ∀ (H1 : Heap) (locs1 : List Loc), frP D (cs' ++ tl2) H1 → va_D A (cs' ++ tl2).flatten → va_S A s.heap H1 locs1 → W p l e R s m args below meth c H1 locs1 cells slots Q (F0 m (pc + 3) ls (.int r :: rest))) : W p l e R s m args below meth c H locs cells slots Q (F0 m pc ls st) :=
  fr_Vi S hCt cw hK hN hM hP hD hS hA (List.range' 0 cs.length) fr_pre_C (va_nd_of List.nodup_range') (frPut_pre cs cs' [] tl2 (by have := congrArg List.length hCt.1; simpa using this.symm)) hc (by rw [List.getElem?_append_left (List.getElem?_eq_some_iff.mp hi).1]; exact hi) hn hsz hst hW hdg hf kk
theorem fr_VvP {tl2 : List va_W} (S : CallFix p m c cc nL s args Ts own) (hCt : CtV l D T Z y ws rm cs (.ref b :: As) cs') (cw : CallW R s args own q0.1 index y bytes maxL ret ws rm 0 0 n)
    (hK : va_K D vwCl (tyL T) s) (hN : nwOk s) (hM : amb Z A s s.heap) (hP : frP D (cs ++ tl2) H) (hD : va_D A (cs ++ tl2).flatten) (hS : va_S A s.heap H locs) (hA : ∀ q, s.heap.size ≤ q → A q) (hc : vwCl[ci]? = some q0) (hi : cs[i0]? = some ((b, .inr (ci, vs)) :: tl))
    (hn : As.length = n) (hsz : ls.size = nL) (hst : st = As.reverse ++ .ref b :: rest) (hW : (rest.map fun v => v.category).sum ≤ 8) (hdg : decode cc pc = .ok (.invokevirtual index, 3)) (hf : cells ≤ R.cells ∧ slots ≤ R.slots)
    (kk : ∀ (H1 : Heap) (locs1 : List Loc), frP D (cs' ++ tl2) H1 → va_D A (cs' ++ tl2).flatten → va_S A s.heap H1 locs1 → W p l e R s m args below meth c H1 locs1 cells slots Q (F0 m (pc + 3) ls rest)) : W p l e R s m args below meth c H locs cells slots Q (F0 m pc ls st) :=
  fr_Vv S hCt cw hK hN hM hP hD hS hA (List.range' 0 cs.length) fr_pre_C (va_nd_of List.nodup_range') (frPut_pre cs cs' [] tl2 (by have := congrArg List.length hCt.1; simpa using this.symm)) hc (by rw [List.getElem?_append_left (List.getElem?_eq_some_iff.mp hi).1]; exact hi) hn hsz hst hW hdg hf kk
/-- a static method that reads no cell -/
theorem fr_S0 (S : CallFix p m c cc nL s args Ts own) (hCt : CtI l D T Z y ws rm [] As r []) (cw : CallB R s args own index y bytes maxL ret ws rm 0 0 n ∧ (Cond.static y).before args s = true)
    (hK : va_K D vwCl (tyL T) s) (hN : nwOk s) (hM : amb Z A s s.heap) (hP : frP D fs H) (hD : va_D A fs.flatten) (hS : va_S A s.heap H locs) (hA : ∀ q, s.heap.size ≤ q → A q)
    (hn : As.length = n) (hsz : ls.size = nL) (hst : st = As.reverse ++ rest) (hW : (rest.map fun v => v.category).sum ≤ 8) (hdg : decode cc pc = .ok (.invokestatic index, 3)) (hf : cells ≤ R.cells ∧ slots ≤ R.slots)
    (kk : ∀ (H1 : Heap) (locs1 : List Loc), frP D fs H1 → va_D A fs.flatten → va_S A s.heap H1 locs1 → W p l e R s m args below meth c H1 locs1 cells slots Q (F0 m (pc + 3) ls (.int r :: rest))) : W p l e R s m args below meth c H locs cells slots Q (F0 m pc ls st) := by
  have hC : ([] : List Nat).map (fun i => fs[i]?) = ([] : List va_W).map some := rfl
  have hF := fr_free hD hS hA hC
  refine va_calli (va_runS S (hCt.2 H.size) cw ⟨frPre.blind, fr_preOk hK hN hM hS hF hP hD hC rfl⟩ rfl hn hsz hst (lv_room hW) hdg hf) hS (fun q _ h => hF q h) hF (fun r' u t H1 locs1 ht hvm hw hB hz1 hk1 hS1 => ?_)
  subst hw
  rw [ht] at hB
  obtain ⟨hP1, hD1⟩ := fr_join hP hD hC hCt.1 rfl hk1 hB
  exact kk H1 locs1 hP1 hD1 hS1
/-- a static method over a world, that answers nothing -/
theorem fr_Sv (S : CallFix p m c cc nL s args Ts own) (hCt : CtV l D T Z y ws rm cs As cs') (cw : CallB R s args own index y bytes maxL ret ws rm 0 0 n ∧ (Cond.static y).before args s = true)
    (hK : va_K D vwCl (tyL T) s) (hN : nwOk s) (hM : amb Z A s s.heap) (hP : frP D fs H) (hD : va_D A fs.flatten) (hS : va_S A s.heap H locs) (hA : ∀ q, s.heap.size ≤ q → A q) (is : List Nat) (hC : is.map (fun i => fs[i]?) = cs.map some) (hnd : va_nd is = true) (hput : frPut fs is cs' = fs')
    (hn : As.length = n) (hsz : ls.size = nL) (hst : st = As.reverse ++ rest) (hW : (rest.map fun v => v.category).sum ≤ 8) (hdg : decode cc pc = .ok (.invokestatic index, 3)) (hf : cells ≤ R.cells ∧ slots ≤ R.slots)
    (kk : ∀ (H1 : Heap) (locs1 : List Loc), frP D fs' H1 → va_D A fs'.flatten → va_S A s.heap H1 locs1 → W p l e R s m args below meth c H1 locs1 cells slots Q (F0 m (pc + 3) ls rest)) : W p l e R s m args below meth c H locs cells slots Q (F0 m pc ls st) := by
  have hF := fr_free hD hS hA hC
  refine va_callv (va_runS S (hCt.2 H.size) cw ⟨frPre.blind, fr_preOk hK hN hM hS hF hP hD hC hnd⟩ rfl hn hsz hst (lv_room hW) hdg hf) hS (fun q _ h => hF q h) hF (fun u t H1 locs1 ht hvm hw hB hz1 hk1 hS1 => ?_)
  rw [ht] at hB
  obtain ⟨hP1, hD1⟩ := fr_join hP hD hC hCt.1 hput hk1 hB
  exact kk H1 locs1 hP1 hD1 hS1
theorem fr_SN0 (S : CallFix p m c cc nL s args Ts own) (hCt : CtI l D T Z y ws rm [] As r []) (cw : va_CN R s args own index y host bytes maxL ret ws rm 0 0 n ∧ (Cond.static y).before args s = true ∧ True)
    (hK : va_K D vwCl (tyL T) s) (hN : nwOk s) (hM : amb Z A s s.heap) (hP : frP D fs H) (hD : va_D A fs.flatten) (hS : va_S A s.heap H locs) (hA : ∀ q, s.heap.size ≤ q → A q)
    (hn : As.length = n) (hsz : ls.size = nL) (hst : st = As.reverse ++ rest) (hW : (rest.map fun v => v.category).sum ≤ 8) (hdg : decode cc pc = .ok (.invokestatic index, 3)) (hf : cells ≤ R.cells ∧ slots ≤ R.slots)
    (kk : ∀ (H1 : Heap) (locs1 : List Loc), frP D fs H1 → va_D A fs.flatten → va_S A s.heap H1 locs1 → W p l e R s m args below meth c H1 locs1 cells slots Q (F0 m (pc + 3) ls (.int r :: rest))) : W p l e R s m args below meth c H locs cells slots Q (F0 m pc ls st) := by
  have hC : ([] : List Nat).map (fun i => fs[i]?) = ([] : List va_W).map some := rfl
  have hF := fr_free hD hS hA hC
  refine va_calli (va_runSN S (hCt.2 H.size) cw ⟨frPre.blind, fr_preOk hK hN hM hS hF hP hD hC rfl⟩ rfl hn hsz hst (lv_room hW) hdg hf) hS (fun q _ h => hF q h) hF (fun r' u t H1 locs1 ht hvm hw hB hz1 hk1 hS1 => ?_)
  subst hw
  rw [ht] at hB
  obtain ⟨hP1, hD1⟩ := fr_join hP hD hC hCt.1 rfl hk1 hB
  exact kk H1 locs1 hP1 hD1 hS1
end CALLS
end FR
