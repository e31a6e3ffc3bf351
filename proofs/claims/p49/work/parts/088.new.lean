/-! constructors: a world that grows at its end -/
def frPreQ (D : va_G) (T : Nat → ClassId) (Z : ZZ) (fs : List va_W) (sz : Nat) (U : State) : Prop := frPre D T Z fs sz U ∧ va_AO RX3 U
theorem frPreQ.blind {D : va_G} {T : Nat → ClassId} {Z : ZZ} {fs : List va_W} {sz : Nat} {as : List Value} : FrameBlind (va_Pc as (frPreQ D T Z fs sz)) := by
  intro a U g mk h
  obtain ⟨h0, h1, h2⟩ := h
  have h3 := frPre.blind (as := as) a U g mk ⟨h0, h1⟩
  exact ⟨h3.1, h3.2, va_AO.moved (u := U) (U := U.calling g mk a) (Vm.Alike.refl U.vm) h2⟩
def QcN {S : Type} (D : va_G) (post : S → Prop) (fs' : S → List va_W) (A : Nat → Prop) : Array Value → State → Outcome → State → Prop := va_Qv post (fun ad t => frP D (fs' ad) t.heap ∧ va_D A (fs' ad).flatten) A
def CtN {S : Type} (l : Launch) (D : va_G) (T : Nat → ClassId) (Z : ZZ) (y : MethodName) (ws : List Cond) (rm : Room) (fs : List va_W) (as : List Value) (mc ms : Nat) (post : S → Prop) (fs' : S → List va_W) : Prop :=
  ∀ sz : Nat, Met l y ws rm (va_Pc as (frPreQ D T Z fs sz)) (QcN D post fs' (va_A fs.flatten sz)) mc ms (va_A fs.flatten sz)
theorem CtN.of {S : Type} {l : Launch} {D : va_G} {T : Nat → ClassId} {Z : ZZ} {y : MethodName} {ws ws' : List Cond} {rm : Room} {fs : List va_W} {as : List Value} {mc ms : Nat} {post : S → Prop} {fs' : S → List va_W} {cc : ByteArray} {maxL : Nat} {ret : Option FieldType} (hy : plainFor y = true) (hy2 : y.name = "<init>") (hw : ws = Cond.code y cc maxL ret :: ws')
    (body : ∀ (p : Program) (e : Env) (s : State) (m : MethodId) (below : List Frame) (meth : Method) (c : Code) (A : Nat → Prop), Ent p s m meth c y ws as cc maxL ret → meth.name = "<init>" → va_AO RX3 s →
      va_K D vwCl (tyL T) s → nwOk s → amb Z A s s.heap → frP D fs s.heap → va_D A fs.flatten → (∀ q, s.heap.size ≤ q → A q) →
      W p l e rm s m as.toArray below meth c s.heap [] 0 0 (MQ below (QcN D post fs' A) as.toArray s mc ms A) (entryFrame m as.toArray maxL)) : CtN l D T Z y ws rm fs as mc ms post fs' := by
  intro sz
  refine va_MetF (cc := cc) (maxL := maxL) (ret := ret) hy hw ?_
  intro p e s m args below meth c s₁ B hml hv
  obtain ⟨rfl, ⟨hsz, hP, hK, hN, hM, hD0⟩, hQ⟩ := hv
  subst hsz
  exact body p e s m below meth c _ ⟨B.exec, B.bytes, B.returns, atoms_spec (ws := ws) B.pre, findClass_of_methodNamed B.named, hml, B.notSynchronized⟩ (hy2 ▸ (name_of_methodNamed B.named B.method).1) hQ hK hN hM hP hD0.self (fun q h => Or.inr h)
section FRN
variable {p : Program} {l : Launch} {e : Env} {R : Room} {s : State} {m : MethodId} {args : Array Value} {below : List Frame} {meth : Method} {c : Code} {H : Heap} {locs : List Loc} {cells slots : Nat} {Q : State → Prop}
variable {cc : ByteArray} {pc : Nat} {ls : Array Slot} {rest : List Value} {D : va_G} {A : Nat → Prop} {a : Nat} {T : Nat → ClassId} {Z : ZZ} {fs : List va_W} {H0 : Heap}
theorem fr_nend {S : Type} {mc ms : Nat} {post : S → Prop} {fs' : S → List va_W} (ad : S) (hx : p.tables.exec = Jvm.exec) (hb : c.code = cc) (hr : meth.sig.returnType = none) (hlk : meth.locks = false) (hP : frP D fs H) (hD : va_D A fs.flatten) (hS : va_S A s.heap H locs) (hpost : post ad) (hf : fs = fs' ad) (hc : cells ≤ mc) (hs : slots ≤ ms) (hdg : decode cc pc = .ok (.return_, 1)) :
    W p l e R s m args below meth c H locs cells slots (MQ below (QcN D post fs' A) args s mc ms A) (F0 m pc ls []) := by
  subst hf
  refine W.widen (k := mc) (n := ms) hc hs ?_
  exact W.vret hx hb hr (fun t ht hW => ⟨⟨ad, rfl, hpost, by rw [ht]; exact hP, hD⟩, hS.F ht⟩) hS.2.2 hdg hlk
theorem fl_app {x : Nat × va_E} : fs.flatten ++ [x] = (fs ++ [[x]]).flatten := by simp
theorem fr_newo {own C : String} {TT : u_T} {N ci index : Nat} {Ts : List Cond} (hx : p.tables.exec = Jvm.exec) (hb : c.code = cc) (hts : ∀ w ∈ Ts, w.before args s = true) (hin : ∀ w ∈ u_ws C TT N, w ∈ Ts) (ty : Nat → FieldType) (hty : ∀ k, k < N → parseFieldDescriptor (TT k).2.2.1 = some (ty k)) (hown : s.vm.findClass own = some m.cls) (hcl : (Cond.classLink own index C).before args s = true) (hinst : (Cond.instantiable C N).before args s = true) (hini : (Cond.initialized C).before args s = true)
    (hK : va_K D vwCl (tyL T) s) (hP : frP D fs H) (hD : va_D A fs.flatten) (hS : va_S A H0 H locs) (hA : ∀ q, H0.size ≤ q → A q) (hc : vwCl[ci]? = some (C, TT, N)) {vs : List Value} (hfs : ∀ j, j < N → defaultValue (ty j) = vp_V vs j) (hcells : cells + 1 ≤ R.cells) (hslots : slots + N ≤ R.slots) (hdg : decode cc pc = .ok (.new index, 3))
    (kk : ∀ (q : Nat) (H1 : Heap), frP D (fs ++ ([[(q, .inr (ci, vs))]] : List va_W)) H1 → va_D A (fs ++ ([[(q, .inr (ci, vs))]] : List va_W)).flatten → va_S A H0 H1 locs →
      W p l e R s m args below meth c H1 locs (cells + 1) (slots + N) Q (F0 m (pc + 3) ls (.ref q :: rest))) : W p l e R s m args below meth c H locs cells slots Q (F0 m pc ls rest) := by
  refine va_new hx hb hts hin ty hty hown hcl hinst hini hK (show va_P D vwCl fs.flatten H from hP) hD hS hA hc hfs hcells hslots hdg (fun q H1 hP1 hD1 hS1 => ?_)
  rw [fl_app] at hP1 hD1
  exact kk q H1 hP1 hD1 hS1
/-- a new row of numbers: its class is the one of its kind -/
theorem fr_newa {atype : ArrayType} {t : Nat} {ty : FieldType} (hx : p.tables.exec = Jvm.exec) (hb : c.code = cc) (harr : (Cond.arrayClass (newarray.typeOf atype)).before args s = true) (hty : newarray.typeOf atype = ty) (htl : (tyL T)[t]? = some (T t, ty)) (hra : ∀ cA : ClassId, va_RA s cA ty → s.vm.findClass ("[" ++ ty.toString) = some cA) (hdv : defaultValue ty = .int 0)
    (hK : va_K D vwCl (tyL T) s) (hP : frP D fs H) (hD : va_D A fs.flatten) (hS : va_S A H0 H locs) (hA : ∀ q, H0.size ≤ q → A q) {n : Nat} (hn : n < 2 ^ 31) (hbytes : n * componentBytes ty ≤ 536870912) (hcells : cells + 1 ≤ R.cells) (hslots : slots + n ≤ R.slots) (hdg : decode cc pc = .ok (.newarray atype, 2))
    (kk : ∀ (q : Nat) (H1 : Heap), frP D (fs ++ ([[(q, .inl (T t, n, .inl (fun _ => nI 0)))]] : List va_W)) H1 → va_D A (fs ++ ([[(q, .inl (T t, n, .inl (fun _ => nI 0)))]] : List va_W)).flatten → va_S A H0 H1 locs →
      W p l e R s m args below meth c H1 locs (cells + 1) (slots + n) Q (F0 m (pc + 2) ls (.ref q :: rest))) : W p l e R s m args below meth c H locs cells slots Q (F0 m pc ls (.int (nI n) :: rest)) := by
  refine va_newa hx hb harr hty hK (show va_P D vwCl fs.flatten H from hP) hD hS hA (a0 := (n, .inl (fun _ => nI 0))) (N' := n) (fun cA => ?_) (nI_pos hn) (nI_clamp hn) hbytes hcells hslots hdg (fun q cA H1 hK1 hP1 hD1 hS1 => ?_)
  · rw [vp_cell_i, hdv]; rfl
  · have e1 := hra _ (hK1.2 (tyL T).length (cA, ty) (by simp)).2
    have e2 := hra _ (hK.2 t (T t, ty) htl).2
    have e3 : cA = T t := Option.some.inj (e1.symm.trans e2)
    subst e3
    rw [fl_app] at hP1 hD1
    exact kk q H1 hP1 hD1 hS1
theorem bf_0 : bf (fun _ => nI 0) = (fun _ => nI 0) := by
  funext k
  unfold bf
  rw [show bz (nI 0) = false from by decide]
  rfl
theorem va_RA_obj {U : State} {cA cB : ClassId} {C : String} (h1 : va_RA U cA (.object C)) (h2 : va_RA U cB (.object C)) : cA = cB := by
  obtain ⟨-, -, -, -, -, e1⟩ := h1
  obtain ⟨-, -, -, -, -, e2⟩ := h2
  exact Option.some.inj (e1.symm.trans e2)
theorem fr_newq {own C : String} {index t : Nat} (hx : p.tables.exec = Jvm.exec) (hb : c.code = cc) (hown : s.vm.findClass own = some m.cls) (hclink : (Cond.classLink own index C).before args s = true) (hover : va_AO C s) (htl : (tyL T)[t]? = some (T t, .object C))
    (hK : va_K D vwCl (tyL T) s) (hP : frP D fs H) (hD : va_D A fs.flatten) (hS : va_S A H0 H locs) (hA : ∀ q, H0.size ≤ q → A q) {n : Nat} (hn : n < 2 ^ 31) (hbytes : n * 4 ≤ 536870912) (hcells : cells + 1 ≤ R.cells) (hslots : slots + n ≤ R.slots) (hdg : decode cc pc = .ok (.anewarray index, 3))
    (kk : ∀ (q : Nat) (H1 : Heap), frP D (fs ++ ([[(q, .inl (T t, n, .inr (.inr (.inr (.inr (fun _ => none))))))]] : List va_W)) H1 → va_D A (fs ++ ([[(q, .inl (T t, n, .inr (.inr (.inr (.inr (fun _ => none))))))]] : List va_W)).flatten → va_S A H0 H1 locs →
      W p l e R s m args below meth c H1 locs (cells + 1) (slots + n) Q (F0 m (pc + 3) ls (.ref q :: rest))) : W p l e R s m args below meth c H locs cells slots Q (F0 m pc ls (.int (nI n) :: rest)) := by
  refine va_newq hx hb hown hclink hover hK (show va_P D vwCl fs.flatten H from hP) hD hS hA (N' := n) (nI_pos hn) (nI_clamp hn) hbytes hcells hslots hdg (fun q cA H1 hK1 hP1 hD1 hS1 => ?_)
  have e3 : cA = T t := va_RA_obj (hK1.2 (tyL T).length (cA, .object C) (by simp)).2 (hK.2 t (T t, .object C) htl).2
  subst e3
  rw [fl_app] at hP1 hD1
  exact kk q H1 hP1 hD1 hS1
/-- a reference into a row of references; the object that it names is the last fragment's first cell -/
theorem fr_astq {t ci j v : Nat} {r : vw_C} {n : Nat} {vs : List Value} {f : Nat → Option Nat} {tl : va_W} {fs' : List va_W} (hx : p.tables.exec = Jvm.exec) (hb : c.code = cc) (hK : va_K D vwCl (tyL T) s) (hP : frP D fs H) (hD : va_D A fs.flatten) (hS : va_S A H0 H locs) (i k : Nat) (ha : fs[i]? = some [(a, .inl (T t, n, .inr (.inr (.inr (.inr f)))))]) (hfs : fs.set i [(a, .inl (T t, n, .inr (.inr (.inr (.inr (va_up f k (some v)))))))] = fs') (htl : (tyL T)[t]? = some (T t, .object r.1)) (hv : fs[j]? = some ((v, .inr (ci, vs)) :: tl)) (hc : vwCl[ci]? = some r) (hk : k < n) (hk2 : k < 2 ^ 31) (hdg : decode cc pc = .ok (.aastore, 1))
    (kk : ∀ (H1 : Heap) (locs1 : List Loc), frP D fs' H1 → va_D A fs'.flatten → va_S A H0 H1 locs1 → W p l e R s m args below meth c H1 locs1 cells slots Q (F0 m (pc + 1) ls rest)) : W p l e R s m args below meth c H locs cells slots Q (F0 m pc ls (.ref v :: .int (nI k) :: .ref a :: rest)) := by
  obtain ⟨q, h1, h2⟩ := fr_index fs i _ ha
  have hm : (v, (.inr (ci, vs) : va_E)) ∈ fs.flatten := List.mem_flatten.mpr ⟨_, List.mem_of_getElem? hv, List.mem_cons_self⟩
  obtain ⟨qk, hqk⟩ := List.getElem?_of_mem hm
  refine va_astq hx hb hK (show va_P D vwCl fs.flatten H from hP) hD hS q t qk ci h1 htl hqk hc (fun z => by rcases z with z | z; exact nI_pos hk2 z; rw [nI_clamp hk2] at z; omega) hdg (fun H1 locs1 hP1 hD1 hS1 => ?_)
  rw [nI_clamp hk2] at hP1 hD1
  rw [h2, hfs] at hP1 hD1
  exact kk H1 locs1 hP1 hD1 hS1
theorem fr_putF {own C : String} {TT : u_T} {N ci index : Nat} {Ts : List Cond} (hx : p.tables.exec = Jvm.exec) (hb : c.code = cc) (hts : ∀ w ∈ Ts, w.before args s = true) (hin : ∀ w ∈ u_ws C TT N, w ∈ Ts) (ty0 : Nat → FieldType) (hty : ∀ k, k < N → parseFieldDescriptor (TT k).2.2.1 = some (ty0 k)) (hnm : ∀ a, a < N → ∀ b, b < N → a ≠ b → (TT a).2.1 ≠ (TT b).2.1) (hown : s.vm.findClass own = some m.cls) (hK : va_K D vwCl (tyL T) s) (hP : frP D fs H) (hD : va_D A fs.flatten) (hS : va_S A H0 H locs) (i : Nat) {vs : List Value} {fs' : List va_W} (he : fs[i]? = some [(a, .inr (ci, vs))]) (hc : vwCl[ci]? = some (C, TT, N)) (k : Nat) (hk : k < N) {v : Value} (hfs : fs.set i [(a, .inr (ci, vs.set k v))] = fs') (hlink : (Cond.fieldLink own index C (TT k).2.1 (TT k).2.2.1).before args s = true) (hsame : (TT k).1 = C) (hfin : (TT k).2.2.2 = true) (hin2 : meth.name = "<init>") (hdecl : (TT k).1 = own) {ty : FieldType} (hd : parseFieldDescriptor (TT k).2.2.1 = some ty) (hn : narrow ty v = v) (hfit : fits ty v = true) (hl : k < vs.length)
    (hdg : decode cc pc = .ok (.putfield index, 3)) (kk : ∀ (H1 : Heap) (locs1 : List Loc), frP D fs' H1 → va_D A fs'.flatten → va_S A H0 H1 locs1 → W p l e R s m args below meth c H1 locs1 cells slots Q (F0 m (pc + 3) ls rest)) : W p l e R s m args below meth c H locs cells slots Q (F0 m pc ls (v :: .ref a :: rest)) := by
  obtain ⟨q, h1, h2⟩ := fr_index fs i _ he
  refine va_putF hx hb hts hin ty0 hty hnm hown hK (show va_P D vwCl fs.flatten H from hP) hD hS q h1 hc k hk hlink (fun x h9 => by rw [← hsame]; exact h9) hfin hin2 hdecl hd hn hfit hl hdg (fun H1 locs1 hP1 hD1 hS1 => ?_)
  rw [h2, hfs] at hP1 hD1
  exact kk H1 locs1 hP1 hD1 hS1
/-! a constructor's call: its world stands last in ours -/
theorem rg_last {α : Type} {B C : List α} : (List.range' B.length C.length).map (fun i => (B ++ C)[i]?) = C.map some := by
  apply List.ext_getElem?
  intro k
  rw [List.getElem?_map, List.getElem?_map]
  by_cases h : k < C.length
  · rw [List.getElem?_range' (by simpa using h), List.getElem?_eq_getElem h]
    simp only [Option.map_some, Nat.one_mul]
    rw [List.getElem?_append_right (by omega), Nat.add_sub_cancel_left, List.getElem?_eq_getElem h]
  · rw [List.getElem?_eq_none_iff.mpr (by simpa using Nat.not_lt.mp h), List.getElem?_eq_none_iff.mpr (Nat.not_lt.mp h)]
    rfl
theorem rg_first {α : Type} {B C : List α} : (List.range' 0 B.length).map (fun i => (B ++ C)[i]?) = B.map some := by
  apply List.ext_getElem?
  intro k
  rw [List.getElem?_map, List.getElem?_map]
  by_cases h : k < B.length
  · rw [List.getElem?_range' (by simpa using h), List.getElem?_eq_getElem h]
    simp [List.getElem?_append_left h, List.getElem?_eq_getElem h]
  · rw [List.getElem?_eq_none_iff.mpr (by simpa using Nat.not_lt.mp h), List.getElem?_eq_none_iff.mpr (Nat.not_lt.mp h)]
    rfl
theorem fr_joinI {cs cs' : List va_W} {H1 : Heap} (hP : frP D (fs ++ cs) H) (hD : va_D A (fs ++ cs).flatten) (hk : ∀ q : Nat, q < H.size → ¬ va_A cs.flatten H.size q → H1[q]? = H[q]?) (hF : ∀ q, va_A cs.flatten H.size q → A q) (hP1 : frP D cs' H1) (hD1 : va_D (va_A cs.flatten H.size) cs'.flatten) : frP D (fs ++ cs') H1 ∧ va_D A (fs ++ cs').flatten := by
  have e1 : (fs ++ cs).flatten = fs.flatten ++ cs.flatten := List.flatten_append
  have e2 : (fs ++ cs').flatten = fs.flatten ++ cs'.flatten := List.flatten_append
  unfold frP at hP hP1 ⊢
  rw [e1] at hP hD
  rw [e2]
  exact va_join (wr := fs.flatten) (w1 := cs'.flatten) hP hD (List.range' fs.flatten.length cs.flatten.length) (List.range' 0 fs.flatten.length) rg_last rg_first (va_nd_of List.nodup_range') (fun i hi hj => by
    rw [List.mem_range'_1] at hi hj
    omega) hk hF hP1 hD1
variable {y : MethodName} {bytes : ByteArray} {maxL nL n index mc ms : Nat} {ws : List Cond} {rm : Room} {Ts : List Cond} {own : String} {b : Nat} {As : List Value} {st : List Value} {cs : List va_W} {V : Type} {post : V → Prop} {cs' : V → List va_W} {host : String}
theorem fr_I (S : CallFix p m c cc nL s args Ts own) (hCt : CtN l D T Z y ws rm cs (.ref b :: As) mc ms post cs') (cw : CallB R s args own index y bytes maxL none ws rm mc ms n ∧ y.name = "<init>" ∧ (Cond.instanceMethod y).before args s = true) (hQ : va_AO RX3 s)
    (hK : va_K D vwCl (tyL T) s) (hN : nwOk s) (hM : amb Z A s s.heap) (hP : frP D (fs ++ cs) H) (hD : va_D A (fs ++ cs).flatten) (hS : va_S A s.heap H locs) (hA : ∀ q, s.heap.size ≤ q → A q)
    (hn : As.length = n) (hsz : ls.size = nL) (hst : st = As.reverse ++ .ref b :: rest) (hW : (rest.map fun v => v.category).sum ≤ 8) (hdg : decode cc pc = .ok (.invokespecial index, 3)) (hf : cells + mc ≤ R.cells ∧ slots + ms ≤ R.slots)
    (kk : ∀ (ad : V) (H1 : Heap) (locs1 : List Loc), post ad → frP D (fs ++ cs' ad) H1 → va_D A (fs ++ cs' ad).flatten → va_S A s.heap H1 locs1 → W p l e R s m args below meth c H1 locs1 (cells + mc) (slots + ms) Q (F0 m (pc + 3) ls rest)) : W p l e R s m args below meth c H locs cells slots Q (F0 m pc ls st) := by
  have hC : (List.range' fs.length cs.length).map (fun i => (fs ++ cs)[i]?) = cs.map some := rg_last
  have hF := fr_free hD hS hA hC
  have hpre := fr_preOk (As := .ref b :: As) hK hN hM hS hF hP hD hC (va_nd_of List.nodup_range')
  refine va_callv (va_runI S (hCt H.size) cw ⟨frPreQ.blind, fun U hU hW => ⟨(hpre U hU hW).1, (hpre U hU hW).2, hQ.moved hW.alike⟩⟩ rfl hn hsz hst (lv_room hW) hdg hf) hS (fun q _ h => hF q h) hF (fun ad t H1 locs1 ht hvm hw hB hz1 hk1 hS1 => ?_)
  rw [ht] at hB
  obtain ⟨hP1, hD1⟩ := fr_joinI hP hD hk1 hF hB.1 hB.2
  exact kk ad H1 locs1 hw hP1 hD1 hS1
theorem fr_IN (S : CallFix p m c cc nL s args Ts own) (hCt : CtN l D T Z y ws rm cs (.ref b :: As) mc ms post cs') (cw : va_CN R s args own index y host bytes maxL none ws rm mc ms n ∧ y.name = "<init>" ∧ (Cond.instanceMethod y).before args s = true) (hQ : va_AO RX3 s)
    (hK : va_K D vwCl (tyL T) s) (hN : nwOk s) (hM : amb Z A s s.heap) (hP : frP D (fs ++ cs) H) (hD : va_D A (fs ++ cs).flatten) (hS : va_S A s.heap H locs) (hA : ∀ q, s.heap.size ≤ q → A q)
    (hn : As.length = n) (hsz : ls.size = nL) (hst : st = As.reverse ++ .ref b :: rest) (hW : (rest.map fun v => v.category).sum ≤ 8) (hdg : decode cc pc = .ok (.invokespecial index, 3)) (hf : cells + mc ≤ R.cells ∧ slots + ms ≤ R.slots)
    (kk : ∀ (ad : V) (H1 : Heap) (locs1 : List Loc), post ad → frP D (fs ++ cs' ad) H1 → va_D A (fs ++ cs' ad).flatten → va_S A s.heap H1 locs1 → W p l e R s m args below meth c H1 locs1 (cells + mc) (slots + ms) Q (F0 m (pc + 3) ls rest)) : W p l e R s m args below meth c H locs cells slots Q (F0 m pc ls st) := by
  have hC : (List.range' fs.length cs.length).map (fun i => (fs ++ cs)[i]?) = cs.map some := rg_last
  have hF := fr_free hD hS hA hC
  have hpre := fr_preOk (As := .ref b :: As) hK hN hM hS hF hP hD hC (va_nd_of List.nodup_range')
  refine va_callv (va_runIN S (hCt H.size) cw ⟨frPreQ.blind, fun U hU hW => ⟨(hpre U hU hW).1, (hpre U hU hW).2, hQ.moved hW.alike⟩⟩ rfl hn hsz hst (lv_room hW) hdg hf) hS (fun q _ h => hF q h) hF (fun ad t H1 locs1 ht hvm hw hB hz1 hk1 hS1 => ?_)
  rw [ht] at hB
  obtain ⟨hP1, hD1⟩ := fr_joinI hP hD hk1 hF hB.1 hB.2
  exact kk ad H1 locs1 hw hP1 hD1 hS1
variable {ret : Option FieldType} {fs' cs2 : List va_W}
/-- references: what stands beyond a row's end doesn't matter -/
theorem frP.rowq (h : frP D fs H) {i : Nat} {cA : ClassId} {n : Nat} {f g : Nat → Option Nat} (ha : fs[i]? = some [(a, .inl (cA, n, .inr (.inr (.inr (.inr f)))))]) (he : ∀ j, j < n → f j = g j) (hfs : fs.set i [(a, .inl (cA, n, .inr (.inr (.inr (.inr g)))))] = fs') : frP D fs' H := by
  subst hfs
  have hlt := (List.getElem?_eq_some_iff.mp ha).1
  refine frP.mk (fun k w hk => ?_)
  by_cases e : k = i
  · subst e
    rw [List.getElem?_set_self hlt] at hk
    cases hk
    intro j q hq
    have h1 := h.at k ha j
    cases j with
    | zero =>
      cases hq
      have h2 := h1 _ rfl
      show H[a]? = some (vp_cell cA (n, .inr (.inr (.inr (.inr g)))))
      rw [vp_cell_q, ← arrV_eq (f := fun j => va_rf (f j)) (fun j hj => by rw [he j hj]), ← vp_cell_q]
      exact h2
    | succ j => simp at hq
  · rw [List.getElem?_set_ne (Ne.symm e)] at hk
    exact h.at k hk
end FRN
/-- all the same from the first on -/
def filF (f : Nat → Int32) (x : Int32) (n : Nat) : Nat → Int32 := fun j => if j < n then x else f j
theorem filF_0 (f : Nat → Int32) (x : Int32) : filF f x 0 = f := by
  funext j; unfold filF; rw [if_neg (by omega)]
theorem filF_s (f : Nat → Int32) (x : Int32) (n : Nat) : upd (filF f x n) n x = filF f x (n + 1) := by
  funext j
  unfold upd filF
  by_cases h : j = n
  · rw [if_pos h, if_pos (by omega)]
  · rw [if_neg h]
    by_cases h2 : j < n
    · rw [if_pos h2, if_pos (by omega)]
    · rw [if_neg h2, if_neg (by omega)]
/-! what is new -/
def adL (q : List Nat) : Nat → Nat := fun k => q.getD k 0
def N0 : NS := fun c => match c with
  | 1 => filF (fun _ => nI 0) (-6) 32
  | 2 => filF (fun _ => nI 0) (-6) 32
  | 4 => filF (fun _ => nI 0) (-6) 32
  | 5 => filF (fun _ => nI 0) (-6) 32
  | 7 => filF (fun _ => nI 0) (-6) 16
  | 8 => filF (fun _ => nI 0) (-6) 16
  | _ => fun _ => nI 0
def B0 : NS := fun c => match c with
  | 1 => filF (fun _ => nI 0) (-6) 16
  | 2 => filF (fun _ => nI 0) (-6) 16
  | _ => fun _ => nI 0
def m0N : Nat → MS
  | 0 => fun _ => nI 0
  | k + 1 => upd (m0N k) (3 * k + 1) (-6)
def q0T : Q4 := (0, (fun _ => 0), 0)
def hco (a0 a1 a2 a3 a4 : Nat) : Nat → Option Nat := va_up (va_up (va_up (va_up (va_up (fun _ => none) 0 (some a0)) 1 (some a1)) 2 (some a2)) 3 (some a3)) 4 (some a4)
def hisF (T : Nat → ClassId) (AD : Nat → Nat → Nat) (f : Nat → Option Nat) : List va_W := [[((AD 8 1), .inr (2, [.ref (AD 8 2), .int (nI 0), .int (nI 0)]))], [((AD 8 2), .inl (T 3, 5, .inr (.inr (.inr (.inr f)))))], stW T (AD 2) N0, stW T (AD 3) N0, stW T (AD 4) N0, stW T (AD 5) N0, stW T (AD 6) N0]
def refF (T : Nat → ClassId) (md : Nat → Nat) (σ : MS) : List va_W := [[((md 0), .inr (6, [.ref (md 1), .int (nI 0), .ref (md 2), .int (nI 0), .int (nI 0), .int (nI 0), .ref (md 3), .ref (md 4)]))], [((md 1), .inl (T 0, 1872, .inl σ))], [((md 2), .inl (T 0, 90, .inl (nf (fun _ => 0))))], [((md 3), .inl (T 0, 5, .inl (nf (fun _ => 0))))], [((md 4), .inl (T 0, 48, .inl (fun _ => nI 0)))]]
theorem CtN.re {S : Type} {l : Launch} {D : va_G} {T : Nat → ClassId} {Z : ZZ} {y : MethodName} {ws : List Cond} {rm : Room} {fs : List va_W} {as : List Value} {mc ms : Nat} {post : S → Prop} {fs' gs' : S → List va_W} (h : CtN l D T Z y ws rm fs as mc ms post fs') (e : ∀ ad, (fs' ad).flatten = (gs' ad).flatten) : CtN l D T Z y ws rm fs as mc ms post gs' := by
  have e2 : QcN D post fs' = QcN D post gs' := by
    funext A
    unfold QcN frP
    simp only [e]
  intro sz
  rw [← e2]
  exact h sz
