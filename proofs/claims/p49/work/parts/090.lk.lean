/-! the law's own layer: answers that are longs, calls of static methods over a world, worlds that come with a history -/
def QcL (D : va_G) (fs' : List va_W) (r : Int64) (A : Nat → Prop) : Array Value → State → Outcome → State → Prop := va_Ql (fun (r' : Int64) (_ : Unit) => r' = r) (fun _ t => frP D fs' t.heap) A
def CtL (l : Launch) (D : va_G) (T : Nat → ClassId) (Z : ZZ) (y : MethodName) (ws : List Cond) (rm : Room) (fs : List va_W) (as : List Value) (r : Int64) (fs' : List va_W) : Prop :=
  frAdr fs' fs ∧ ∀ sz : Nat, Met l y ws rm (va_Pc as (frPre D T Z fs sz)) (QcL D fs' r (va_A fs.flatten sz)) 0 0 (va_A fs.flatten sz)
theorem CtL.of {l : Launch} {D : va_G} {T : Nat → ClassId} {Z : ZZ} {y : MethodName} {ws ws' : List Cond} {rm : Room} {fs : List va_W} {as : List Value} {r : Int64} {fs' : List va_W} {cc : ByteArray} {maxL : Nat} {ret : Option FieldType} (hy : plainFor y = true) (hw : ws = Cond.code y cc maxL ret :: ws') (hadr : frAdr fs' fs)
    (body : ∀ (p : Program) (e : Env) (s : State) (m : MethodId) (below : List Frame) (meth : Method) (c : Code) (A : Nat → Prop), Ent p s m meth c y ws as cc maxL ret →
      va_K D vwCl (tyL T) s → nwOk s → amb Z A s s.heap → frP D fs s.heap → va_D A fs.flatten → (∀ q, s.heap.size ≤ q → A q) →
      W p l e rm s m as.toArray below meth c s.heap [] 0 0 (MQ below (QcL D fs' r A) as.toArray s 0 0 A) (entryFrame m as.toArray maxL)) : CtL l D T Z y ws rm fs as r fs' := by
  refine ⟨hadr, fun sz => ?_⟩
  refine va_MetF (cc := cc) (maxL := maxL) (ret := ret) hy hw ?_
  intro p e s m args below meth c s₁ B hml hv
  obtain ⟨rfl, hsz, hP, hK, hN, hM, hD0⟩ := hv
  subst hsz
  exact body p e s m below meth c _ ⟨B.exec, B.bytes, B.returns, atoms_spec (ws := ws) B.pre, findClass_of_methodNamed B.named, hml, B.notSynchronized⟩ hK hN hM hP hD0.self (fun q h => Or.inr h)
def QcE {S : Type} (D : va_G) (r : Int32) (post : S → Prop) (fs' : S → List va_W) (A : Nat → Prop) : Array Value → State → Outcome → State → Prop := va_Qi (fun (r' : Int32) (u : S) => r' = r ∧ post u) (fun u t => frP D (fs' u) t.heap) A
def CtE {S : Type} (l : Launch) (D : va_G) (T : Nat → ClassId) (Z : ZZ) (y : MethodName) (ws : List Cond) (rm : Room) (fs : List va_W) (as : List Value) (r : Int32) (post : S → Prop) (fs' : S → List va_W) : Prop :=
  (∀ u, frAdr (fs' u) fs) ∧ ∀ sz : Nat, Met l y ws rm (va_Pc as (frPre D T Z fs sz)) (QcE D r post fs' (va_A fs.flatten sz)) 0 0 (va_A fs.flatten sz)
theorem CtE.of {S : Type} {l : Launch} {D : va_G} {T : Nat → ClassId} {Z : ZZ} {y : MethodName} {ws ws' : List Cond} {rm : Room} {fs : List va_W} {as : List Value} {r : Int32} {post : S → Prop} {fs' : S → List va_W} {cc : ByteArray} {maxL : Nat} {ret : Option FieldType} (hy : plainFor y = true) (hw : ws = Cond.code y cc maxL ret :: ws') (hadr : ∀ u, frAdr (fs' u) fs)
    (body : ∀ (p : Program) (e : Env) (s : State) (m : MethodId) (below : List Frame) (meth : Method) (c : Code) (A : Nat → Prop), Ent p s m meth c y ws as cc maxL ret →
      va_K D vwCl (tyL T) s → nwOk s → amb Z A s s.heap → frP D fs s.heap → va_D A fs.flatten → (∀ q, s.heap.size ≤ q → A q) →
      W p l e rm s m as.toArray below meth c s.heap [] 0 0 (MQ below (QcE D r post fs' A) as.toArray s 0 0 A) (entryFrame m as.toArray maxL)) : CtE l D T Z y ws rm fs as r post fs' := by
  refine ⟨hadr, fun sz => ?_⟩
  refine va_MetF (cc := cc) (maxL := maxL) (ret := ret) hy hw ?_
  intro p e s m args below meth c s₁ B hml hv
  obtain ⟨rfl, hsz, hP, hK, hN, hM, hD0⟩ := hv
  subst hsz
  exact body p e s m below meth c _ ⟨B.exec, B.bytes, B.returns, atoms_spec (ws := ws) B.pre, findClass_of_methodNamed B.named, hml, B.notSynchronized⟩ hK hN hM hP hD0.self (fun q h => Or.inr h)
/-- the script at hand: a method over no world that reads it -/
def frPreX (D : va_G) (T : Nat → ClassId) (Z : ZZ) (b L : Nat) (xs : Nat → Int32) (sz : Nat) (U : State) : Prop := frPre D T Z [] sz U ∧ va_X b L xs U U.heap
theorem frPreX.blind {D : va_G} {T : Nat → ClassId} {Z : ZZ} {b L : Nat} {xs : Nat → Int32} {sz : Nat} {as : List Value} : FrameBlind (va_Pc as (frPreX D T Z b L xs sz)) := by
  intro a U g mk h
  obtain ⟨h0, h1, h2⟩ := h
  have h3 := frPre.blind (as := as) a U g mk ⟨h0, h1⟩
  exact ⟨h3.1, h3.2, va_X.moved (u := U) (U := U.calling g mk a) (Vm.Alike.refl U.vm) h2⟩
def CtX (l : Launch) (D : va_G) (T : Nat → ClassId) (Z : ZZ) (y : MethodName) (ws : List Cond) (rm : Room) (b L : Nat) (xs : Nat → Int32) (as : List Value) (r : Int32) : Prop :=
  ∀ sz : Nat, Met l y ws rm (va_Pc as (frPreX D T Z b L xs sz)) (QcI D [] r (va_A ([] : List va_W).flatten sz)) 0 0 (va_A ([] : List va_W).flatten sz)
theorem CtX.of {l : Launch} {D : va_G} {T : Nat → ClassId} {Z : ZZ} {y : MethodName} {ws ws' : List Cond} {rm : Room} {b L : Nat} {xs : Nat → Int32} {as : List Value} {r : Int32} {cc : ByteArray} {maxL : Nat} {ret : Option FieldType} (hy : plainFor y = true) (hw : ws = Cond.code y cc maxL ret :: ws')
    (body : ∀ (p : Program) (e : Env) (s : State) (m : MethodId) (below : List Frame) (meth : Method) (c : Code) (A : Nat → Prop), Ent p s m meth c y ws as cc maxL ret →
      va_K D vwCl (tyL T) s → va_X b L xs s s.heap → frP D [] s.heap → (∀ q, A q → s.heap.size ≤ q) →
      W p l e rm s m as.toArray below meth c s.heap [] 0 0 (MQ below (QcI D [] r A) as.toArray s 0 0 A) (entryFrame m as.toArray maxL)) : CtX l D T Z y ws rm b L xs as r := by
  intro sz
  refine va_MetF (cc := cc) (maxL := maxL) (ret := ret) hy hw ?_
  intro p e s m args below meth c s₁ B hml hv
  obtain ⟨rfl, ⟨hsz, hP, hK, hN, hM, hD0⟩, hX⟩ := hv
  subst hsz
  refine body p e s m below meth c _ ⟨B.exec, B.bytes, B.returns, atoms_spec (ws := ws) B.pre, findClass_of_methodNamed B.named, hml, B.notSynchronized⟩ hK hX hP (fun q h => ?_)
  rcases h with ⟨k, e9, h⟩ | h
  · simp at h
  · exact h
section FRLK
variable {p : Program} {l : Launch} {e : Env} {R : Room} {s : State} {m : MethodId} {args : Array Value} {below : List Frame} {meth : Method} {c : Code} {H : Heap} {locs : List Loc} {cells slots : Nat} {Q : State → Prop}
variable {cc : ByteArray} {pc : Nat} {ls : Array Slot} {rest : List Value} {D : va_G} {A : Nat → Prop} {a : Nat} {T : Nat → ClassId} {Z : ZZ} {fs : List va_W} {H0 : Heap}
theorem fr_lret {fs' : List va_W} {r v : Int64} (hx : p.tables.exec = Jvm.exec) (hb : c.code = cc) (hr : meth.sig.returnType = some .long) (hlk : meth.locks = false) (hP : frP D fs H) (hS : va_S A s.heap H locs) (hv : v = r) (hf : fs = fs') (hdg : decode cc pc = .ok (.lreturn, 1)) :
    W p l e R s m args below meth c H locs 0 0 (MQ below (QcL D fs' r A) args s 0 0 A) (F0 m pc ls [.long v]) := by
  subst hv; subst hf
  exact W.lret hx hb hr (fun t ht hW => ⟨⟨v, (), rfl, rfl, by show frP D fs t.heap; rw [ht]; exact hP⟩, hS.F ht⟩) hS.2.2 hdg hlk
theorem fr_ezret {S : Type} {post : S → Prop} {fs' : S → List va_W} {r v : Int32} (u : S) (hx : p.tables.exec = Jvm.exec) (hb : c.code = cc) (hr : meth.sig.returnType = some .boolean) (hlk : meth.locks = false) (hP : frP D fs H) (hS : va_S A s.heap H locs) (hv : v = r) (hp : post u) (hf : fs = fs' u) (hn : narrow .boolean (.int v) = .int v) (hdg : decode cc pc = .ok (.ireturn, 1)) :
    W p l e R s m args below meth c H locs 0 0 (MQ below (QcE D r post fs' A) args s 0 0 A) (F0 m pc ls [.int v]) := by
  subst hv; subst hf
  exact W.zret hx hb hr hn (fun t ht hW => ⟨⟨v, u, rfl, ⟨rfl, hp⟩, by show frP D (fs' u) t.heap; rw [ht]; exact hP⟩, hS.F ht⟩) hS.2.2 hdg hlk
variable {y : MethodName} {bytes : ByteArray} {maxL nL n index : Nat} {ret : Option FieldType} {ws : List Cond} {rm : Room} {Ts : List Cond} {own C : String} {b : Nat} {As : List Value} {st : List Value} {cs cs' fs' : List va_W} {r : Int32} {r8 : Int64} {i0 ci : Nat} {q0 : vw_C} {vs : List Value} {tl : va_W}
theorem fr_Si (S : CallFix p m c cc nL s args Ts own) (hCt : CtI l D T Z y ws rm cs As r cs') (cw : CallB R s args own index y bytes maxL ret ws rm 0 0 n ∧ (Cond.static y).before args s = true)
    (hK : va_K D vwCl (tyL T) s) (hN : nwOk s) (hM : amb Z A s s.heap) (hP : frP D fs H) (hD : va_D A fs.flatten) (hS : va_S A s.heap H locs) (hA : ∀ q, s.heap.size ≤ q → A q) (is : List Nat) (hC : is.map (fun i => fs[i]?) = cs.map some) (hnd : va_nd is = true) (hput : frPut fs is cs' = fs')
    (hn : As.length = n) (hsz : ls.size = nL) (hst : st = As.reverse ++ rest) (hW : (rest.map fun v => v.category).sum ≤ 8) (hdg : decode cc pc = .ok (.invokestatic index, 3)) (hf : cells ≤ R.cells ∧ slots ≤ R.slots)
    (kk : ∀ (H1 : Heap) (locs1 : List Loc), frP D fs' H1 → va_D A fs'.flatten → va_S A s.heap H1 locs1 → W p l e R s m args below meth c H1 locs1 cells slots Q (F0 m (pc + 3) ls (.int r :: rest))) : W p l e R s m args below meth c H locs cells slots Q (F0 m pc ls st) := by
  have hF := fr_free hD hS hA hC
  refine va_calli (va_runS S (hCt.2 H.size) cw ⟨frPre.blind, fr_preOk hK hN hM hS hF hP hD hC hnd⟩ rfl hn hsz hst (lv_room hW) hdg hf) hS (fun q _ h => hF q h) hF (fun r' u t H1 locs1 ht hvm hw hB hz1 hk1 hS1 => ?_)
  subst hw
  rw [ht] at hB
  obtain ⟨hP1, hD1⟩ := fr_join hP hD hC hCt.1 hput hk1 hB
  exact kk H1 locs1 hP1 hD1 hS1
theorem fr_Sl (S : CallFix p m c cc nL s args Ts own) (hCt : CtL l D T Z y ws rm cs As r8 cs') (cw : CallB R s args own index y bytes maxL ret ws rm 0 0 n ∧ (Cond.static y).before args s = true)
    (hK : va_K D vwCl (tyL T) s) (hN : nwOk s) (hM : amb Z A s s.heap) (hP : frP D fs H) (hD : va_D A fs.flatten) (hS : va_S A s.heap H locs) (hA : ∀ q, s.heap.size ≤ q → A q) (is : List Nat) (hC : is.map (fun i => fs[i]?) = cs.map some) (hnd : va_nd is = true) (hput : frPut fs is cs' = fs')
    (hn : As.length = n) (hsz : ls.size = nL) (hst : st = As.reverse ++ rest) (hW : (rest.map fun v => v.category).sum ≤ 8) (hdg : decode cc pc = .ok (.invokestatic index, 3)) (hf : cells ≤ R.cells ∧ slots ≤ R.slots)
    (kk : ∀ (H1 : Heap) (locs1 : List Loc), frP D fs' H1 → va_D A fs'.flatten → va_S A s.heap H1 locs1 → W p l e R s m args below meth c H1 locs1 cells slots Q (F0 m (pc + 3) ls (.long r8 :: rest))) : W p l e R s m args below meth c H locs cells slots Q (F0 m pc ls st) := by
  have hF := fr_free hD hS hA hC
  refine va_calll (va_runS S (hCt.2 H.size) cw ⟨frPre.blind, fr_preOk hK hN hM hS hF hP hD hC hnd⟩ rfl hn hsz hst (lv_room hW) hdg hf) hS (fun q _ h => hF q h) hF (fun r' u t H1 locs1 ht hvm hw hB hz1 hk1 hS1 => ?_)
  subst hw
  rw [ht] at hB
  obtain ⟨hP1, hD1⟩ := fr_join hP hD hC hCt.1 hput hk1 hB
  exact kk H1 locs1 hP1 hD1 hS1
theorem fr_Se {V : Type} {post : V → Prop} {cs2 : V → List va_W} (S : CallFix p m c cc nL s args Ts own) (hCt : CtE l D T Z y ws rm cs As r post cs2) (cw : CallB R s args own index y bytes maxL ret ws rm 0 0 n ∧ (Cond.static y).before args s = true)
    (hK : va_K D vwCl (tyL T) s) (hN : nwOk s) (hM : amb Z A s s.heap) (hP : frP D fs H) (hD : va_D A fs.flatten) (hS : va_S A s.heap H locs) (hA : ∀ q, s.heap.size ≤ q → A q) (is : List Nat) (hC : is.map (fun i => fs[i]?) = cs.map some) (hnd : va_nd is = true)
    (hn : As.length = n) (hsz : ls.size = nL) (hst : st = As.reverse ++ rest) (hW : (rest.map fun v => v.category).sum ≤ 8) (hdg : decode cc pc = .ok (.invokestatic index, 3)) (hf : cells ≤ R.cells ∧ slots ≤ R.slots)
    (kk : ∀ (u : V) (H1 : Heap) (locs1 : List Loc), post u → frP D (frPut fs is (cs2 u)) H1 → va_D A (frPut fs is (cs2 u)).flatten → va_S A s.heap H1 locs1 → W p l e R s m args below meth c H1 locs1 cells slots Q (F0 m (pc + 3) ls (.int r :: rest))) : W p l e R s m args below meth c H locs cells slots Q (F0 m pc ls st) := by
  have hF := fr_free hD hS hA hC
  refine va_calli (va_runS S (hCt.2 H.size) cw ⟨frPre.blind, fr_preOk hK hN hM hS hF hP hD hC hnd⟩ rfl hn hsz hst (lv_room hW) hdg hf) hS (fun q _ h => hF q h) hF (fun r' u t H1 locs1 ht hvm hw hB hz1 hk1 hS1 => ?_)
  obtain ⟨hw1, hw2⟩ := hw
  subst hw1
  rw [ht] at hB
  obtain ⟨hP1, hD1⟩ := fr_join hP hD hC (hCt.1 u) rfl hk1 hB
  exact kk u H1 locs1 hw2 hP1 hD1 hS1
theorem fr_Sx {L : Nat} {xs : Nat → Int32} (S : CallFix p m c cc nL s args Ts own) (hCt : CtX l D T Z y ws rm b L xs As r) (cw : CallB R s args own index y bytes maxL ret ws rm 0 0 n ∧ (Cond.static y).before args s = true)
    (hX : va_X b L xs s s.heap) (hbl : b < s.heap.size) (hbA : ¬ A b)
    (hK : va_K D vwCl (tyL T) s) (hN : nwOk s) (hM : amb Z A s s.heap) (hP : frP D fs H) (hD : va_D A fs.flatten) (hS : va_S A s.heap H locs) (hA : ∀ q, s.heap.size ≤ q → A q)
    (hn : As.length = n) (hsz : ls.size = nL) (hst : st = As.reverse ++ rest) (hW : (rest.map fun v => v.category).sum ≤ 8) (hdg : decode cc pc = .ok (.invokestatic index, 3)) (hf : cells ≤ R.cells ∧ slots ≤ R.slots)
    (kk : ∀ (H1 : Heap) (locs1 : List Loc), frP D fs H1 → va_D A fs.flatten → va_S A s.heap H1 locs1 → W p l e R s m args below meth c H1 locs1 cells slots Q (F0 m (pc + 3) ls (.int r :: rest))) : W p l e R s m args below meth c H locs cells slots Q (F0 m pc ls st) := by
  have hC : ([] : List Nat).map (fun i => fs[i]?) = ([] : List va_W).map some := rfl
  have hF := fr_free hD hS hA hC
  have hpre := fr_preOk (As := As) hK hN hM hS hF hP hD hC rfl
  refine va_calli (va_runS S (hCt H.size) cw ⟨frPreX.blind, fun U hU hW => ⟨(hpre U hU hW).1, (hpre U hU hW).2, by rw [hU]; exact (hX.kept (hS.2.1 b hbl hbA)).moved hW.alike⟩⟩ rfl hn hsz hst (lv_room hW) hdg hf) hS (fun q _ h => hF q h) hF (fun r' u t H1 locs1 ht hvm hw hB hz1 hk1 hS1 => ?_)
  subst hw
  rw [ht] at hB
  obtain ⟨hP1, hD1⟩ := fr_join hP hD hC (show frAdr ([] : List va_W) [] from rfl) rfl hk1 hB
  exact kk H1 locs1 hP1 hD1 hS1
theorem fr_Vf {r : UInt32} (S : CallFix p m c cc nL s args Ts own) (hCt : CtF l D T Z y ws rm cs (.ref b :: As) r cs') (cw : CallW R s args own q0.1 index y bytes maxL ret ws rm 0 0 n)
    (hK : va_K D vwCl (tyL T) s) (hN : nwOk s) (hM : amb Z A s s.heap) (hP : frP D fs H) (hD : va_D A fs.flatten) (hS : va_S A s.heap H locs) (hA : ∀ q, s.heap.size ≤ q → A q) (is : List Nat) (hC : is.map (fun i => fs[i]?) = cs.map some) (hnd : va_nd is = true) (hput : frPut fs is cs' = fs') (hc : vwCl[ci]? = some q0) (hi : fs[i0]? = some ((b, .inr (ci, vs)) :: tl))
    (hn : As.length = n) (hsz : ls.size = nL) (hst : st = As.reverse ++ .ref b :: rest) (hW : (rest.map fun v => v.category).sum ≤ 8) (hdg : decode cc pc = .ok (.invokevirtual index, 3)) (hf : cells ≤ R.cells ∧ slots ≤ R.slots)
    (kk : ∀ (H1 : Heap) (locs1 : List Loc), frP D fs' H1 → va_D A fs'.flatten → va_S A s.heap H1 locs1 → W p l e R s m args below meth c H1 locs1 cells slots Q (F0 m (pc + 3) ls (.float r :: rest))) : W p l e R s m args below meth c H locs cells slots Q (F0 m pc ls st) := by
  have hF := fr_free hD hS hA hC
  refine va_callf (va_runV S (hCt.2 H.size) cw ⟨frPre.blind, fr_recv hK hP hc hi, fr_preOk hK hN hM hS hF hP hD hC hnd⟩ rfl hn hsz hst (lv_room hW) hdg hf) hS (fun q _ h => hF q h) hF (fun r' u t H1 locs1 ht hvm hw hB hz1 hk1 hS1 => ?_)
  subst hw
  rw [ht] at hB
  obtain ⟨hP1, hD1⟩ := fr_join hP hD hC hCt.1 hput hk1 hB
  exact kk H1 locs1 hP1 hD1 hS1
end FRLK
theorem cntP_t {o : Nat → Int32} {k : Nat} (h : ps (o k) = true) : cntP o 0 (k + 1) = cntP o 0 k + 1 := by
  unfold cntP
  rw [cnt_s, if_pos (by rw [Nat.zero_add]; exact h)]
theorem cntP_f {o : Nat → Int32} {k : Nat} (h : ps (o k) = false) : cntP o 0 (k + 1) = cntP o 0 k + 0 := by
  unfold cntP
  rw [cnt_s, if_neg (by rw [Nat.zero_add, h]; exact Bool.false_ne_true)]
  rfl
theorem cntH_t {ν : NS} {i k : Nat} (h : canH ν (i + k) = true) : cntH ν i (k + 1) = cntH ν i k + 1 := by
  unfold cntH
  rw [cnt_s, if_pos h]
theorem cntH_f {ν : NS} {i k : Nat} (h : canH ν (i + k) = false) : cntH ν i (k + 1) = cntH ν i k + 0 := by
  unfold cntH
  rw [cnt_s, if_neg (by rw [h]; exact Bool.false_ne_true)]
  rfl
theorem cH_p {ν : NS} {k : Nat} (h : ps (ν 1 k) = false) : canH ν k = false := by unfold canH; rw [h]; rfl
theorem cH_m {ν : NS} {k : Nat} (h : bz (ν 9 (k / 4)) = false) : canH ν k = false := by unfold canH; rw [h, Bool.false_and, Bool.and_false]
theorem cH_s {ν : NS} {k : Nat} (h : ps (ν 4 k) = true) : canH ν k = false := by unfold canH; rw [h]; simp
theorem cH_t {ν : NS} {k : Nat} (h1 : ps (ν 1 k) = true) (h2 : bz (ν 9 (k / 4)) = true) (h3 : ps (ν 4 k) = false) : canH ν k = true := by unfold canH; rw [h1, h2, h3]; rfl
theorem ps_of {x : Int32} (h : x ≠ -6) : ps x = true := by unfold ps; rw [decide_eq_false h]; rfl
theorem ps_no {x : Int32} (h : x = -6) : ps x = false := by rw [h]; rfl
theorem zadd {ν : NS} {k : Nat} : canH ν (0 + k) = canH ν k := by rw [Nat.zero_add]
theorem arN_t {ν : NS} {k : Nat} (h1 : bz (ν 11 (k / 4)) = false) (h2 : ps (ν 7 k) = true) : arN ν (k + 1) = arN ν k ||| ((nI 1) <<< ((nI (k / 4)) &&& 31)) := by
  show arN ν k ||| (if arG ν k then _ else _) = _
  unfold arG
  rw [h1, h2]; rfl
theorem arN_p {ν : NS} {k : Nat} (h2 : ps (ν 7 k) = false) : arN ν (k + 1) = arN ν k ||| (nI 0) := by
  show arN ν k ||| (if arG ν k then _ else _) = _
  unfold arG
  rw [h2, Bool.and_false]; rfl
theorem arN_s {ν : NS} {k : Nat} (h1 : bz (ν 11 (k / 4)) = true) : arN ν (k + 1) = arN ν k ||| (nI 0) := by
  show arN ν k ||| (if arG ν k then _ else _) = _
  unfold arG
  rw [h1]; rfl
theorem bI_1t {b : Bool} (h : bI b = nI 1) : b = true := by cases b; exact absurd h (by decide); rfl
theorem bI_1f {b : Bool} (h : bI b ≠ nI 1) : b = false := by cases b; rfl; exact absurd rfl h
/-- a mark that is one -/
def mkB (ν : NS) (x y : Int32) : Bool := if x = -6 then decide (y = -6) else (!decide (x < 0) && (!decide (ν 15 0 ≤ x) && (!decide (y < 0) && !decide (nI 99 < y))))
theorem mkB_t {ν : NS} {z : Nat → Prop} {x y : Int32} (h : WH (ν 15 0) 20) (H : mk (tn (ν 15 0)) z x y) : mkB ν x y = true := by
  unfold mkB
  rcases H with ⟨e1, e2⟩ | ⟨j, i, e1, e2, h1, h2, -⟩
  · rw [if_pos e1]; exact decide_eq_true e2
  · have h20 := h.2
    have hj : j < 2 ^ 31 := by omega
    have hi : i < 2 ^ 31 := by omega
    have q1 : ¬ nI 99 < nI i := fun q => absurd ((nI_ltI (by decide) hi).mp q) (by omega)
    have q2 : ¬ ν 15 0 ≤ nI j := fun q => absurd ((nI_leI (by omega) hj).mp (show nI (tn (ν 15 0)) ≤ nI j from by rw [← h.1]; exact q)) (by omega)
    rw [if_neg (by rw [e1]; exact nI_n6 hj), e1, e2, decide_eq_false (nI_pos hj), decide_eq_false (nI_pos hi), decide_eq_false q1, decide_eq_false q2]
    rfl
theorem mk_src {ν : NS} {k : Nat} (H : PI ν) (hk : k < 32) (h1 : ν 1 k ≠ -6) (h2 : ¬ 0 < ν 2 k) : (if iN (ν 1 k) (tn (ν 15 0)) then ν 12 (tn (ν 1 k)) else -1) = nI k := by
  rcases (H.w hk).2 with ⟨e1, -⟩ | ⟨j, i, e1, e2, h3, h4, h5⟩
  · exact absurd e1 h1
  · have h20 := H.hi.2
    rw [e1, iN_n h3 (by omega), if_pos rfl, tn_nI (by omega)]
    refine h5 (Nat.eq_zero_of_not_pos (fun q => h2 ?_))
    rw [e2, ← nI_0]
    exact (nI_ltI (by decide) (by omega)).mpr q
theorem mk_hop {ν : NS} {k : Nat} (H : PI ν) (hk : k < 16) (h1 : ν 7 k ≠ -6) : ν 8 k = nI (tn (ν 8 k)) ∧ 1 ≤ tn (ν 8 k) ∧ tn (ν 8 k) ≤ 99 := by
  rcases (H.r hk).2 with ⟨e1, -⟩ | ⟨j, i, e1, e2, h3, h4, h5⟩
  · exact absurd e1 h1
  · rw [e2, tn_nI (by omega)]
    refine ⟨rfl, ?_, h4⟩
    rcases (show i = 0 ∨ 1 ≤ i by omega) with q | q
    · exact absurd (h5 q) id
    · exact q
theorem mk_hw {ν : NS} {k : Nat} (H : PI ν) (hk : k < 32) (h1 : ν 1 k ≠ -6) : ν 2 k = nI (tn (ν 2 k)) ∧ tn (ν 2 k) ≤ 99 := by
  rcases (H.w hk).2 with ⟨e1, -⟩ | ⟨j, i, e1, e2, h3, h4, h5⟩
  · exact absurd e1 h1
  · rw [e2, tn_nI (by omega)]
    exact ⟨rfl, h4⟩
theorem wid_ex {ν : NS} (H : PI ν) {k : Nat} (hk : k < tn (ν 15 0)) (h : 0 < carC ν k) : ∃ j, j < tn (ν 15 0) ∧ widC ν = nI j ∧ carC ν k ≤ carC ν j := by
  rcases wid_all H with ⟨-, e⟩ | ⟨j, h1, h2, -, h3⟩
  · exact absurd (e k hk) (by omega)
  · exact ⟨j, h1, h2, h3 k hk⟩
theorem wid_6 {ν : NS} (H : PI ν) (h : widC ν = -6) : cntP (ν 1) 0 32 + cntP (ν 7) 0 16 = 0 := by
  rw [← car_all H]
  rcases wid_all H with ⟨-, e⟩ | ⟨j, h1, h2, -, -⟩
  · exact sumC_0 _ _ e
  · have := H.hi.2
    exact absurd (h2.symm.trans h) (nI_n6 (by omega))
theorem wid_n6 {ν : NS} (H : PI ν) (h : widC ν ≠ -6) : 0 < cntP (ν 1) 0 32 + cntP (ν 7) 0 16 := by
  rw [← car_all H]
  rcases wid_all H with ⟨e, -⟩ | ⟨j, h1, -, h2, -⟩
  · exact absurd e h
  · exact Nat.pos_of_ne_zero (fun q => absurd (sumC_z _ _ q j h1) (by omega))
theorem add_0 (x : Int32) : x = x + (nI 0) := by rw [nI_0, Int32.add_zero]
theorem mk_hf {ν : NS} {w : Nat} (H : PI ν) (hw : w < 32) (h1 : ν 1 w ≠ -6) : ν 2 w = nI (tn (ν 2 w)) ∧ tn (ν 2 w) ≤ 99 := mk_hw H hw h1
