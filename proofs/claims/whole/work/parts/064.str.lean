/-! answers that are a String constant; String's methods -/
def QcR (D : va_G) (fs' : List va_W) (ra : Nat) (A : Nat → Prop) : Array Value → State → Outcome → State → Prop := va_Qr (fun (_ : Unit) => True) (fun _ (a' : Nat) (t : State) => a' = ra ∧ frP D fs' t.heap) A
def CtR (l : Launch) (D : va_G) (T : Nat → ClassId) (Z : ZZ) (y : MethodName) (ws : List Cond) (rm : Room) (fs : List va_W) (as : List Value) (ra : Nat) (fs' : List va_W) : Prop :=
  frAdr fs' fs ∧ ∀ sz : Nat, Met l y ws rm (va_Pc as (frPre D T Z fs sz)) (QcR D fs' ra (va_A fs.flatten sz)) 0 0 (va_A fs.flatten sz)
theorem CtR.of {l : Launch} {D : va_G} {T : Nat → ClassId} {Z : ZZ} {y : MethodName} {ws ws' : List Cond} {rm : Room} {fs : List va_W} {as : List Value} {ra : Nat} {fs' : List va_W} {cc : ByteArray} {maxL : Nat} {ret : Option FieldType} (hy : plainFor y = true) (hw : ws = Cond.code y cc maxL ret :: ws') (hadr : frAdr fs' fs)
    (body : ∀ (p : Program) (e : Env) (s : State) (m : MethodId) (below : List Frame) (meth : Method) (c : Code) (A : Nat → Prop), Ent p s m meth c y ws as cc maxL ret →
      va_K D vwCl (tyL T) s → nwOk s → amb Z A s s.heap → frP D fs s.heap → va_D A fs.flatten → (∀ q, s.heap.size ≤ q → A q) →
      W p l e rm s m as.toArray below meth c s.heap [] 0 0 (MQ below (QcR D fs' ra A) as.toArray s 0 0 A) (entryFrame m as.toArray maxL)) : CtR l D T Z y ws rm fs as ra fs' := by
  refine ⟨hadr, fun sz => ?_⟩
  refine va_MetF (cc := cc) (maxL := maxL) (ret := ret) hy hw ?_
  intro p e s m args below meth c s₁ B hml hv
  obtain ⟨rfl, hsz, hP, hK, hN, hM, hD0⟩ := hv
  subst hsz
  exact body p e s m below meth c _ ⟨B.exec, B.bytes, B.returns, atoms_spec (ws := ws) B.pre, findClass_of_methodNamed B.named, hml, B.notSynchronized⟩ hK hN hM hP hD0.self (fun q h => Or.inr h)
section FR8
variable {p : Program} {l : Launch} {e : Env} {R : Room} {s : State} {m : MethodId} {args : Array Value} {below : List Frame} {meth : Method} {c : Code} {H : Heap} {locs : List Loc} {cells slots : Nat} {Q : State → Prop}
variable {cc : ByteArray} {pc : Nat} {ls : Array Slot} {rest : List Value} {D : va_G} {A : Nat → Prop} {a : Nat} {T : Nat → ClassId} {Z : ZZ} {fs : List va_W} {H0 : Heap}
theorem fr_aret {fs' : List va_W} {ra va : Nat} {n : String} (hx : p.tables.exec = Jvm.exec) (hb : c.code = cc) (hr : meth.sig.returnType = some (.object n)) (hlk : meth.locks = false) (hP : frP D fs H) (hS : va_S A s.heap H locs) (hv : va = ra) (hf : fs = fs') (hdg : decode cc pc = .ok (.areturn, 1)) :
    W p l e R s m args below meth c H locs 0 0 (MQ below (QcR D fs' ra A) args s 0 0 A) (F0 m pc ls [.ref va]) := by
  subst hv; subst hf
  exact W.aret hx hb hr (Or.inl ⟨n, rfl⟩) (Or.inr ⟨va, rfl⟩) (fun t ht hW => ⟨⟨(), va, rfl, trivial, rfl, by show frP D fs t.heap; rw [ht]; exact hP⟩, hS.F ht⟩) hS.2.2 hdg hlk
theorem fr_nret {fs' : List va_W} {ty : FieldType} {r v : Int32} (hx : p.tables.exec = Jvm.exec) (hb : c.code = cc) (hr : meth.sig.returnType = some ty) (hlk : meth.locks = false) (hP : frP D fs H) (hS : va_S A s.heap H locs) (hv : v = r) (hf : fs = fs') (hn : narrow ty (.int v) = .int v) (hdg : decode cc pc = .ok (.ireturn, 1)) :
    W p l e R s m args below meth c H locs 0 0 (MQ below (QcI D fs' r A) args s 0 0 A) (F0 m pc ls [.int v]) := by
  subst hv; subst hf
  exact W.zret hx hb hr hn (fun t ht hW => ⟨⟨v, (), rfl, rfl, by show frP D fs t.heap; rw [ht]; exact hP⟩, hS.F ht⟩) hS.2.2 hdg hlk
variable {y : MethodName} {bytes : ByteArray} {maxL nL n index : Nat} {ret : Option FieldType} {ws : List Cond} {rm : Room} {Ts : List Cond} {own C : String} {b : Nat} {As : List Value} {st : List Value} {r : Int32}
/-- a method of a cell that no world of ours has -/
theorem fr_VZ (S : CallFix p m c cc nL s args Ts own) (hCt : CtI l D T Z y ws rm [] (.ref b :: As) r []) (cw : CallW R s args own C index y bytes maxL ret ws rm 0 0 n) (hrec : ∃ cell : Cell, H[b]? = some cell ∧ cell.vm.isStatics = false ∧ s.vm.findClass C = some cell.cls)
    (hK : va_K D vwCl (tyL T) s) (hN : nwOk s) (hM : amb Z A s s.heap) (hP : frP D fs H) (hD : va_D A fs.flatten) (hS : va_S A s.heap H locs) (hA : ∀ q, s.heap.size ≤ q → A q)
    (hn : As.length = n) (hsz : ls.size = nL) (hst : st = As.reverse ++ .ref b :: rest) (hW : (rest.map fun v => v.category).sum ≤ 8) (hdg : decode cc pc = .ok (.invokevirtual index, 3)) (hf : cells ≤ R.cells ∧ slots ≤ R.slots)
    (kk : ∀ (H1 : Heap) (locs1 : List Loc), frP D fs H1 → va_D A fs.flatten → va_S A s.heap H1 locs1 → W p l e R s m args below meth c H1 locs1 cells slots Q (F0 m (pc + 3) ls (.int r :: rest))) : W p l e R s m args below meth c H locs cells slots Q (F0 m pc ls st) := by
  have hC : ([] : List Nat).map (fun i => fs[i]?) = ([] : List va_W).map some := rfl
  have hF := fr_free hD hS hA hC
  refine va_calli (va_runV S (hCt.2 H.size) cw ⟨frPre.blind, hrec, fr_preOk hK hN hM hS hF hP hD hC rfl⟩ rfl hn hsz hst (lv_room hW) hdg hf) hS (fun q _ h => hF q h) hF (fun r' u t H1 locs1 ht hvm hw hB hz1 hk1 hS1 => ?_)
  subst hw
  rw [ht] at hB
  obtain ⟨hP1, hD1⟩ := fr_join hP hD hC hCt.1 rfl hk1 hB
  exact kk H1 locs1 hP1 hD1 hS1
theorem fr_S0v (S : CallFix p m c cc nL s args Ts own) (hCt : CtV l D T Z y ws rm [] As []) (cw : CallB R s args own index y bytes maxL ret ws rm 0 0 n ∧ (Cond.static y).before args s = true)
    (hK : va_K D vwCl (tyL T) s) (hN : nwOk s) (hM : amb Z A s s.heap) (hP : frP D fs H) (hD : va_D A fs.flatten) (hS : va_S A s.heap H locs) (hA : ∀ q, s.heap.size ≤ q → A q)
    (hn : As.length = n) (hsz : ls.size = nL) (hst : st = As.reverse ++ rest) (hW : (rest.map fun v => v.category).sum ≤ 8) (hdg : decode cc pc = .ok (.invokestatic index, 3)) (hf : cells ≤ R.cells ∧ slots ≤ R.slots)
    (kk : ∀ (H1 : Heap) (locs1 : List Loc), frP D fs H1 → va_D A fs.flatten → va_S A s.heap H1 locs1 → W p l e R s m args below meth c H1 locs1 cells slots Q (F0 m (pc + 3) ls rest)) : W p l e R s m args below meth c H locs cells slots Q (F0 m pc ls st) := by
  have hC : ([] : List Nat).map (fun i => fs[i]?) = ([] : List va_W).map some := rfl
  have hF := fr_free hD hS hA hC
  refine va_callv (va_runS S (hCt.2 H.size) cw ⟨frPre.blind, fr_preOk hK hN hM hS hF hP hD hC rfl⟩ rfl hn hsz hst (lv_room hW) hdg hf) hS (fun q _ h => hF q h) hF (fun u t H1 locs1 ht hvm hw hB hz1 hk1 hS1 => ?_)
  rw [ht] at hB
  obtain ⟨hP1, hD1⟩ := fr_join hP hD hC hCt.1 rfl hk1 hB
  exact kk H1 locs1 hP1 hD1 hS1
theorem fr_S0r {ra : Nat} (S : CallFix p m c cc nL s args Ts own) (hCt : CtR l D T Z y ws rm [] As ra []) (cw : CallB R s args own index y bytes maxL ret ws rm 0 0 n ∧ (Cond.static y).before args s = true)
    (hK : va_K D vwCl (tyL T) s) (hN : nwOk s) (hM : amb Z A s s.heap) (hP : frP D fs H) (hD : va_D A fs.flatten) (hS : va_S A s.heap H locs) (hA : ∀ q, s.heap.size ≤ q → A q)
    (hn : As.length = n) (hsz : ls.size = nL) (hst : st = As.reverse ++ rest) (hW : (rest.map fun v => v.category).sum ≤ 8) (hdg : decode cc pc = .ok (.invokestatic index, 3)) (hf : cells ≤ R.cells ∧ slots ≤ R.slots)
    (kk : ∀ (H1 : Heap) (locs1 : List Loc), frP D fs H1 → va_D A fs.flatten → va_S A s.heap H1 locs1 → W p l e R s m args below meth c H1 locs1 cells slots Q (F0 m (pc + 3) ls (.ref ra :: rest))) : W p l e R s m args below meth c H locs cells slots Q (F0 m pc ls st) := by
  have hC : ([] : List Nat).map (fun i => fs[i]?) = ([] : List va_W).map some := rfl
  have hF := fr_free hD hS hA hC
  refine va_callr (va_runS S (hCt.2 H.size) cw ⟨frPre.blind, fr_preOk hK hN hM hS hF hP hD hC rfl⟩ rfl hn hsz hst (lv_room hW) hdg hf) hS (fun q _ h => hF q h) hF (fun u ra' t H1 locs1 ht hvm hw hB hz1 hk1 hS1 => ?_)
  obtain ⟨hB0, hB⟩ := hB
  subst hB0
  rw [ht] at hB
  obtain ⟨hP1, hD1⟩ := fr_join hP hD hC hCt.1 rfl hk1 hB
  exact kk H1 locs1 hP1 hD1 hS1
end FR8
def sch (i k : Nat) : Nat := ((sbyt.getD i []).getD k 0).toNatClampNeg
theorem slen_lt (i : Nat) (hi : i < 7) : slen.getD i 0 < 6 := (show ∀ j : Nat, j < 7 → slen.getD j 0 < 6 by decide) i hi
theorem sch_eq : ∀ i : Nat, i < 7 → ∀ k : Nat, k < slen.getD i 0 → (((((sbyt.getD i []).getD k 0) &&& nI 255).toUInt32 % 65536).toInt32 = nI (sch i k) ∧ narrow .char (.int (nI (sch i k))) = .int (nI (sch i k))) := by decide +kernel
