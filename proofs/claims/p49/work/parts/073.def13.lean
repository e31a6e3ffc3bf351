/-! answers that are floats -/
def QcF (D : va_G) (fs' : List va_W) (r : UInt32) (A : Nat → Prop) : Array Value → State → Outcome → State → Prop := va_Qf (fun (r' : UInt32) (_ : Unit) => r' = r) (fun _ t => frP D fs' t.heap) A
def CtF (l : Launch) (D : va_G) (T : Nat → ClassId) (Z : ZZ) (y : MethodName) (ws : List Cond) (rm : Room) (fs : List va_W) (as : List Value) (r : UInt32) (fs' : List va_W) : Prop :=
  frAdr fs' fs ∧ ∀ sz : Nat, Met l y ws rm (va_Pc as (frPre D T Z fs sz)) (QcF D fs' r (va_A fs.flatten sz)) 0 0 (va_A fs.flatten sz)
theorem CtF.of {l : Launch} {D : va_G} {T : Nat → ClassId} {Z : ZZ} {y : MethodName} {ws ws' : List Cond} {rm : Room} {fs : List va_W} {as : List Value} {r : UInt32} {fs' : List va_W} {cc : ByteArray} {maxL : Nat} {ret : Option FieldType} (hy : plainFor y = true) (hw : ws = Cond.code y cc maxL ret :: ws') (hadr : frAdr fs' fs)
    (body : ∀ (p : Program) (e : Env) (s : State) (m : MethodId) (below : List Frame) (meth : Method) (c : Code) (A : Nat → Prop), Ent p s m meth c y ws as cc maxL ret →
      va_K D vwCl (tyL T) s → nwOk s → amb Z A s s.heap → frP D fs s.heap → va_D A fs.flatten → (∀ q, s.heap.size ≤ q → A q) →
      W p l e rm s m as.toArray below meth c s.heap [] 0 0 (MQ below (QcF D fs' r A) as.toArray s 0 0 A) (entryFrame m as.toArray maxL)) : CtF l D T Z y ws rm fs as r fs' := by
  refine ⟨hadr, fun sz => ?_⟩
  refine va_MetF (cc := cc) (maxL := maxL) (ret := ret) hy hw ?_
  intro p e s m args below meth c s₁ B hml hv
  obtain ⟨rfl, hsz, hP, hK, hN, hM, hD0⟩ := hv
  subst hsz
  exact body p e s m below meth c _ ⟨B.exec, B.bytes, B.returns, atoms_spec (ws := ws) B.pre, findClass_of_methodNamed B.named, hml, B.notSynchronized⟩ hK hN hM hP hD0.self (fun q h => Or.inr h)
theorem CtF.re {l : Launch} {D : va_G} {T : Nat → ClassId} {Z : ZZ} {y : MethodName} {ws : List Cond} {rm : Room} {fs fs' gs gs' : List va_W} {as : List Value} {r : UInt32} (h : CtF l D T Z y ws rm fs as r fs') (e : fs.flatten = gs.flatten) (e' : fs'.flatten = gs'.flatten) (hadr : frAdr gs' gs) : CtF l D T Z y ws rm gs as r gs' := by
  refine ⟨hadr, fun sz => ?_⟩
  have h1 := h.2 sz
  unfold frPre QcF frP at h1
  unfold frPre QcF frP
  rw [e, e'] at h1
  exact h1
section FR13
variable {p : Program} {l : Launch} {e : Env} {R : Room} {s : State} {m : MethodId} {args : Array Value} {below : List Frame} {meth : Method} {c : Code} {H : Heap} {locs : List Loc} {cells slots : Nat} {Q : State → Prop}
variable {cc : ByteArray} {pc : Nat} {ls : Array Slot} {rest : List Value} {D : va_G} {A : Nat → Prop} {a : Nat} {T : Nat → ClassId} {Z : ZZ} {fs : List va_W} {H0 : Heap}
theorem fr_fret {fs' : List va_W} {r v : UInt32} (hx : p.tables.exec = Jvm.exec) (hb : c.code = cc) (hr : meth.sig.returnType = some .float) (hlk : meth.locks = false) (hP : frP D fs H) (hS : va_S A s.heap H locs) (hv : v = r) (hf : fs = fs') (hdg : decode cc pc = .ok (.freturn, 1)) :
    W p l e R s m args below meth c H locs 0 0 (MQ below (QcF D fs' r A) args s 0 0 A) (F0 m pc ls [.float v]) := by
  subst hv; subst hf
  exact W.fret hx hb hr (fun t ht hW => ⟨⟨v, (), rfl, rfl, by show frP D fs t.heap; rw [ht]; exact hP⟩, hS.F ht⟩) hS.2.2 hdg hlk
end FR13
def shr (k : Nat) : UInt32 := FP.fdiv (FP.i2f (nI k)) 1107296256
theorem shr_n : ∀ k : Nat, k < 33 → vf_n32 (shr k) := by
  unfold vf_n32 shr
  decide +kernel
