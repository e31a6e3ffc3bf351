/-! the law's own rows -/
theorem stW_m {T : Nat → ClassId} {ad : Nat → Nat} {ν : NS} {w : va_W} : (stF T ad ν ++ [w]).flatten = [stW T ad ν, w].flatten := by simp [stW]
/-- what stands all the time: the machine, the code, the words, the script -/
def LC (p : Program) (s : State) (m : MethodId) (c : Code) (b L : Nat) (xs : Nat → Int32) (D : va_G) (T : Nat → ClassId) (Z : ZZ) : Prop :=
  p.tables.exec = Jvm.exec ∧ c.code = code ∧ c.maxLocals = 8 ∧ s.vm.findClass RL = some m.cls ∧ (∀ w ∈ wsL_law, w.before #[Value.ref b] s = true) ∧ va_K D vwCl (tyL T) s ∧ nwOk s ∧ amb Z (fun q => s.heap.size ≤ q) s s.heap ∧ va_X b L xs s s.heap ∧ b < s.heap.size ∧ L ≤ 3072
section FRL
variable {p : Program} {l : Launch} {e : Env} {R : Room} {s : State} {m : MethodId} {args : Array Value} {below : List Frame} {meth : Method} {c : Code} {H : Heap} {locs : List Loc} {cells slots : Nat} {Q : State → Prop}
variable {cc : ByteArray} {pc : Nat} {ls : Array Slot} {rest : List Value} {D : va_G} {A : Nat → Prop} {a : Nat} {T : Nat → ClassId} {Z : ZZ} {fs : List va_W} {H0 : Heap}
theorem fr_sld {b L : Nat} {xs : Nat → Int32} (k : Nat) (hx : p.tables.exec = Jvm.exec) (hb : c.code = cc) (hX : va_X b L xs s H0) (hbl : b < H0.size) (hbA : ¬ A b) (hS : va_S A H0 H locs) (hk : k < L) (hL : L ≤ 3072) (hdg : decode cc pc = .ok (.iaload, 1))
    (kk : W p l e R s m args below meth c H locs cells slots Q (F0 m (pc + 1) ls (.int (xs k) :: rest))) : W p l e R s m args below meth c H locs cells slots Q (F0 m pc ls (.int (nI k) :: .ref b :: rest)) := by
  refine va_sld hx hb hX hbl hbA hS (fun z => ?_) hdg ?_
  · rcases z with z | z
    · exact nI_pos (by omega) z
    · rw [nI_clamp (by omega)] at z; omega
  · rw [nI_clamp (by omega)]; exact kk
variable {y : MethodName} {bytes : ByteArray} {maxL nL n index : Nat} {ret : Option FieldType} {ws : List Cond} {rm : Room} {Ts : List Cond} {own C : String} {b : Nat} {As : List Value} {st : List Value} {cs cs' fs' : List va_W} {r : UInt32} {i0 ci : Nat} {q0 : vw_C} {vs : List Value} {tl : va_W}
theorem fr_Vf (S : CallFix p m c cc nL s args Ts own) (hCt : CtF l D T Z y ws rm cs (.ref b :: As) r cs') (cw : CallW R s args own q0.1 index y bytes maxL ret ws rm 0 0 n)
    (hK : va_K D vwCl (tyL T) s) (hN : nwOk s) (hM : amb Z A s s.heap) (hP : frP D fs H) (hD : va_D A fs.flatten) (hS : va_S A s.heap H locs) (hA : ∀ q, s.heap.size ≤ q → A q) (is : List Nat) (hC : is.map (fun i => fs[i]?) = cs.map some) (hnd : va_nd is = true) (hput : frPut fs is cs' = fs') (hc : vwCl[ci]? = some q0) (hi : fs[i0]? = some ((b, .inr (ci, vs)) :: tl))
    (hn : As.length = n) (hsz : ls.size = nL) (hst : st = As.reverse ++ .ref b :: rest) (hW : (rest.map fun v => v.category).sum ≤ 8) (hdg : decode cc pc = .ok (.invokevirtual index, 3)) (hf : cells ≤ R.cells ∧ slots ≤ R.slots)
    (kk : ∀ (H1 : Heap) (locs1 : List Loc), frP D fs' H1 → va_D A fs'.flatten → va_S A s.heap H1 locs1 → W p l e R s m args below meth c H1 locs1 cells slots Q (F0 m (pc + 3) ls (.float r :: rest))) : W p l e R s m args below meth c H locs cells slots Q (F0 m pc ls st) := by
  have hF := fr_free hD hS hA hC
  refine va_callf (va_runV S (hCt.2 H.size) cw ⟨frPre.blind, fr_recv hK hP hc hi, fr_preOk hK hN hM hS hF hP hD hC hnd⟩ rfl hn hsz hst (lv_room hW) hdg hf) hS (fun q _ h => hF q h) hF (fun r' u t H1 locs1 ht hvm hw hB hz1 hk1 hS1 => ?_)
  subst hw
  rw [ht] at hB
  obtain ⟨hP1, hD1⟩ := fr_join hP hD hC hCt.1 hput hk1 hB
  exact kk H1 locs1 hP1 hD1 hS1
end FRL
theorem shr_d : ∀ k : Nat, k < 33 → vf_n64 (FP.f2d (shr k)) ∧ Op.cmpValue (FP.dcmp (FP.f2d (shr k)) (FP.f2d (shr k))) .l = 0 := by
  unfold vf_n64 shr
  decide +kernel
/-- the end of a script -/
theorem last_6 {L i : Nat} (hL : L ≤ 3072) (hi : i ≤ L + 6) : nI L - nI 6 < nI i ↔ L < i + 6 := by
  rw [Int32.lt_iff_toInt_lt, pk_sub_toInt (by omega) (by decide), nI_toInt (by omega)]
  omega
theorem LI.run2 {ν : NS} {od ct : Nat} {π : Nat → NS} {σ : MS} {ch : Nat → Nat} {len : Nat} {q : Q4} {p kd le : Nat} {nu : Nat → Nat} (h : LI ν od ct π σ ch len q p) :
    LI (if (fF ch len 90 kd (0, q.2)).1 = -6 then (cR ch len 90 ν (fF ch len 90 kd (0, q.2)).2.1 (0, (fF ch len 90 kd (0, q.2)).2.2.2) 0).2.1 else ν)
      (if (fF ch len 90 kd (0, q.2)).1 = -6 then setO (nI (cR ch len 90 ν (fF ch len 90 kd (0, q.2)).2.1 (0, (fF ch len 90 kd (0, q.2)).2.2.2) 0).1) od ct else od)
      (if (fF ch len 90 kd (0, q.2)).1 = -6 then setC (nI (cR ch len 90 ν (fF ch len 90 kd (0, q.2)).2.1 (0, (fF ch len 90 kd (0, q.2)).2.2.2) 0).1) ct else ct)
      (fun k => if (fF ch len 90 kd (0, q.2)).1 = -6 then updP π ((od + ct) % 5) ν k else π k)
      (if (ixT ch len 91 0 le nu).1 then mAcc (rU ch len (sumI (stT (mCp σ 0 5) 1560) 4) 91 (mCp σ 0 5) 0 (ixT ch len 91 0 le nu).2.2.1 (ixT ch len 91 0 le nu).2.2.2 (-6) 0).2.2.1 ct (nI (rU ch len (sumI (stT (mCp σ 0 5) 1560) 4) 91 (mCp σ 0 5) 0 (ixT ch len 91 0 le nu).2.2.1 (ixT ch len 91 0 le nu).2.2.2 (-6) 0).2.1) else σ) ch len
      (if (fF ch len 90 kd (0, q.2)).1 = -6 then (cR ch len 90 ν (fF ch len 90 kd (0, q.2)).2.1 (0, (fF ch len 90 kd (0, q.2)).2.2.2) 0).2.2.2 else (fF ch len 90 kd (0, q.2)).2.2)
      (if (ixT ch len 91 0 le nu).1 then (rU ch len (sumI (stT (mCp σ 0 5) 1560) 4) 91 (mCp σ 0 5) 0 (ixT ch len 91 0 le nu).2.2.1 (ixT ch len 91 0 le nu).2.2.2 (-6) 0).2.2.2.1 else (ixT ch len 91 0 le nu).2.1) ∧
    (if (ixT ch len 91 0 le nu).1 then nAcc ct (nI (rU ch len (sumI (stT (mCp σ 0 5) 1560) 4) 91 (mCp σ 0 5) 0 (ixT ch len 91 0 le nu).2.2.1 (ixT ch len 91 0 le nu).2.2.2 (-6) 0).2.1) else ct) = (if (fF ch len 90 kd (0, q.2)).1 = -6 then setC (nI (cR ch len 90 ν (fF ch len 90 kd (0, q.2)).2.1 (0, (fF ch len 90 kd (0, q.2)).2.2.2) 0).1) ct else ct) ∧
    (if (fF ch len 90 kd (0, q.2)).1 = -6 then nI (cR ch len 90 ν (fF ch len 90 kd (0, q.2)).2.1 (0, (fF ch len 90 kd (0, q.2)).2.2.2) 0).1 else -3) = (if (ixT ch len 91 0 le nu).1 then nI (rU ch len (sumI (stT (mCp σ 0 5) 1560) 4) 91 (mCp σ 0 5) 0 (ixT ch len 91 0 le nu).2.2.1 (ixT ch len 91 0 le nu).2.2.2 (-6) 0).2.1 else -3) := by
  have f6 := fF_6 (ch := ch) (q := q) (kd := kd) (le := le) (nu := nu) h.2.2.1
  by_cases hX : (ixT ch len 91 0 le nu).1 = true
  · have hF := f6.mpr hX
    simp only [if_pos hX, if_pos hF]
    exact h.run (kd := kd) hX (fF_pc 90 kd (0, q.2) h.2.2.2.2.1)
  · have hF : ¬ (fF ch len 90 kd (0, q.2)).1 = -6 := fun z => hX (f6.mp z)
    simp only [if_neg hX, if_neg hF]
    exact ⟨(h.flt (kd := kd) (le := le) (nu := nu)).1, trivial, trivial⟩
theorem LI.stp2 {ν : NS} {od ct : Nat} {π : Nat → NS} {σ : MS} {ch : Nat → Nat} {len : Nat} {q : Q4} {p kd le : Nat} {nu : Nat → Nat} (h : LI ν od ct π σ ch len q p) :
    LI ν od ct π (if (ixT ch len 91 0 le nu).1 then (rU ch len (sumI (stT (mCp σ 0 5) 1560) 4) 91 (mCp σ 0 5) 0 (ixT ch len 91 0 le nu).2.2.1 (ixT ch len 91 0 le nu).2.2.2 (-6) 0).2.2.1 else σ) ch len
      (if (fF ch len 90 kd (0, q.2)).1 = -6 then (cS ch len (cntB (ν 11) 4) 90 ν (fF ch len 90 kd (0, q.2)).2.1 (0, (fF ch len 90 kd (0, q.2)).2.2.2) 0).2.2.2 else (fF ch len 90 kd (0, q.2)).2.2)
      (if (ixT ch len 91 0 le nu).1 then (rU ch len (sumI (stT (mCp σ 0 5) 1560) 4) 91 (mCp σ 0 5) 0 (ixT ch len 91 0 le nu).2.2.1 (ixT ch len 91 0 le nu).2.2.2 (-6) 0).2.2.2.1 else (ixT ch len 91 0 le nu).2.1) ∧
    (if (fF ch len 90 kd (0, q.2)).1 = -6 then (cS ch len (cntB (ν 11) 4) 90 ν (fF ch len 90 kd (0, q.2)).2.1 (0, (fF ch len 90 kd (0, q.2)).2.2.2) 0).1 else -3) = (if (ixT ch len 91 0 le nu).1 then (rU ch len (sumI (stT (mCp σ 0 5) 1560) 4) 91 (mCp σ 0 5) 0 (ixT ch len 91 0 le nu).2.2.1 (ixT ch len 91 0 le nu).2.2.2 (-6) 0).1 else -3) := by
  have f6 := fF_6 (ch := ch) (q := q) (kd := kd) (le := le) (nu := nu) h.2.2.1
  by_cases hX : (ixT ch len 91 0 le nu).1 = true
  · have hF := f6.mpr hX
    simp only [if_pos hX, if_pos hF]
    exact h.stp (kd := kd) hX (fF_pc 90 kd (0, q.2) h.2.2.2.2.1)
  · have hF : ¬ (fF ch len 90 kd (0, q.2)).1 = -6 := fun z => hX (f6.mp z)
    simp only [if_neg hX, if_neg hF]
    exact ⟨(h.flt (kd := kd) (le := le) (nu := nu)).1, trivial⟩
