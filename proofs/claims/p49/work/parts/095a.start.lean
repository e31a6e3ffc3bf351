/-! the start -/
theorem arr_cls {args : Array Value} {s : State} {ty : FieldType} (h : (Cond.arrayClass ty).before args s = true) : ∃ cA : ClassId, ArrOfT s cA ty ∧ s.vm.findClass ("[" ++ ty.toString) = some cA := by
  obtain ⟨c, k, comp, hf, hk, hkind⟩ := Cond.arrayClass_spec h
  exact ⟨c, fun n z => ⟨fun j hj => (by cases hj), k, hk, comp, hkind⟩, hf⟩
theorem arr_obj {s : State} {C : String} (h : va_AO C s) : ∃ cA : ClassId, ArrOfT s cA (.object C) ∧ va_RA s cA (.object C) := by
  obtain ⟨comp, c, k, h1, -, h3, h4, h5⟩ := Cond.arrayOver_spec (va_AO.use (A := #[]) h)
  exact ⟨c, fun n z => ⟨fun j hj => (by cases hj), k, h3, comp, h4⟩, ⟨k, comp, h3, h4, h1, h5⟩⟩
set_option maxHeartbeats 8000000 in
set_option maxRecDepth 100000 in
theorem cls_0 {s : State} {b : Nat} (hts : ∀ w ∈ lw_tbl, w.before #[Value.ref b] s = true) : ∃ D : va_G, ∀ (k : Nat) (q : vw_C), vwCl[k]? = some q → u_Kn s q.1 q.2.1 q.2.2 (D.1 k) (D.2 k) := by
  obtain ⟨c0, i0, h0⟩ := u_known (C := RX0) (T := TX0) (N := 3) (n := 3) hts inX0 (hts (.instantiable RX0 3) (List.mem_of_getElem? (i := 38) rfl))
  obtain ⟨c1, i1, h1⟩ := u_known (C := RX1) (T := TX1) (N := 3) (n := 3) hts inX1 (hts (.instantiable RX1 3) (List.mem_of_getElem? (i := 63) rfl))
  obtain ⟨c2, i2, h2⟩ := u_known (C := RX2) (T := TX2) (N := 3) (n := 3) hts inX2 (hts (.instantiable RX2 3) (List.mem_of_getElem? (i := 123) rfl))
  obtain ⟨c3, i3, h3⟩ := u_known (C := RX3) (T := TX3) (N := 10) (n := 10) hts inX3 (hts (.instantiable RX3 10) (List.mem_of_getElem? (i := 32) rfl))
  obtain ⟨c4, i4, h4⟩ := u_known (C := RX4) (T := TX4) (N := 6) (n := 6) hts inX4 (hts (.instantiable RX4 6) (List.mem_of_getElem? (i := 142) rfl))
  obtain ⟨c5, i5, h5⟩ := u_known (C := RX5) (T := TX5) (N := 5) (n := 5) hts inX5 (hts (.instantiable RX5 5) (List.mem_of_getElem? (i := 24) rfl))
  refine ⟨((fun k => match k with | 0 => c0 | 1 => c1 | 2 => c2 | 3 => c3 | 4 => c4 | _ => c5), (fun k => match k with | 0 => i0 | 1 => i1 | 2 => i2 | 3 => i3 | 4 => i4 | _ => i5)), ?_⟩
  intro k q hq
  match k, hq with
  | 0, hq => cases hq; exact h0
  | 1, hq => cases hq; exact h1
  | 2, hq => cases hq; exact h2
  | 3, hq => cases hq; exact h3
  | 4, hq => cases hq; exact h4
  | 5, hq => cases hq; exact h5
  | k + 6, hq => simp [vwCl] at hq
set_option maxHeartbeats 8000000 in
set_option maxRecDepth 100000 in
theorem typ_0 {s : State} {b : Nat} {D : va_G} (hts : ∀ w ∈ lw_tbl, w.before #[Value.ref b] s = true) (hQ : va_AO RX3 s) (hKc : ∀ (k : Nat) (q : vw_C), vwCl[k]? = some q → u_Kn s q.1 q.2.1 q.2.2 (D.1 k) (D.2 k)) : ∃ T : Nat → ClassId, va_K D vwCl (tyL T) s := by
  obtain ⟨c0, a0, b0⟩ := arr_cls (hts (.arrayClass .int) (List.mem_of_getElem? (i := 61) rfl))
  obtain ⟨c1, a1, b1⟩ := arr_cls (hts (.arrayClass .boolean) (List.mem_of_getElem? (i := 81) rfl))
  obtain ⟨c2, a2, b2⟩ := arr_cls (hts (.arrayClass .char) (List.mem_of_getElem? (i := 162) rfl))
  obtain ⟨c3, a3, b3⟩ := arr_obj hQ
  refine ⟨fun k => match k with | 0 => c0 | 1 => c1 | 2 => c2 | _ => c3, hKc, fun k q hq => ?_⟩
  match k, hq with
  | 0, hq => cases hq; exact ⟨a0, b0⟩
  | 1, hq => cases hq; exact ⟨a1, b1⟩
  | 2, hq => cases hq; exact ⟨a2, b2⟩
  | 3, hq => cases hq; exact ⟨a3, b3⟩
  | k + 4, hq => simp at hq
set_option maxHeartbeats 8000000 in
set_option maxRecDepth 100000 in
theorem nw_0 {s : State} {b : Nat} (hts : ∀ w ∈ lw_tbl, w.before #[Value.ref b] s = true) : nwOk s := by
  have h1 : ∀ q ∈ nwF, Cond.fieldLinkNest q.1 q.2.1 q.2.2.1 q.2.2.2.1 q.2.2.2.2.1 q.2.2.2.2.2 ∈ lw_tbl := List.forall_mem_cons.mpr ⟨(List.mem_of_getElem? (i := 83) rfl), List.forall_mem_cons.mpr ⟨(List.mem_of_getElem? (i := 48) rfl), List.forall_mem_cons.mpr ⟨(List.mem_of_getElem? (i := 50) rfl), List.forall_mem_cons.mpr ⟨(List.mem_of_getElem? (i := 53) rfl), List.forall_mem_cons.mpr ⟨(List.mem_of_getElem? (i := 85) rfl), List.forall_mem_cons.mpr ⟨(List.mem_of_getElem? (i := 87) rfl), List.forall_mem_cons.mpr ⟨(List.mem_of_getElem? (i := 90) rfl), List.forall_mem_cons.mpr ⟨(List.mem_of_getElem? (i := 92) rfl), List.forall_mem_cons.mpr ⟨(List.mem_of_getElem? (i := 98) rfl), List.forall_mem_cons.mpr ⟨(List.mem_of_getElem? (i := 94) rfl), List.forall_mem_cons.mpr ⟨(List.mem_of_getElem? (i := 96) rfl), List.forall_mem_cons.mpr ⟨(List.mem_of_getElem? (i := 73) rfl), List.forall_mem_cons.mpr ⟨(List.mem_of_getElem? (i := 71) rfl), List.forall_mem_cons.mpr ⟨(List.mem_of_getElem? (i := 69) rfl), List.forall_mem_cons.mpr ⟨(List.mem_of_getElem? (i := 100) rfl), List.forall_mem_cons.mpr ⟨(List.mem_of_getElem? (i := 47) rfl), List.forall_mem_cons.mpr ⟨(List.mem_of_getElem? (i := 51) rfl), fun _ h => absurd h List.not_mem_nil⟩⟩⟩⟩⟩⟩⟩⟩⟩⟩⟩⟩⟩⟩⟩⟩⟩
  have h2 : ∀ q ∈ nwM, Cond.methodLinkNest q.1 q.2.1 q.2.2.1 q.2.2.2 ∈ lw_tbl := List.forall_mem_cons.mpr ⟨(List.mem_of_getElem? (i := 33) rfl), List.forall_mem_cons.mpr ⟨(List.mem_of_getElem? (i := 143) rfl), List.forall_mem_cons.mpr ⟨(List.mem_of_getElem? (i := 253) rfl), List.forall_mem_cons.mpr ⟨(List.mem_of_getElem? (i := 549) rfl), List.forall_mem_cons.mpr ⟨(List.mem_of_getElem? (i := 557) rfl), List.forall_mem_cons.mpr ⟨(List.mem_of_getElem? (i := 590) rfl), List.forall_mem_cons.mpr ⟨(List.mem_of_getElem? (i := 130) rfl), List.forall_mem_cons.mpr ⟨(List.mem_of_getElem? (i := 321) rfl), List.forall_mem_cons.mpr ⟨(List.mem_of_getElem? (i := 64) rfl), List.forall_mem_cons.mpr ⟨(List.mem_of_getElem? (i := 312) rfl), List.forall_mem_cons.mpr ⟨(List.mem_of_getElem? (i := 336) rfl), List.forall_mem_cons.mpr ⟨(List.mem_of_getElem? (i := 386) rfl), List.forall_mem_cons.mpr ⟨(List.mem_of_getElem? (i := 402) rfl), List.forall_mem_cons.mpr ⟨(List.mem_of_getElem? (i := 425) rfl), List.forall_mem_cons.mpr ⟨(List.mem_of_getElem? (i := 434) rfl), List.forall_mem_cons.mpr ⟨(List.mem_of_getElem? (i := 443) rfl), List.forall_mem_cons.mpr ⟨(List.mem_of_getElem? (i := 464) rfl), List.forall_mem_cons.mpr ⟨(List.mem_of_getElem? (i := 467) rfl), fun _ h => absurd h List.not_mem_nil⟩⟩⟩⟩⟩⟩⟩⟩⟩⟩⟩⟩⟩⟩⟩⟩⟩⟩
  exact ⟨fun q hq => va_Nw.of rfl (hts _ (h1 q hq)), fun q hq => va_Nw.of rfl (hts _ (h2 q hq))⟩
theorem fl_bl {T : Nat → ClassId} {bd : Nat → Nat} {β : NS} {fs gs : List va_W} : (fs ++ blF T bd β ++ gs).flatten = (fs ++ [blW T bd β] ++ gs).flatten := by simp [blW]
theorem fr_bl {D : va_G} {T : Nat → ClassId} {bd : Nat → Nat} {β : NS} {fs gs : List va_W} {H : Heap} (h : frP D (fs ++ blF T bd β ++ gs) H) : frP D (fs ++ [blW T bd β] ++ gs) H := by
  unfold frP at h ⊢
  rw [← fl_bl]; exact h
theorem fd_bl {A : Nat → Prop} {T : Nat → ClassId} {bd : Nat → Nat} {β : NS} {fs gs : List va_W} (h : va_D A (fs ++ blF T bd β ++ gs).flatten) : va_D A (fs ++ [blW T bd β] ++ gs).flatten := by
  rw [← fl_bl]; exact h
