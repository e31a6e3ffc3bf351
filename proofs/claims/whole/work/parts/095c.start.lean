set_option maxHeartbeats 8000000 in
set_option maxRecDepth 100000 in
theorem am_hco {s : State} {b : Nat} (hs : ∀ w ∈ flatC (Jvm.Cond.and given_1 narrow_1), w.before #[Value.ref b] s = true) : ∀ i : Nat, i < 7 → (Cond.eq (.field (tmS i) "java/lang/String" "coder" "B") (.int 0)).before #[Value.ref b] s = true := by
    intro i hi
    rcases (show i = 0 ∨ i = 1 ∨ i = 2 ∨ i = 3 ∨ i = 4 ∨ i = 5 ∨ i = 6 by omega) with rfl | rfl | rfl | rfl | rfl | rfl | rfl
    · exact hs _ (List.mem_of_getElem? (i := 10) rfl)
    · exact hs _ (List.mem_of_getElem? (i := 18) rfl)
    · exact hs _ (List.mem_of_getElem? (i := 26) rfl)
    · exact hs _ (List.mem_of_getElem? (i := 37) rfl)
    · exact hs _ (List.mem_of_getElem? (i := 46) rfl)
    · exact hs _ (List.mem_of_getElem? (i := 55) rfl)
    · exact hs _ (List.mem_of_getElem? (i := 68) rfl)
