set_option maxHeartbeats 8000000 in
set_option maxRecDepth 100000 in
theorem am_har {s : State} {b : Nat} (hs : ∀ w ∈ flatC (Jvm.Cond.and given_1 narrow_1), w.before #[Value.ref b] s = true) : ∀ i : Nat, i < 7 → (Cond.arrayOf (.field (tmS i) "java/lang/String" "value" "[B") .byte).before #[Value.ref b] s = true := by
    intro i hi
    rcases (show i = 0 ∨ i = 1 ∨ i = 2 ∨ i = 3 ∨ i = 4 ∨ i = 5 ∨ i = 6 by omega) with rfl | rfl | rfl | rfl | rfl | rfl | rfl
    · exact hs _ (List.mem_of_getElem? (i := 11) rfl)
    · exact hs _ (List.mem_of_getElem? (i := 19) rfl)
    · exact hs _ (List.mem_of_getElem? (i := 27) rfl)
    · exact hs _ (List.mem_of_getElem? (i := 38) rfl)
    · exact hs _ (List.mem_of_getElem? (i := 47) rfl)
    · exact hs _ (List.mem_of_getElem? (i := 56) rfl)
    · exact hs _ (List.mem_of_getElem? (i := 69) rfl)
