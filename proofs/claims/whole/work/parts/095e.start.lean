set_option maxHeartbeats 8000000 in
set_option maxRecDepth 100000 in
theorem am_hle {s : State} {b : Nat} (hs : ∀ w ∈ flatC (Jvm.Cond.and given_1 narrow_1), w.before #[Value.ref b] s = true) : ∀ i : Nat, i < 7 → (Cond.eq (.length (.field (tmS i) "java/lang/String" "value" "[B")) (.int (Int32.ofNat (slen.getD i 0)))).before #[Value.ref b] s = true := by
    intro i hi
    rcases (show i = 0 ∨ i = 1 ∨ i = 2 ∨ i = 3 ∨ i = 4 ∨ i = 5 ∨ i = 6 by omega) with rfl | rfl | rfl | rfl | rfl | rfl | rfl
    · exact hs _ (List.mem_of_getElem? (i := 12) rfl)
    · exact hs _ (List.mem_of_getElem? (i := 20) rfl)
    · exact hs _ (List.mem_of_getElem? (i := 28) rfl)
    · exact hs _ (List.mem_of_getElem? (i := 39) rfl)
    · exact hs _ (List.mem_of_getElem? (i := 48) rfl)
    · exact hs _ (List.mem_of_getElem? (i := 57) rfl)
    · exact hs _ (List.mem_of_getElem? (i := 70) rfl)
