set_option maxHeartbeats 8000000 in
set_option maxRecDepth 100000 in
theorem am_hne {s : State} {b : Nat} (hs : ∀ w ∈ flatC (Jvm.Cond.and given_1 narrow_1), w.before #[Value.ref b] s = true) : ∀ i j : Nat, i < 7 → j < 7 → i ≠ j → (Cond.not (Cond.eq (tmS i) (tmS j))).before #[Value.ref b] s = true ∨ (Cond.not (Cond.eq (tmS j) (tmS i))).before #[Value.ref b] s = true := by
    have key : ∀ i j : Nat, i < j → j < 7 → (Cond.not (Cond.eq (tmS i) (tmS j))).before #[Value.ref b] s = true := by
      intro i j hij hj
      rcases (show i = 0 ∨ i = 1 ∨ i = 2 ∨ i = 3 ∨ i = 4 ∨ i = 5 by omega) with rfl | rfl | rfl | rfl | rfl | rfl
      · rcases (show j = 1 ∨ j = 2 ∨ j = 3 ∨ j = 4 ∨ j = 5 ∨ j = 6 by omega) with rfl | rfl | rfl | rfl | rfl | rfl
        · exact hs _ (List.mem_of_getElem? (i := 24) rfl)
        · exact hs _ (List.mem_of_getElem? (i := 34) rfl)
        · exact hs _ (List.mem_of_getElem? (i := 42) rfl)
        · exact hs _ (List.mem_of_getElem? (i := 50) rfl)
        · exact hs _ (List.mem_of_getElem? (i := 62) rfl)
        · exact hs _ (List.mem_of_getElem? (i := 71) rfl)
      · rcases (show j = 2 ∨ j = 3 ∨ j = 4 ∨ j = 5 ∨ j = 6 by omega) with rfl | rfl | rfl | rfl | rfl
        · exact hs _ (List.mem_of_getElem? (i := 35) rfl)
        · exact hs _ (List.mem_of_getElem? (i := 43) rfl)
        · exact hs _ (List.mem_of_getElem? (i := 51) rfl)
        · exact hs _ (List.mem_of_getElem? (i := 63) rfl)
        · exact hs _ (List.mem_of_getElem? (i := 72) rfl)
      · rcases (show j = 3 ∨ j = 4 ∨ j = 5 ∨ j = 6 by omega) with rfl | rfl | rfl | rfl
        · exact hs _ (List.mem_of_getElem? (i := 44) rfl)
        · exact hs _ (List.mem_of_getElem? (i := 52) rfl)
        · exact hs _ (List.mem_of_getElem? (i := 64) rfl)
        · exact hs _ (List.mem_of_getElem? (i := 73) rfl)
      · rcases (show j = 4 ∨ j = 5 ∨ j = 6 by omega) with rfl | rfl | rfl
        · exact hs _ (List.mem_of_getElem? (i := 53) rfl)
        · exact hs _ (List.mem_of_getElem? (i := 65) rfl)
        · exact hs _ (List.mem_of_getElem? (i := 74) rfl)
      · rcases (show j = 5 ∨ j = 6 by omega) with rfl | rfl
        · exact hs _ (List.mem_of_getElem? (i := 66) rfl)
        · exact hs _ (List.mem_of_getElem? (i := 75) rfl)
      · obtain rfl : j = 6 := by omega
        exact hs _ (List.mem_of_getElem? (i := 76) rfl)
    intro i j hi hj hij
    rcases Nat.lt_or_gt_of_ne hij with h | h
    · exact Or.inl (key i j h hj)
    · exact Or.inr (key j i h hi)
