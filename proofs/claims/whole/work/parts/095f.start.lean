set_option maxHeartbeats 8000000 in
set_option maxRecDepth 100000 in
theorem am_hel {s : State} {b : Nat} (hs : ∀ w ∈ flatC (Jvm.Cond.and given_1 narrow_1), w.before #[Value.ref b] s = true) : ∀ i : Nat, i < 7 → ∀ j : Nat, j < slen.getD i 0 → (Cond.eq (.elem (.field (tmS i) "java/lang/String" "value" "[B") (.int (Int32.ofNat j))) (.int ((sbyt.getD i []).getD j 0))).before #[Value.ref b] s = true := by
    intro i hi j hj
    rcases (show i = 0 ∨ i = 1 ∨ i = 2 ∨ i = 3 ∨ i = 4 ∨ i = 5 ∨ i = 6 by omega) with rfl | rfl | rfl | rfl | rfl | rfl | rfl
    · have hj : j < 4 := hj
      rcases (show j = 0 ∨ j = 1 ∨ j = 2 ∨ j = 3 by omega) with rfl | rfl | rfl | rfl
      · exact hs _ (List.mem_of_getElem? (i := 13) rfl)
      · exact hs _ (List.mem_of_getElem? (i := 14) rfl)
      · exact hs _ (List.mem_of_getElem? (i := 15) rfl)
      · exact hs _ (List.mem_of_getElem? (i := 16) rfl)
    · have hj : j < 3 := hj
      rcases (show j = 0 ∨ j = 1 ∨ j = 2 by omega) with rfl | rfl | rfl
      · exact hs _ (List.mem_of_getElem? (i := 21) rfl)
      · exact hs _ (List.mem_of_getElem? (i := 22) rfl)
      · exact hs _ (List.mem_of_getElem? (i := 23) rfl)
    · have hj : j < 5 := hj
      rcases (show j = 0 ∨ j = 1 ∨ j = 2 ∨ j = 3 ∨ j = 4 by omega) with rfl | rfl | rfl | rfl | rfl
      · exact hs _ (List.mem_of_getElem? (i := 29) rfl)
      · exact hs _ (List.mem_of_getElem? (i := 30) rfl)
      · exact hs _ (List.mem_of_getElem? (i := 31) rfl)
      · exact hs _ (List.mem_of_getElem? (i := 32) rfl)
      · exact hs _ (List.mem_of_getElem? (i := 33) rfl)
    · have hj : j < 2 := hj
      rcases (show j = 0 ∨ j = 1 by omega) with rfl | rfl
      · exact hs _ (List.mem_of_getElem? (i := 40) rfl)
      · exact hs _ (List.mem_of_getElem? (i := 41) rfl)
    · have hj : j < 1 := hj
      obtain rfl : j = 0 := by omega
      exact hs _ (List.mem_of_getElem? (i := 49) rfl)
    · have hj : j < 4 := hj
      rcases (show j = 0 ∨ j = 1 ∨ j = 2 ∨ j = 3 by omega) with rfl | rfl | rfl | rfl
      · exact hs _ (List.mem_of_getElem? (i := 58) rfl)
      · exact hs _ (List.mem_of_getElem? (i := 59) rfl)
      · exact hs _ (List.mem_of_getElem? (i := 60) rfl)
      · exact hs _ (List.mem_of_getElem? (i := 61) rfl)
    · exact absurd (show j < 0 from hj) (Nat.not_lt_zero j)
