set_option maxHeartbeats 8000000 in
set_option maxRecDepth 100000 in
theorem amb_0 {s : State} {b : Nat} (hts : ∀ w ∈ lw_tbl, w.before #[Value.ref b] s = true) (hgv : (Jvm.Cond.and given_1 narrow_1).before #[Value.ref b] s = true) : ∃ Z : ZZ, amb Z (fun q => s.heap.size ≤ q) s s.heap := by
  have hs := flat_of_before _ hgv
  have hA : ∀ a : Nat, a < s.heap.size → ¬ (fun q : Nat => s.heap.size ≤ q) a := fun a h => Nat.not_le.mpr h
  have hex := am_hex hs
  have hco := am_hco hs
  have har := am_har hs
  have hle := am_hle hs
  have hel := am_hel hs
  have hne := am_hne hs
  obtain ⟨adK, adV, h1, h2⟩ := vk_Sof (args := #[Value.ref b]) (s := s) (N := 7) (tm := tmS) (len := slen) (byt := sbyt) (A := fun q => s.heap.size ≤ q) (by decide) hex hco har hle hel hne hA
  refine ⟨(adK, adV), h1, fun i hi => ?_, va_Zof (hts _ (List.mem_of_getElem? (i := 561) rfl)) (hts _ (List.mem_of_getElem? (i := 70) rfl)) (va_eqi (hs _ (List.mem_of_getElem? (i := 4) rfl))) hA, va_Zqof (hts _ (List.mem_of_getElem? (i := 577) rfl)) (hts _ (List.mem_of_getElem? (i := 72) rfl)) (hs _ (List.mem_of_getElem? (i := 5) rfl)) hA⟩
  have h3 := h2 i hi
  rcases (show i = 0 ∨ i = 1 ∨ i = 2 ∨ i = 3 ∨ i = 4 ∨ i = 5 ∨ i = 6 by omega) with rfl | rfl | rfl | rfl | rfl | rfl | rfl
  · exact vk_R.of (A := #[Value.ref b]) (hts _ (List.mem_of_getElem? (i := 541) rfl)) h3
  · exact vk_R.of (A := #[Value.ref b]) (hts _ (List.mem_of_getElem? (i := 542) rfl)) h3
  · exact vk_R.of (A := #[Value.ref b]) (hts _ (List.mem_of_getElem? (i := 543) rfl)) h3
  · exact vk_R.of (A := #[Value.ref b]) (hts _ (List.mem_of_getElem? (i := 544) rfl)) h3
  · exact vk_R.of (A := #[Value.ref b]) (hts _ (List.mem_of_getElem? (i := 545) rfl)) h3
  · exact vk_R.of (A := #[Value.ref b]) (hts _ (List.mem_of_getElem? (i := 546) rfl)) h3
  · exact vk_R.of (A := #[Value.ref b]) (hts _ (List.mem_of_getElem? (i := 547) rfl)) h3
