set_option maxHeartbeats 8000000 in
set_option maxRecDepth 100000 in
theorem lc_6 (l : Launch) (pP : Program) (eE : Env) (s : State) (mM : MethodId) (bW : List Frame) (mE : Method) (cC : Code) (b L : Nat) (xs : Nat → Int32) (D : va_G) (T : Nat → ClassId) (Z : ZZ) (AD : Nat → Nat → Nat) (md : Nat → Nat) (i : Nat) (hi9 : i + 6 ≤ L) (hC : LC pP s mM cC b L xs D T Z) (hn9 : LWat l pP eE s mM bW mE cC b L xs D T Z AD md i 1526) : LWat l pP eE s mM bW mE cC b L xs D T Z AD md i 446 := by
  obtain ⟨hx, hb, hml, hown, hts, hK, hN, hM, hX, hbl, hL⟩ := hC
  have hA : ∀ q : Nat, s.heap.size ≤ q → (fun q : Nat => s.heap.size ≤ q) q := fun _ h => h
  have hbA : ¬ (fun q : Nat => s.heap.size ≤ q) b := Nat.not_le.mpr hbl
  intro ν od ct π τ β ch len kd q p le σ nu ρ n ch2 len2 hI hn hch hlen H locs hP hD hS ls hl
  subst hn; subst hch; subst hlen
  refine lv_aload_n hx hb dL_law_446 rfl (lv_at hl 1 rfl) ?_
  refine lv_aload_n hx hb dL_law_447 rfl (lv_at hl 0 rfl) ?_
  refine lv_iload_n hx hb dL_law_448 rfl (lv_at hl 3 rfl) ?_
  refine lv_iconst (v := nI 1) hx hb dL_law_449 (by decide) ?_
  refine fr_iadd (i) (1) hx hb dL_law_450 ?_
  refine fr_sld (i + 1) hx hb hX hbl hbA hS (by omega) hL dL_law_451 ?_
  refine fr_Vi (As := [.int (xs (i + 1))]) (rest := []) (fs' := [[(((AD 8) 0), .inr (5, [.ref ((AD 0) 0), .ref ((AD 1) 0), .ref ((AD 8) 1), .ref ((AD 9) 0), .ref ((AD 7) 0)]))], stW T (AD 0) (s_res ν (xs (i + 1))), stW T (AD 1) τ, [(((AD 8) 1), .inr (2, [.ref ((AD 8) 2), .int (nI (setO (r_res ν (xs (i + 1))) od ct)), .int (nI (setC (r_res ν (xs (i + 1))) ct))]))], [(((AD 8) 2), .inl (T 3, 5, .inr (.inr (.inr (.inr (plA AD))))))], stW T (AD 2) (updP π ((od + ct) % 5) ν 0), stW T (AD 3) (updP π ((od + ct) % 5) ν 1), stW T (AD 4) (updP π ((od + ct) % 5) ν 2), stW T (AD 5) (updP π ((od + ct) % 5) ν 3), stW T (AD 6) (updP π ((od + ct) % 5) ν 4), [(((AD 9) 0), .inr (4, [.ref ((AD 9) 1), .int (nI (len)), .int (nI (q.1)), .int (nI (kd)), .ref ((AD 9) 2), .int (nI (q.2.2))]))], [(((AD 9) 1), .inl (T 2, 90, .inl (nf ch)))], [(((AD 9) 2), .inl (T 0, 5, .inl (nf q.2.1)))], blW T (AD 7) β, [((md 0), .inr (6, [.ref (md 1), .int (nI (ct)), .ref (md 2), .int (nI (len)), .int (nI (p)), .int (nI (le)), .ref (md 3), .ref (md 4)]))], [((md 1), .inl (T 0, 1872, .inl (σ)))], [((md 2), .inl (T 0, 90, .inl (nf ch)))], [((md 3), .inl (T 0, 5, .inl (nf nu)))], [((md 4), .inl (T 0, 48, .inl (ρ)))]]) (ci := 5) (q0 := (RX5, TX5, 5)) (i0 := 0) ⟨hx, hb, hml, hown, hts⟩ (kX5_restart l D T Z AD od ct π ν (xs (i + 1)) hI.1.2.2.1 hI.1.2.2.2) (cwV 1 hts gL_law_X5_restart rfl rfl rfl (by decide +kernel) ⟨Nat.le_of_ble_eq_true rfl, Nat.le_of_ble_eq_true rfl⟩) hK hN hM hP hD hS hA [0, 3, 4, 5, 6, 7, 8, 9, 1] rfl rfl rfl rfl rfl rfl hl.1 rfl (Nat.le_of_ble_eq_true rfl) dL_law_452 ⟨Nat.le_of_ble_eq_true rfl, Nat.le_of_ble_eq_true rfl⟩ (fun H locs hP hD hS => ?_)
  refine lv_aload_n hx hb dL_law_455 rfl (lv_at hl 2 rfl) ?_
  refine lv_aload_n hx hb dL_law_456 rfl (lv_at hl 0 rfl) ?_
  refine lv_iload_n hx hb dL_law_457 rfl (lv_at hl 3 rfl) ?_
  refine lv_iconst (v := nI 1) hx hb dL_law_458 (by decide) ?_
  refine fr_iadd (i) (1) hx hb dL_law_459 ?_
  refine fr_sld (i + 1) hx hb hX hbl hbA hS (by omega) hL dL_law_460 ?_
  refine fr_Vi (As := [.int (xs (i + 1))]) (rest := [.int (r_res ν (xs (i + 1)))]) (fs' := [[(((AD 8) 0), .inr (5, [.ref ((AD 0) 0), .ref ((AD 1) 0), .ref ((AD 8) 1), .ref ((AD 9) 0), .ref ((AD 7) 0)]))], stW T (AD 0) (s_res ν (xs (i + 1))), stW T (AD 1) τ, [(((AD 8) 1), .inr (2, [.ref ((AD 8) 2), .int (nI (setO (r_res ν (xs (i + 1))) od ct)), .int (nI (setC (r_res ν (xs (i + 1))) ct))]))], [(((AD 8) 2), .inl (T 3, 5, .inr (.inr (.inr (.inr (plA AD))))))], stW T (AD 2) (updP π ((od + ct) % 5) ν 0), stW T (AD 3) (updP π ((od + ct) % 5) ν 1), stW T (AD 4) (updP π ((od + ct) % 5) ν 2), stW T (AD 5) (updP π ((od + ct) % 5) ν 3), stW T (AD 6) (updP π ((od + ct) % 5) ν 4), [(((AD 9) 0), .inr (4, [.ref ((AD 9) 1), .int (nI (len)), .int (nI (q.1)), .int (nI (kd)), .ref ((AD 9) 2), .int (nI (q.2.2))]))], [(((AD 9) 1), .inl (T 2, 90, .inl (nf ch)))], [(((AD 9) 2), .inl (T 0, 5, .inl (nf q.2.1)))], blW T (AD 7) β, [((md 0), .inr (6, [.ref (md 1), .int (nI (mAN (iN (xs (i + 1)) 4) ct (sumI (resG (mCp σ 0 5) 1560 (tn (xs (i + 1)))) 4))), .ref (md 2), .int (nI (len)), .int (nI (p)), .int (nI (le)), .ref (md 3), .ref (md 4)]))], [((md 1), .inl (T 0, 1872, .inl (mAS (iN (xs (i + 1)) 4) (upd (resM (mCp σ 0 5) 1560 (tn (xs (i + 1))) 4) (1560 + 252 + tn (xs (i + 1))) (nI 0)) ct (sumI (resG (mCp σ 0 5) 1560 (tn (xs (i + 1)))) 4) σ)))], [((md 2), .inl (T 0, 90, .inl (nf ch)))], [((md 3), .inl (T 0, 5, .inl (nf nu)))], [((md 4), .inl (T 0, 48, .inl (ρ)))]]) (ci := 6) (q0 := (RX6, TX6, 8)) (i0 := 14) ⟨hx, hb, hml, hown, hts⟩ (kX6_restart l D T Z md ct len p le σ (xs (i + 1)) hI.1.2.2.2) (cwV 1 hts gL_law_X6_restart rfl rfl rfl (by decide +kernel) ⟨Nat.le_of_ble_eq_true rfl, Nat.le_of_ble_eq_true rfl⟩) hK hN hM hP hD hS hA [14, 15] rfl rfl rfl rfl rfl rfl hl.1 rfl (Nat.le_of_ble_eq_true rfl) dL_law_461 ⟨Nat.le_of_ble_eq_true rfl, Nat.le_of_ble_eq_true rfl⟩ (fun H locs hP hD hS => ?_)
  have hE8 := hI.act (A_res (t := xs (i + 1)) (RP_begin hI.1.1))
  have hE9 := hE8.2.2
  refine lv_icmp_eq (tgt := 1526) hx hb dL_law_464 (by decide) (fun _ => ?_) (fun z => absurd hE9 z)
  exact hn9 _ _ _ (updP π ((od + ct) % 5) ν) _ _ _ _ _ _ _ _ _ _ _ _ _ _ hE8.1 hE8.2.1.symm rfl rfl _ _ hP hD hS ls (lv_sub hl [0, 1, 2, 3] rfl)

set_option maxHeartbeats 8000000 in
set_option maxRecDepth 100000 in
theorem lc_7 (l : Launch) (pP : Program) (eE : Env) (s : State) (mM : MethodId) (bW : List Frame) (mE : Method) (cC : Code) (b L : Nat) (xs : Nat → Int32) (D : va_G) (T : Nat → ClassId) (Z : ZZ) (AD : Nat → Nat → Nat) (md : Nat → Nat) (i : Nat) (hi9 : i + 6 ≤ L) (hC : LC pP s mM cC b L xs D T Z) (hn9 : LWat l pP eE s mM bW mE cC b L xs D T Z AD md i 1526) : LWat l pP eE s mM bW mE cC b L xs D T Z AD md i 469 := by
  obtain ⟨hx, hb, hml, hown, hts, hK, hN, hM, hX, hbl, hL⟩ := hC
  have hA : ∀ q : Nat, s.heap.size ≤ q → (fun q : Nat => s.heap.size ≤ q) q := fun _ h => h
  have hbA : ¬ (fun q : Nat => s.heap.size ≤ q) b := Nat.not_le.mpr hbl
  intro ν od ct π τ β ch len kd q p le σ nu ρ n ch2 len2 hI hn hch hlen H locs hP hD hS ls hl
  subst hn; subst hch; subst hlen
  refine lv_aload_n hx hb dL_law_469 rfl (lv_at hl 1 rfl) ?_
  refine lv_aload_n hx hb dL_law_470 rfl (lv_at hl 0 rfl) ?_
  refine lv_iload_n hx hb dL_law_471 rfl (lv_at hl 3 rfl) ?_
  refine lv_iconst (v := nI 1) hx hb dL_law_472 (by decide) ?_
  refine fr_iadd (i) (1) hx hb dL_law_473 ?_
  refine fr_sld (i + 1) hx hb hX hbl hbA hS (by omega) hL dL_law_474 ?_
  refine lv_aload_n hx hb dL_law_475 rfl (lv_at hl 0 rfl) ?_
  refine lv_iload_n hx hb dL_law_476 rfl (lv_at hl 3 rfl) ?_
  refine lv_iconst (v := nI 2) hx hb dL_law_477 (by decide) ?_
  refine fr_iadd (i) (2) hx hb dL_law_478 ?_
  refine fr_sld (i + 2) hx hb hX hbl hbA hS (by omega) hL dL_law_479 ?_
  refine lv_aload_n hx hb dL_law_480 rfl (lv_at hl 0 rfl) ?_
  refine lv_iload_n hx hb dL_law_481 rfl (lv_at hl 3 rfl) ?_
  refine lv_iconst (v := nI 3) hx hb dL_law_482 (by decide) ?_
  refine fr_iadd (i) (3) hx hb dL_law_483 ?_
  refine fr_sld (i + 3) hx hb hX hbl hbA hS (by omega) hL dL_law_484 ?_
  refine fr_Vi (As := [.int (xs (i + 1)), .int (xs (i + 2)), .int (xs (i + 3))]) (rest := []) (fs' := [[(((AD 8) 0), .inr (5, [.ref ((AD 0) 0), .ref ((AD 1) 0), .ref ((AD 8) 1), .ref ((AD 9) 0), .ref ((AD 7) 0)]))], stW T (AD 0) (s_giv ν (xs (i + 1)) (xs (i + 2)) (xs (i + 3))), stW T (AD 1) τ, [(((AD 8) 1), .inr (2, [.ref ((AD 8) 2), .int (nI (setO (r_giv ν (xs (i + 1)) (xs (i + 2)) (xs (i + 3))) od ct)), .int (nI (setC (r_giv ν (xs (i + 1)) (xs (i + 2)) (xs (i + 3))) ct))]))], [(((AD 8) 2), .inl (T 3, 5, .inr (.inr (.inr (.inr (plA AD))))))], stW T (AD 2) (updP π ((od + ct) % 5) ν 0), stW T (AD 3) (updP π ((od + ct) % 5) ν 1), stW T (AD 4) (updP π ((od + ct) % 5) ν 2), stW T (AD 5) (updP π ((od + ct) % 5) ν 3), stW T (AD 6) (updP π ((od + ct) % 5) ν 4), [(((AD 9) 0), .inr (4, [.ref ((AD 9) 1), .int (nI (len)), .int (nI (q.1)), .int (nI (kd)), .ref ((AD 9) 2), .int (nI (q.2.2))]))], [(((AD 9) 1), .inl (T 2, 90, .inl (nf ch)))], [(((AD 9) 2), .inl (T 0, 5, .inl (nf q.2.1)))], blW T (AD 7) β, [((md 0), .inr (6, [.ref (md 1), .int (nI (ct)), .ref (md 2), .int (nI (len)), .int (nI (p)), .int (nI (le)), .ref (md 3), .ref (md 4)]))], [((md 1), .inl (T 0, 1872, .inl (σ)))], [((md 2), .inl (T 0, 90, .inl (nf ch)))], [((md 3), .inl (T 0, 5, .inl (nf nu)))], [((md 4), .inl (T 0, 48, .inl (ρ)))]]) (ci := 5) (q0 := (RX5, TX5, 5)) (i0 := 0) ⟨hx, hb, hml, hown, hts⟩ (kX5_setRegister l D T Z AD od ct π ν (xs (i + 1)) (xs (i + 2)) (xs (i + 3)) hI.1.2.2.1 hI.1.2.2.2) (cwV 3 hts gL_law_X5_setRegister rfl rfl rfl (by decide +kernel) ⟨Nat.le_of_ble_eq_true rfl, Nat.le_of_ble_eq_true rfl⟩) hK hN hM hP hD hS hA [0, 3, 4, 5, 6, 7, 8, 9, 1] rfl rfl rfl rfl rfl rfl hl.1 rfl (Nat.le_of_ble_eq_true rfl) dL_law_485 ⟨Nat.le_of_ble_eq_true rfl, Nat.le_of_ble_eq_true rfl⟩ (fun H locs hP hD hS => ?_)
  refine lv_aload_n hx hb dL_law_488 rfl (lv_at hl 2 rfl) ?_
  refine lv_aload_n hx hb dL_law_489 rfl (lv_at hl 0 rfl) ?_
  refine lv_iload_n hx hb dL_law_490 rfl (lv_at hl 3 rfl) ?_
  refine lv_iconst (v := nI 1) hx hb dL_law_491 (by decide) ?_
  refine fr_iadd (i) (1) hx hb dL_law_492 ?_
  refine fr_sld (i + 1) hx hb hX hbl hbA hS (by omega) hL dL_law_493 ?_
  refine lv_aload_n hx hb dL_law_494 rfl (lv_at hl 0 rfl) ?_
  refine lv_iload_n hx hb dL_law_495 rfl (lv_at hl 3 rfl) ?_
  refine lv_iconst (v := nI 2) hx hb dL_law_496 (by decide) ?_
  refine fr_iadd (i) (2) hx hb dL_law_497 ?_
  refine fr_sld (i + 2) hx hb hX hbl hbA hS (by omega) hL dL_law_498 ?_
  refine lv_aload_n hx hb dL_law_499 rfl (lv_at hl 0 rfl) ?_
  refine lv_iload_n hx hb dL_law_500 rfl (lv_at hl 3 rfl) ?_
  refine lv_iconst (v := nI 3) hx hb dL_law_501 (by decide) ?_
  refine fr_iadd (i) (3) hx hb dL_law_502 ?_
  refine fr_sld (i + 3) hx hb hX hbl hbA hS (by omega) hL dL_law_503 ?_
  refine fr_Vi (As := [.int (xs (i + 1)), .int (xs (i + 2)), .int (xs (i + 3))]) (rest := [.int (r_giv ν (xs (i + 1)) (xs (i + 2)) (xs (i + 3)))]) (fs' := [[(((AD 8) 0), .inr (5, [.ref ((AD 0) 0), .ref ((AD 1) 0), .ref ((AD 8) 1), .ref ((AD 9) 0), .ref ((AD 7) 0)]))], stW T (AD 0) (s_giv ν (xs (i + 1)) (xs (i + 2)) (xs (i + 3))), stW T (AD 1) τ, [(((AD 8) 1), .inr (2, [.ref ((AD 8) 2), .int (nI (setO (r_giv ν (xs (i + 1)) (xs (i + 2)) (xs (i + 3))) od ct)), .int (nI (setC (r_giv ν (xs (i + 1)) (xs (i + 2)) (xs (i + 3))) ct))]))], [(((AD 8) 2), .inl (T 3, 5, .inr (.inr (.inr (.inr (plA AD))))))], stW T (AD 2) (updP π ((od + ct) % 5) ν 0), stW T (AD 3) (updP π ((od + ct) % 5) ν 1), stW T (AD 4) (updP π ((od + ct) % 5) ν 2), stW T (AD 5) (updP π ((od + ct) % 5) ν 3), stW T (AD 6) (updP π ((od + ct) % 5) ν 4), [(((AD 9) 0), .inr (4, [.ref ((AD 9) 1), .int (nI (len)), .int (nI (q.1)), .int (nI (kd)), .ref ((AD 9) 2), .int (nI (q.2.2))]))], [(((AD 9) 1), .inl (T 2, 90, .inl (nf ch)))], [(((AD 9) 2), .inl (T 0, 5, .inl (nf q.2.1)))], blW T (AD 7) β, [((md 0), .inr (6, [.ref (md 1), .int (nI (mAN (iN (xs (i + 1)) 4 && (iN (xs (i + 2)) 4 && iN (xs (i + 3)) 65536)) ct (mSetR (mCp σ 0 5) 1560 (tn (xs (i + 1))) (tn (xs (i + 2)))))), .ref (md 2), .int (nI (len)), .int (nI (p)), .int (nI (le)), .ref (md 3), .ref (md 4)]))], [((md 1), .inl (T 0, 1872, .inl (mAS (iN (xs (i + 1)) 4 && (iN (xs (i + 2)) 4 && iN (xs (i + 3)) 65536)) (mSetS (mCp σ 0 5) 1560 (tn (xs (i + 1))) (tn (xs (i + 2))) (nI (tn (xs (i + 3))))) ct (mSetR (mCp σ 0 5) 1560 (tn (xs (i + 1))) (tn (xs (i + 2)))) σ)))], [((md 2), .inl (T 0, 90, .inl (nf ch)))], [((md 3), .inl (T 0, 5, .inl (nf nu)))], [((md 4), .inl (T 0, 48, .inl (ρ)))]]) (ci := 6) (q0 := (RX6, TX6, 8)) (i0 := 14) ⟨hx, hb, hml, hown, hts⟩ (kX6_setRegister l D T Z md ct len p le σ (xs (i + 1)) (xs (i + 2)) (xs (i + 3)) hI.1.2.2.2) (cwV 3 hts gL_law_X6_setRegister rfl rfl rfl (by decide +kernel) ⟨Nat.le_of_ble_eq_true rfl, Nat.le_of_ble_eq_true rfl⟩) hK hN hM hP hD hS hA [14, 15] rfl rfl rfl rfl rfl rfl hl.1 rfl (Nat.le_of_ble_eq_true rfl) dL_law_504 ⟨Nat.le_of_ble_eq_true rfl, Nat.le_of_ble_eq_true rfl⟩ (fun H locs hP hD hS => ?_)
  have hE8 := hI.act (A_giv (t := xs (i + 1)) (r := xs (i + 2)) (x := xs (i + 3)) (RP_begin hI.1.1))
  have hE9 := hE8.2.2
  refine lv_icmp_eq (tgt := 1526) hx hb dL_law_507 (by decide) (fun _ => ?_) (fun z => absurd hE9 z)
  exact hn9 _ _ _ (updP π ((od + ct) % 5) ν) _ _ _ _ _ _ _ _ _ _ _ _ _ _ hE8.1 hE8.2.1.symm rfl rfl _ _ hP hD hS ls (lv_sub hl [0, 1, 2, 3] rfl)

set_option maxHeartbeats 8000000 in
set_option maxRecDepth 100000 in
theorem lc_8 (l : Launch) (pP : Program) (eE : Env) (s : State) (mM : MethodId) (bW : List Frame) (mE : Method) (cC : Code) (b L : Nat) (xs : Nat → Int32) (D : va_G) (T : Nat → ClassId) (Z : ZZ) (AD : Nat → Nat → Nat) (md : Nat → Nat) (i : Nat) (hi9 : i + 6 ≤ L) (hC : LC pP s mM cC b L xs D T Z) (hn9 : LWat l pP eE s mM bW mE cC b L xs D T Z AD md i 1526) : LWat l pP eE s mM bW mE cC b L xs D T Z AD md i 512 := by
  obtain ⟨hx, hb, hml, hown, hts, hK, hN, hM, hX, hbl, hL⟩ := hC
  have hA : ∀ q : Nat, s.heap.size ≤ q → (fun q : Nat => s.heap.size ≤ q) q := fun _ h => h
  have hbA : ¬ (fun q : Nat => s.heap.size ≤ q) b := Nat.not_le.mpr hbl
  intro ν od ct π τ β ch len kd q p le σ nu ρ n ch2 len2 hI hn hch hlen H locs hP hD hS ls hl
  subst hn; subst hch; subst hlen
  refine lv_aload_n hx hb dL_law_512 rfl (lv_at hl 1 rfl) ?_
  refine lv_aload_n hx hb dL_law_513 rfl (lv_at hl 0 rfl) ?_
  refine lv_iload_n hx hb dL_law_514 rfl (lv_at hl 3 rfl) ?_
  refine lv_iconst (v := nI 1) hx hb dL_law_515 (by decide) ?_
  refine fr_iadd (i) (1) hx hb dL_law_516 ?_
  refine fr_sld (i + 1) hx hb hX hbl hbA hS (by omega) hL dL_law_517 ?_
  refine lv_aload_n hx hb dL_law_518 rfl (lv_at hl 0 rfl) ?_
  refine lv_iload_n hx hb dL_law_519 rfl (lv_at hl 3 rfl) ?_
  refine lv_iconst (v := nI 2) hx hb dL_law_520 (by decide) ?_
  refine fr_iadd (i) (2) hx hb dL_law_521 ?_
  refine fr_sld (i + 2) hx hb hX hbl hbA hS (by omega) hL dL_law_522 ?_
  refine lv_aload_n hx hb dL_law_523 rfl (lv_at hl 0 rfl) ?_
  refine lv_iload_n hx hb dL_law_524 rfl (lv_at hl 3 rfl) ?_
  refine lv_iconst (v := nI 3) hx hb dL_law_525 (by decide) ?_
  refine fr_iadd (i) (3) hx hb dL_law_526 ?_
  refine fr_sld (i + 3) hx hb hX hbl hbA hS (by omega) hL dL_law_527 ?_
  refine fr_Vi (As := [.int (xs (i + 1)), .int (xs (i + 2)), .int (xs (i + 3))]) (rest := []) (fs' := [[(((AD 8) 0), .inr (5, [.ref ((AD 0) 0), .ref ((AD 1) 0), .ref ((AD 8) 1), .ref ((AD 9) 0), .ref ((AD 7) 0)]))], stW T (AD 0) (s_ld ν (xs (i + 1)) (xs (i + 2)) (xs (i + 3))), stW T (AD 1) τ, [(((AD 8) 1), .inr (2, [.ref ((AD 8) 2), .int (nI (setO (r_ld ν (xs (i + 1)) (xs (i + 2)) (xs (i + 3))) od ct)), .int (nI (setC (r_ld ν (xs (i + 1)) (xs (i + 2)) (xs (i + 3))) ct))]))], [(((AD 8) 2), .inl (T 3, 5, .inr (.inr (.inr (.inr (plA AD))))))], stW T (AD 2) (updP π ((od + ct) % 5) ν 0), stW T (AD 3) (updP π ((od + ct) % 5) ν 1), stW T (AD 4) (updP π ((od + ct) % 5) ν 2), stW T (AD 5) (updP π ((od + ct) % 5) ν 3), stW T (AD 6) (updP π ((od + ct) % 5) ν 4), [(((AD 9) 0), .inr (4, [.ref ((AD 9) 1), .int (nI (len)), .int (nI (q.1)), .int (nI (kd)), .ref ((AD 9) 2), .int (nI (q.2.2))]))], [(((AD 9) 1), .inl (T 2, 90, .inl (nf ch)))], [(((AD 9) 2), .inl (T 0, 5, .inl (nf q.2.1)))], blW T (AD 7) β, [((md 0), .inr (6, [.ref (md 1), .int (nI (ct)), .ref (md 2), .int (nI (len)), .int (nI (p)), .int (nI (le)), .ref (md 3), .ref (md 4)]))], [((md 1), .inl (T 0, 1872, .inl (σ)))], [((md 2), .inl (T 0, 90, .inl (nf ch)))], [((md 3), .inl (T 0, 5, .inl (nf nu)))], [((md 4), .inl (T 0, 48, .inl (ρ)))]]) (ci := 5) (q0 := (RX5, TX5, 5)) (i0 := 0) ⟨hx, hb, hml, hown, hts⟩ (kX5_load l D T Z AD od ct π ν (xs (i + 1)) (xs (i + 2)) (xs (i + 3)) hI.1.2.2.1 hI.1.2.2.2) (cwV 3 hts gL_law_X5_load rfl rfl rfl (by decide +kernel) ⟨Nat.le_of_ble_eq_true rfl, Nat.le_of_ble_eq_true rfl⟩) hK hN hM hP hD hS hA [0, 3, 4, 5, 6, 7, 8, 9, 1] rfl rfl rfl rfl rfl rfl hl.1 rfl (Nat.le_of_ble_eq_true rfl) dL_law_528 ⟨Nat.le_of_ble_eq_true rfl, Nat.le_of_ble_eq_true rfl⟩ (fun H locs hP hD hS => ?_)
  refine lv_aload_n hx hb dL_law_531 rfl (lv_at hl 2 rfl) ?_
  refine lv_aload_n hx hb dL_law_532 rfl (lv_at hl 0 rfl) ?_
  refine lv_iload_n hx hb dL_law_533 rfl (lv_at hl 3 rfl) ?_
  refine lv_iconst (v := nI 1) hx hb dL_law_534 (by decide) ?_
  refine fr_iadd (i) (1) hx hb dL_law_535 ?_
  refine fr_sld (i + 1) hx hb hX hbl hbA hS (by omega) hL dL_law_536 ?_
  refine lv_aload_n hx hb dL_law_537 rfl (lv_at hl 0 rfl) ?_
  refine lv_iload_n hx hb dL_law_538 rfl (lv_at hl 3 rfl) ?_
  refine lv_iconst (v := nI 2) hx hb dL_law_539 (by decide) ?_
  refine fr_iadd (i) (2) hx hb dL_law_540 ?_
  refine fr_sld (i + 2) hx hb hX hbl hbA hS (by omega) hL dL_law_541 ?_
  refine lv_aload_n hx hb dL_law_542 rfl (lv_at hl 0 rfl) ?_
  refine lv_iload_n hx hb dL_law_543 rfl (lv_at hl 3 rfl) ?_
  refine lv_iconst (v := nI 3) hx hb dL_law_544 (by decide) ?_
  refine fr_iadd (i) (3) hx hb dL_law_545 ?_
  refine fr_sld (i + 3) hx hb hX hbl hbA hS (by omega) hL dL_law_546 ?_
  refine fr_Vi (As := [.int (xs (i + 1)), .int (xs (i + 2)), .int (xs (i + 3))]) (rest := [.int (r_ld ν (xs (i + 1)) (xs (i + 2)) (xs (i + 3)))]) (fs' := [[(((AD 8) 0), .inr (5, [.ref ((AD 0) 0), .ref ((AD 1) 0), .ref ((AD 8) 1), .ref ((AD 9) 0), .ref ((AD 7) 0)]))], stW T (AD 0) (s_ld ν (xs (i + 1)) (xs (i + 2)) (xs (i + 3))), stW T (AD 1) τ, [(((AD 8) 1), .inr (2, [.ref ((AD 8) 2), .int (nI (setO (r_ld ν (xs (i + 1)) (xs (i + 2)) (xs (i + 3))) od ct)), .int (nI (setC (r_ld ν (xs (i + 1)) (xs (i + 2)) (xs (i + 3))) ct))]))], [(((AD 8) 2), .inl (T 3, 5, .inr (.inr (.inr (.inr (plA AD))))))], stW T (AD 2) (updP π ((od + ct) % 5) ν 0), stW T (AD 3) (updP π ((od + ct) % 5) ν 1), stW T (AD 4) (updP π ((od + ct) % 5) ν 2), stW T (AD 5) (updP π ((od + ct) % 5) ν 3), stW T (AD 6) (updP π ((od + ct) % 5) ν 4), [(((AD 9) 0), .inr (4, [.ref ((AD 9) 1), .int (nI (len)), .int (nI (q.1)), .int (nI (kd)), .ref ((AD 9) 2), .int (nI (q.2.2))]))], [(((AD 9) 1), .inl (T 2, 90, .inl (nf ch)))], [(((AD 9) 2), .inl (T 0, 5, .inl (nf q.2.1)))], blW T (AD 7) β, [((md 0), .inr (6, [.ref (md 1), .int (nI (mAN (iN (xs (i + 1)) 4 && (iN (xs (i + 2)) 4 && iN (xs (i + 3)) 32)) ct (mLdR (mCp σ 0 5) 1560 (tn (xs (i + 1))) (tn (xs (i + 3)))))), .ref (md 2), .int (nI (len)), .int (nI (p)), .int (nI (le)), .ref (md 3), .ref (md 4)]))], [((md 1), .inl (T 0, 1872, .inl (mAS (iN (xs (i + 1)) 4 && (iN (xs (i + 2)) 4 && iN (xs (i + 3)) 32)) (mLdS (mCp σ 0 5) 1560 (tn (xs (i + 1))) (tn (xs (i + 2))) (tn (xs (i + 3)))) ct (mLdR (mCp σ 0 5) 1560 (tn (xs (i + 1))) (tn (xs (i + 3)))) σ)))], [((md 2), .inl (T 0, 90, .inl (nf ch)))], [((md 3), .inl (T 0, 5, .inl (nf nu)))], [((md 4), .inl (T 0, 48, .inl (ρ)))]]) (ci := 6) (q0 := (RX6, TX6, 8)) (i0 := 14) ⟨hx, hb, hml, hown, hts⟩ (kX6_load l D T Z md ct len p le σ (xs (i + 1)) (xs (i + 2)) (xs (i + 3)) hI.1.2.2.2) (cwV 3 hts gL_law_X6_load rfl rfl rfl (by decide +kernel) ⟨Nat.le_of_ble_eq_true rfl, Nat.le_of_ble_eq_true rfl⟩) hK hN hM hP hD hS hA [14, 15] rfl rfl rfl rfl rfl rfl hl.1 rfl (Nat.le_of_ble_eq_true rfl) dL_law_547 ⟨Nat.le_of_ble_eq_true rfl, Nat.le_of_ble_eq_true rfl⟩ (fun H locs hP hD hS => ?_)
  have hE8 := hI.act (A_ld (t := xs (i + 1)) (r := xs (i + 2)) (w := xs (i + 3)) (RP_begin hI.1.1))
  have hE9 := hE8.2.2
  refine lv_icmp_eq (tgt := 1526) hx hb dL_law_550 (by decide) (fun _ => ?_) (fun z => absurd hE9 z)
  exact hn9 _ _ _ (updP π ((od + ct) % 5) ν) _ _ _ _ _ _ _ _ _ _ _ _ _ _ hE8.1 hE8.2.1.symm rfl rfl _ _ hP hD hS ls (lv_sub hl [0, 1, 2, 3] rfl)

set_option maxHeartbeats 8000000 in
set_option maxRecDepth 100000 in
theorem lc_9 (l : Launch) (pP : Program) (eE : Env) (s : State) (mM : MethodId) (bW : List Frame) (mE : Method) (cC : Code) (b L : Nat) (xs : Nat → Int32) (D : va_G) (T : Nat → ClassId) (Z : ZZ) (AD : Nat → Nat → Nat) (md : Nat → Nat) (i : Nat) (hi9 : i + 6 ≤ L) (hC : LC pP s mM cC b L xs D T Z) (hn9 : LWat l pP eE s mM bW mE cC b L xs D T Z AD md i 1526) : LWat l pP eE s mM bW mE cC b L xs D T Z AD md i 555 := by
  obtain ⟨hx, hb, hml, hown, hts, hK, hN, hM, hX, hbl, hL⟩ := hC
  have hA : ∀ q : Nat, s.heap.size ≤ q → (fun q : Nat => s.heap.size ≤ q) q := fun _ h => h
  have hbA : ¬ (fun q : Nat => s.heap.size ≤ q) b := Nat.not_le.mpr hbl
  intro ν od ct π τ β ch len kd q p le σ nu ρ n ch2 len2 hI hn hch hlen H locs hP hD hS ls hl
  subst hn; subst hch; subst hlen
  refine lv_aload_n hx hb dL_law_555 rfl (lv_at hl 1 rfl) ?_
  refine lv_aload_n hx hb dL_law_556 rfl (lv_at hl 0 rfl) ?_
  refine lv_iload_n hx hb dL_law_557 rfl (lv_at hl 3 rfl) ?_
  refine lv_iconst (v := nI 1) hx hb dL_law_558 (by decide) ?_
  refine fr_iadd (i) (1) hx hb dL_law_559 ?_
  refine fr_sld (i + 1) hx hb hX hbl hbA hS (by omega) hL dL_law_560 ?_
  refine lv_aload_n hx hb dL_law_561 rfl (lv_at hl 0 rfl) ?_
  refine lv_iload_n hx hb dL_law_562 rfl (lv_at hl 3 rfl) ?_
  refine lv_iconst (v := nI 2) hx hb dL_law_563 (by decide) ?_
  refine fr_iadd (i) (2) hx hb dL_law_564 ?_
  refine fr_sld (i + 2) hx hb hX hbl hbA hS (by omega) hL dL_law_565 ?_
  refine lv_aload_n hx hb dL_law_566 rfl (lv_at hl 0 rfl) ?_
  refine lv_iload_n hx hb dL_law_567 rfl (lv_at hl 3 rfl) ?_
  refine lv_iconst (v := nI 3) hx hb dL_law_568 (by decide) ?_
  refine fr_iadd (i) (3) hx hb dL_law_569 ?_
  refine fr_sld (i + 3) hx hb hX hbl hbA hS (by omega) hL dL_law_570 ?_
  refine lv_aload_n hx hb dL_law_571 rfl (lv_at hl 0 rfl) ?_
  refine lv_iload_n hx hb dL_law_572 rfl (lv_at hl 3 rfl) ?_
  refine lv_iconst (v := nI 4) hx hb dL_law_573 (by decide) ?_
  refine fr_iadd (i) (4) hx hb dL_law_574 ?_
  refine fr_sld (i + 4) hx hb hX hbl hbA hS (by omega) hL dL_law_575 ?_
  refine fr_Vi (As := [.int (xs (i + 1)), .int (xs (i + 2)), .int (xs (i + 3)), .int (xs (i + 4))]) (rest := []) (fs' := [[(((AD 8) 0), .inr (5, [.ref ((AD 0) 0), .ref ((AD 1) 0), .ref ((AD 8) 1), .ref ((AD 9) 0), .ref ((AD 7) 0)]))], stW T (AD 0) (s_ldb ν (xs (i + 1)) (xs (i + 2)) (xs (i + 3)) (xs (i + 4))), stW T (AD 1) τ, [(((AD 8) 1), .inr (2, [.ref ((AD 8) 2), .int (nI (setO (r_ldb ν (xs (i + 1)) (xs (i + 2)) (xs (i + 3)) (xs (i + 4))) od ct)), .int (nI (setC (r_ldb ν (xs (i + 1)) (xs (i + 2)) (xs (i + 3)) (xs (i + 4))) ct))]))], [(((AD 8) 2), .inl (T 3, 5, .inr (.inr (.inr (.inr (plA AD))))))], stW T (AD 2) (updP π ((od + ct) % 5) ν 0), stW T (AD 3) (updP π ((od + ct) % 5) ν 1), stW T (AD 4) (updP π ((od + ct) % 5) ν 2), stW T (AD 5) (updP π ((od + ct) % 5) ν 3), stW T (AD 6) (updP π ((od + ct) % 5) ν 4), [(((AD 9) 0), .inr (4, [.ref ((AD 9) 1), .int (nI (len)), .int (nI (q.1)), .int (nI (kd)), .ref ((AD 9) 2), .int (nI (q.2.2))]))], [(((AD 9) 1), .inl (T 2, 90, .inl (nf ch)))], [(((AD 9) 2), .inl (T 0, 5, .inl (nf q.2.1)))], blW T (AD 7) β, [((md 0), .inr (6, [.ref (md 1), .int (nI (ct)), .ref (md 2), .int (nI (len)), .int (nI (p)), .int (nI (le)), .ref (md 3), .ref (md 4)]))], [((md 1), .inl (T 0, 1872, .inl (σ)))], [((md 2), .inl (T 0, 90, .inl (nf ch)))], [((md 3), .inl (T 0, 5, .inl (nf nu)))], [((md 4), .inl (T 0, 48, .inl (ρ)))]]) (ci := 5) (q0 := (RX5, TX5, 5)) (i0 := 0) ⟨hx, hb, hml, hown, hts⟩ (kX5_loadByte l D T Z AD od ct π ν (xs (i + 1)) (xs (i + 2)) (xs (i + 3)) (xs (i + 4)) hI.1.2.2.1 hI.1.2.2.2) (cwV 4 hts gL_law_X5_loadByte rfl rfl rfl (by decide +kernel) ⟨Nat.le_of_ble_eq_true rfl, Nat.le_of_ble_eq_true rfl⟩) hK hN hM hP hD hS hA [0, 3, 4, 5, 6, 7, 8, 9, 1] rfl rfl rfl rfl rfl rfl hl.1 rfl (Nat.le_of_ble_eq_true rfl) dL_law_576 ⟨Nat.le_of_ble_eq_true rfl, Nat.le_of_ble_eq_true rfl⟩ (fun H locs hP hD hS => ?_)
  refine lv_aload_n hx hb dL_law_579 rfl (lv_at hl 2 rfl) ?_
  refine lv_aload_n hx hb dL_law_580 rfl (lv_at hl 0 rfl) ?_
  refine lv_iload_n hx hb dL_law_581 rfl (lv_at hl 3 rfl) ?_
  refine lv_iconst (v := nI 1) hx hb dL_law_582 (by decide) ?_
  refine fr_iadd (i) (1) hx hb dL_law_583 ?_
  refine fr_sld (i + 1) hx hb hX hbl hbA hS (by omega) hL dL_law_584 ?_
  refine lv_aload_n hx hb dL_law_585 rfl (lv_at hl 0 rfl) ?_
  refine lv_iload_n hx hb dL_law_586 rfl (lv_at hl 3 rfl) ?_
  refine lv_iconst (v := nI 2) hx hb dL_law_587 (by decide) ?_
  refine fr_iadd (i) (2) hx hb dL_law_588 ?_
  refine fr_sld (i + 2) hx hb hX hbl hbA hS (by omega) hL dL_law_589 ?_
  refine lv_aload_n hx hb dL_law_590 rfl (lv_at hl 0 rfl) ?_
  refine lv_iload_n hx hb dL_law_591 rfl (lv_at hl 3 rfl) ?_
  refine lv_iconst (v := nI 3) hx hb dL_law_592 (by decide) ?_
  refine fr_iadd (i) (3) hx hb dL_law_593 ?_
  refine fr_sld (i + 3) hx hb hX hbl hbA hS (by omega) hL dL_law_594 ?_
  refine lv_aload_n hx hb dL_law_595 rfl (lv_at hl 0 rfl) ?_
  refine lv_iload_n hx hb dL_law_596 rfl (lv_at hl 3 rfl) ?_
  refine lv_iconst (v := nI 4) hx hb dL_law_597 (by decide) ?_
  refine fr_iadd (i) (4) hx hb dL_law_598 ?_
  refine fr_sld (i + 4) hx hb hX hbl hbA hS (by omega) hL dL_law_599 ?_
  refine fr_Vi (As := [.int (xs (i + 1)), .int (xs (i + 2)), .int (xs (i + 3)), .int (xs (i + 4))]) (rest := [.int (r_ldb ν (xs (i + 1)) (xs (i + 2)) (xs (i + 3)) (xs (i + 4)))]) (fs' := [[(((AD 8) 0), .inr (5, [.ref ((AD 0) 0), .ref ((AD 1) 0), .ref ((AD 8) 1), .ref ((AD 9) 0), .ref ((AD 7) 0)]))], stW T (AD 0) (s_ldb ν (xs (i + 1)) (xs (i + 2)) (xs (i + 3)) (xs (i + 4))), stW T (AD 1) τ, [(((AD 8) 1), .inr (2, [.ref ((AD 8) 2), .int (nI (setO (r_ldb ν (xs (i + 1)) (xs (i + 2)) (xs (i + 3)) (xs (i + 4))) od ct)), .int (nI (setC (r_ldb ν (xs (i + 1)) (xs (i + 2)) (xs (i + 3)) (xs (i + 4))) ct))]))], [(((AD 8) 2), .inl (T 3, 5, .inr (.inr (.inr (.inr (plA AD))))))], stW T (AD 2) (updP π ((od + ct) % 5) ν 0), stW T (AD 3) (updP π ((od + ct) % 5) ν 1), stW T (AD 4) (updP π ((od + ct) % 5) ν 2), stW T (AD 5) (updP π ((od + ct) % 5) ν 3), stW T (AD 6) (updP π ((od + ct) % 5) ν 4), [(((AD 9) 0), .inr (4, [.ref ((AD 9) 1), .int (nI (len)), .int (nI (q.1)), .int (nI (kd)), .ref ((AD 9) 2), .int (nI (q.2.2))]))], [(((AD 9) 1), .inl (T 2, 90, .inl (nf ch)))], [(((AD 9) 2), .inl (T 0, 5, .inl (nf q.2.1)))], blW T (AD 7) β, [((md 0), .inr (6, [.ref (md 1), .int (nI (mAN (iN (xs (i + 1)) 4 && (iN (xs (i + 2)) 4 && (iN (xs (i + 3)) 32 && iN (xs (i + 4)) 2))) ct (mLbR (mCp σ 0 5) 1560 (tn (xs (i + 1))) (tn (xs (i + 3))) (tn (xs (i + 4)))))), .ref (md 2), .int (nI (len)), .int (nI (p)), .int (nI (le)), .ref (md 3), .ref (md 4)]))], [((md 1), .inl (T 0, 1872, .inl (mAS (iN (xs (i + 1)) 4 && (iN (xs (i + 2)) 4 && (iN (xs (i + 3)) 32 && iN (xs (i + 4)) 2))) (mLbS (mCp σ 0 5) 1560 (tn (xs (i + 1))) (tn (xs (i + 2))) (tn (xs (i + 3))) (tn (xs (i + 4)))) ct (mLbR (mCp σ 0 5) 1560 (tn (xs (i + 1))) (tn (xs (i + 3))) (tn (xs (i + 4)))) σ)))], [((md 2), .inl (T 0, 90, .inl (nf ch)))], [((md 3), .inl (T 0, 5, .inl (nf nu)))], [((md 4), .inl (T 0, 48, .inl (ρ)))]]) (ci := 6) (q0 := (RX6, TX6, 8)) (i0 := 14) ⟨hx, hb, hml, hown, hts⟩ (kX6_loadByte l D T Z md ct len p le σ (xs (i + 1)) (xs (i + 2)) (xs (i + 3)) (xs (i + 4)) hI.1.2.2.2) (cwV 4 hts gL_law_X6_loadByte rfl rfl rfl (by decide +kernel) ⟨Nat.le_of_ble_eq_true rfl, Nat.le_of_ble_eq_true rfl⟩) hK hN hM hP hD hS hA [14, 15] rfl rfl rfl rfl rfl rfl hl.1 rfl (Nat.le_of_ble_eq_true rfl) dL_law_600 ⟨Nat.le_of_ble_eq_true rfl, Nat.le_of_ble_eq_true rfl⟩ (fun H locs hP hD hS => ?_)
  have hE8 := hI.act (A_ldb (t := xs (i + 1)) (r := xs (i + 2)) (w := xs (i + 3)) (q := xs (i + 4)) (RP_begin hI.1.1))
  have hE9 := hE8.2.2
  refine lv_icmp_eq (tgt := 1526) hx hb dL_law_603 (by decide) (fun _ => ?_) (fun z => absurd hE9 z)
  exact hn9 _ _ _ (updP π ((od + ct) % 5) ν) _ _ _ _ _ _ _ _ _ _ _ _ _ _ hE8.1 hE8.2.1.symm rfl rfl _ _ hP hD hS ls (lv_sub hl [0, 1, 2, 3] rfl)

set_option maxHeartbeats 8000000 in
set_option maxRecDepth 100000 in
theorem lc_10 (l : Launch) (pP : Program) (eE : Env) (s : State) (mM : MethodId) (bW : List Frame) (mE : Method) (cC : Code) (b L : Nat) (xs : Nat → Int32) (D : va_G) (T : Nat → ClassId) (Z : ZZ) (AD : Nat → Nat → Nat) (md : Nat → Nat) (i : Nat) (hi9 : i + 6 ≤ L) (hC : LC pP s mM cC b L xs D T Z) (hn9 : LWat l pP eE s mM bW mE cC b L xs D T Z AD md i 1526) : LWat l pP eE s mM bW mE cC b L xs D T Z AD md i 608 := by
  obtain ⟨hx, hb, hml, hown, hts, hK, hN, hM, hX, hbl, hL⟩ := hC
  have hA : ∀ q : Nat, s.heap.size ≤ q → (fun q : Nat => s.heap.size ≤ q) q := fun _ h => h
  have hbA : ¬ (fun q : Nat => s.heap.size ≤ q) b := Nat.not_le.mpr hbl
  intro ν od ct π τ β ch len kd q p le σ nu ρ n ch2 len2 hI hn hch hlen H locs hP hD hS ls hl
  subst hn; subst hch; subst hlen
  refine lv_aload_n hx hb dL_law_608 rfl (lv_at hl 1 rfl) ?_
  refine lv_aload_n hx hb dL_law_609 rfl (lv_at hl 0 rfl) ?_
  refine lv_iload_n hx hb dL_law_610 rfl (lv_at hl 3 rfl) ?_
  refine lv_iconst (v := nI 1) hx hb dL_law_611 (by decide) ?_
  refine fr_iadd (i) (1) hx hb dL_law_612 ?_
  refine fr_sld (i + 1) hx hb hX hbl hbA hS (by omega) hL dL_law_613 ?_
  refine lv_aload_n hx hb dL_law_614 rfl (lv_at hl 0 rfl) ?_
  refine lv_iload_n hx hb dL_law_615 rfl (lv_at hl 3 rfl) ?_
  refine lv_iconst (v := nI 2) hx hb dL_law_616 (by decide) ?_
  refine fr_iadd (i) (2) hx hb dL_law_617 ?_
  refine fr_sld (i + 2) hx hb hX hbl hbA hS (by omega) hL dL_law_618 ?_
  refine lv_aload_n hx hb dL_law_619 rfl (lv_at hl 0 rfl) ?_
  refine lv_iload_n hx hb dL_law_620 rfl (lv_at hl 3 rfl) ?_
  refine lv_iconst (v := nI 3) hx hb dL_law_621 (by decide) ?_
  refine fr_iadd (i) (3) hx hb dL_law_622 ?_
  refine fr_sld (i + 3) hx hb hX hbl hbA hS (by omega) hL dL_law_623 ?_
  refine fr_Vi (As := [.int (xs (i + 1)), .int (xs (i + 2)), .int (xs (i + 3))]) (rest := []) (fs' := [[(((AD 8) 0), .inr (5, [.ref ((AD 0) 0), .ref ((AD 1) 0), .ref ((AD 8) 1), .ref ((AD 9) 0), .ref ((AD 7) 0)]))], stW T (AD 0) (s_sto ν (xs (i + 1)) (xs (i + 2)) (xs (i + 3))), stW T (AD 1) τ, [(((AD 8) 1), .inr (2, [.ref ((AD 8) 2), .int (nI (setO (r_sto ν (xs (i + 1)) (xs (i + 2)) (xs (i + 3))) od ct)), .int (nI (setC (r_sto ν (xs (i + 1)) (xs (i + 2)) (xs (i + 3))) ct))]))], [(((AD 8) 2), .inl (T 3, 5, .inr (.inr (.inr (.inr (plA AD))))))], stW T (AD 2) (updP π ((od + ct) % 5) ν 0), stW T (AD 3) (updP π ((od + ct) % 5) ν 1), stW T (AD 4) (updP π ((od + ct) % 5) ν 2), stW T (AD 5) (updP π ((od + ct) % 5) ν 3), stW T (AD 6) (updP π ((od + ct) % 5) ν 4), [(((AD 9) 0), .inr (4, [.ref ((AD 9) 1), .int (nI (len)), .int (nI (q.1)), .int (nI (kd)), .ref ((AD 9) 2), .int (nI (q.2.2))]))], [(((AD 9) 1), .inl (T 2, 90, .inl (nf ch)))], [(((AD 9) 2), .inl (T 0, 5, .inl (nf q.2.1)))], blW T (AD 7) β, [((md 0), .inr (6, [.ref (md 1), .int (nI (ct)), .ref (md 2), .int (nI (len)), .int (nI (p)), .int (nI (le)), .ref (md 3), .ref (md 4)]))], [((md 1), .inl (T 0, 1872, .inl (σ)))], [((md 2), .inl (T 0, 90, .inl (nf ch)))], [((md 3), .inl (T 0, 5, .inl (nf nu)))], [((md 4), .inl (T 0, 48, .inl (ρ)))]]) (ci := 5) (q0 := (RX5, TX5, 5)) (i0 := 0) ⟨hx, hb, hml, hown, hts⟩ (kX5_store l D T Z AD od ct π ν (xs (i + 1)) (xs (i + 2)) (xs (i + 3)) hI.1.2.2.1 hI.1.2.2.2) (cwV 3 hts gL_law_X5_store rfl rfl rfl (by decide +kernel) ⟨Nat.le_of_ble_eq_true rfl, Nat.le_of_ble_eq_true rfl⟩) hK hN hM hP hD hS hA [0, 3, 4, 5, 6, 7, 8, 9, 1] rfl rfl rfl rfl rfl rfl hl.1 rfl (Nat.le_of_ble_eq_true rfl) dL_law_624 ⟨Nat.le_of_ble_eq_true rfl, Nat.le_of_ble_eq_true rfl⟩ (fun H locs hP hD hS => ?_)
  refine lv_aload_n hx hb dL_law_627 rfl (lv_at hl 2 rfl) ?_
  refine lv_aload_n hx hb dL_law_628 rfl (lv_at hl 0 rfl) ?_
  refine lv_iload_n hx hb dL_law_629 rfl (lv_at hl 3 rfl) ?_
  refine lv_iconst (v := nI 1) hx hb dL_law_630 (by decide) ?_
  refine fr_iadd (i) (1) hx hb dL_law_631 ?_
  refine fr_sld (i + 1) hx hb hX hbl hbA hS (by omega) hL dL_law_632 ?_
  refine lv_aload_n hx hb dL_law_633 rfl (lv_at hl 0 rfl) ?_
  refine lv_iload_n hx hb dL_law_634 rfl (lv_at hl 3 rfl) ?_
  refine lv_iconst (v := nI 2) hx hb dL_law_635 (by decide) ?_
  refine fr_iadd (i) (2) hx hb dL_law_636 ?_
  refine fr_sld (i + 2) hx hb hX hbl hbA hS (by omega) hL dL_law_637 ?_
  refine lv_aload_n hx hb dL_law_638 rfl (lv_at hl 0 rfl) ?_
  refine lv_iload_n hx hb dL_law_639 rfl (lv_at hl 3 rfl) ?_
  refine lv_iconst (v := nI 3) hx hb dL_law_640 (by decide) ?_
  refine fr_iadd (i) (3) hx hb dL_law_641 ?_
  refine fr_sld (i + 3) hx hb hX hbl hbA hS (by omega) hL dL_law_642 ?_
  refine fr_Vi (As := [.int (xs (i + 1)), .int (xs (i + 2)), .int (xs (i + 3))]) (rest := [.int (r_sto ν (xs (i + 1)) (xs (i + 2)) (xs (i + 3)))]) (fs' := [[(((AD 8) 0), .inr (5, [.ref ((AD 0) 0), .ref ((AD 1) 0), .ref ((AD 8) 1), .ref ((AD 9) 0), .ref ((AD 7) 0)]))], stW T (AD 0) (s_sto ν (xs (i + 1)) (xs (i + 2)) (xs (i + 3))), stW T (AD 1) τ, [(((AD 8) 1), .inr (2, [.ref ((AD 8) 2), .int (nI (setO (r_sto ν (xs (i + 1)) (xs (i + 2)) (xs (i + 3))) od ct)), .int (nI (setC (r_sto ν (xs (i + 1)) (xs (i + 2)) (xs (i + 3))) ct))]))], [(((AD 8) 2), .inl (T 3, 5, .inr (.inr (.inr (.inr (plA AD))))))], stW T (AD 2) (updP π ((od + ct) % 5) ν 0), stW T (AD 3) (updP π ((od + ct) % 5) ν 1), stW T (AD 4) (updP π ((od + ct) % 5) ν 2), stW T (AD 5) (updP π ((od + ct) % 5) ν 3), stW T (AD 6) (updP π ((od + ct) % 5) ν 4), [(((AD 9) 0), .inr (4, [.ref ((AD 9) 1), .int (nI (len)), .int (nI (q.1)), .int (nI (kd)), .ref ((AD 9) 2), .int (nI (q.2.2))]))], [(((AD 9) 1), .inl (T 2, 90, .inl (nf ch)))], [(((AD 9) 2), .inl (T 0, 5, .inl (nf q.2.1)))], blW T (AD 7) β, [((md 0), .inr (6, [.ref (md 1), .int (nI (mAN (iN (xs (i + 1)) 4 && (iN (xs (i + 2)) 4 && iN (xs (i + 3)) 32)) ct (mStoR (mCp σ 0 5) 1560 (tn (xs (i + 1))) (tn (xs (i + 2))) (tn (xs (i + 3)))))), .ref (md 2), .int (nI (len)), .int (nI (p)), .int (nI (le)), .ref (md 3), .ref (md 4)]))], [((md 1), .inl (T 0, 1872, .inl (mAS (iN (xs (i + 1)) 4 && (iN (xs (i + 2)) 4 && iN (xs (i + 3)) 32)) (mStoS (mCp σ 0 5) 1560 (tn (xs (i + 1))) (tn (xs (i + 2))) (tn (xs (i + 3)))) ct (mStoR (mCp σ 0 5) 1560 (tn (xs (i + 1))) (tn (xs (i + 2))) (tn (xs (i + 3)))) σ)))], [((md 2), .inl (T 0, 90, .inl (nf ch)))], [((md 3), .inl (T 0, 5, .inl (nf nu)))], [((md 4), .inl (T 0, 48, .inl (ρ)))]]) (ci := 6) (q0 := (RX6, TX6, 8)) (i0 := 14) ⟨hx, hb, hml, hown, hts⟩ (kX6_store l D T Z md ct len p le σ (xs (i + 1)) (xs (i + 2)) (xs (i + 3)) hI.1.2.2.2) (cwV 3 hts gL_law_X6_store rfl rfl rfl (by decide +kernel) ⟨Nat.le_of_ble_eq_true rfl, Nat.le_of_ble_eq_true rfl⟩) hK hN hM hP hD hS hA [14, 15] rfl rfl rfl rfl rfl rfl hl.1 rfl (Nat.le_of_ble_eq_true rfl) dL_law_643 ⟨Nat.le_of_ble_eq_true rfl, Nat.le_of_ble_eq_true rfl⟩ (fun H locs hP hD hS => ?_)
  have hE8 := hI.act (A_sto (t := xs (i + 1)) (r := xs (i + 2)) (w := xs (i + 3)) (RP_begin hI.1.1))
  have hE9 := hE8.2.2
  refine lv_icmp_eq (tgt := 1526) hx hb dL_law_646 (by decide) (fun _ => ?_) (fun z => absurd hE9 z)
  exact hn9 _ _ _ (updP π ((od + ct) % 5) ν) _ _ _ _ _ _ _ _ _ _ _ _ _ _ hE8.1 hE8.2.1.symm rfl rfl _ _ hP hD hS ls (lv_sub hl [0, 1, 2, 3] rfl)

set_option maxHeartbeats 8000000 in
set_option maxRecDepth 100000 in
theorem lc_11 (l : Launch) (pP : Program) (eE : Env) (s : State) (mM : MethodId) (bW : List Frame) (mE : Method) (cC : Code) (b L : Nat) (xs : Nat → Int32) (D : va_G) (T : Nat → ClassId) (Z : ZZ) (AD : Nat → Nat → Nat) (md : Nat → Nat) (i : Nat) (hi9 : i + 6 ≤ L) (hC : LC pP s mM cC b L xs D T Z) (hn9 : LWat l pP eE s mM bW mE cC b L xs D T Z AD md i 1526) : LWat l pP eE s mM bW mE cC b L xs D T Z AD md i 651 := by
  obtain ⟨hx, hb, hml, hown, hts, hK, hN, hM, hX, hbl, hL⟩ := hC
  have hA : ∀ q : Nat, s.heap.size ≤ q → (fun q : Nat => s.heap.size ≤ q) q := fun _ h => h
  have hbA : ¬ (fun q : Nat => s.heap.size ≤ q) b := Nat.not_le.mpr hbl
  intro ν od ct π τ β ch len kd q p le σ nu ρ n ch2 len2 hI hn hch hlen H locs hP hD hS ls hl
  subst hn; subst hch; subst hlen
  refine lv_aload_n hx hb dL_law_651 rfl (lv_at hl 1 rfl) ?_
  refine lv_aload_n hx hb dL_law_652 rfl (lv_at hl 0 rfl) ?_
  refine lv_iload_n hx hb dL_law_653 rfl (lv_at hl 3 rfl) ?_
  refine lv_iconst (v := nI 1) hx hb dL_law_654 (by decide) ?_
  refine fr_iadd (i) (1) hx hb dL_law_655 ?_
  refine fr_sld (i + 1) hx hb hX hbl hbA hS (by omega) hL dL_law_656 ?_
  refine lv_aload_n hx hb dL_law_657 rfl (lv_at hl 0 rfl) ?_
  refine lv_iload_n hx hb dL_law_658 rfl (lv_at hl 3 rfl) ?_
  refine lv_iconst (v := nI 2) hx hb dL_law_659 (by decide) ?_
  refine fr_iadd (i) (2) hx hb dL_law_660 ?_
  refine fr_sld (i + 2) hx hb hX hbl hbA hS (by omega) hL dL_law_661 ?_
  refine lv_aload_n hx hb dL_law_662 rfl (lv_at hl 0 rfl) ?_
  refine lv_iload_n hx hb dL_law_663 rfl (lv_at hl 3 rfl) ?_
  refine lv_iconst (v := nI 3) hx hb dL_law_664 (by decide) ?_
  refine fr_iadd (i) (3) hx hb dL_law_665 ?_
  refine fr_sld (i + 3) hx hb hX hbl hbA hS (by omega) hL dL_law_666 ?_
  refine lv_aload_n hx hb dL_law_667 rfl (lv_at hl 0 rfl) ?_
  refine lv_iload_n hx hb dL_law_668 rfl (lv_at hl 3 rfl) ?_
  refine lv_iconst (v := nI 4) hx hb dL_law_669 (by decide) ?_
  refine fr_iadd (i) (4) hx hb dL_law_670 ?_
  refine fr_sld (i + 4) hx hb hX hbl hbA hS (by omega) hL dL_law_671 ?_
  refine fr_Vi (As := [.int (xs (i + 1)), .int (xs (i + 2)), .int (xs (i + 3)), .int (xs (i + 4))]) (rest := []) (fs' := [[(((AD 8) 0), .inr (5, [.ref ((AD 0) 0), .ref ((AD 1) 0), .ref ((AD 8) 1), .ref ((AD 9) 0), .ref ((AD 7) 0)]))], stW T (AD 0) (s_stb ν (xs (i + 1)) (xs (i + 2)) (xs (i + 3)) (xs (i + 4))), stW T (AD 1) τ, [(((AD 8) 1), .inr (2, [.ref ((AD 8) 2), .int (nI (setO (r_stb ν (xs (i + 1)) (xs (i + 2)) (xs (i + 3)) (xs (i + 4))) od ct)), .int (nI (setC (r_stb ν (xs (i + 1)) (xs (i + 2)) (xs (i + 3)) (xs (i + 4))) ct))]))], [(((AD 8) 2), .inl (T 3, 5, .inr (.inr (.inr (.inr (plA AD))))))], stW T (AD 2) (updP π ((od + ct) % 5) ν 0), stW T (AD 3) (updP π ((od + ct) % 5) ν 1), stW T (AD 4) (updP π ((od + ct) % 5) ν 2), stW T (AD 5) (updP π ((od + ct) % 5) ν 3), stW T (AD 6) (updP π ((od + ct) % 5) ν 4), [(((AD 9) 0), .inr (4, [.ref ((AD 9) 1), .int (nI (len)), .int (nI (q.1)), .int (nI (kd)), .ref ((AD 9) 2), .int (nI (q.2.2))]))], [(((AD 9) 1), .inl (T 2, 90, .inl (nf ch)))], [(((AD 9) 2), .inl (T 0, 5, .inl (nf q.2.1)))], blW T (AD 7) β, [((md 0), .inr (6, [.ref (md 1), .int (nI (ct)), .ref (md 2), .int (nI (len)), .int (nI (p)), .int (nI (le)), .ref (md 3), .ref (md 4)]))], [((md 1), .inl (T 0, 1872, .inl (σ)))], [((md 2), .inl (T 0, 90, .inl (nf ch)))], [((md 3), .inl (T 0, 5, .inl (nf nu)))], [((md 4), .inl (T 0, 48, .inl (ρ)))]]) (ci := 5) (q0 := (RX5, TX5, 5)) (i0 := 0) ⟨hx, hb, hml, hown, hts⟩ (kX5_storeByte l D T Z AD od ct π ν (xs (i + 1)) (xs (i + 2)) (xs (i + 3)) (xs (i + 4)) hI.1.2.2.1 hI.1.2.2.2) (cwV 4 hts gL_law_X5_storeByte rfl rfl rfl (by decide +kernel) ⟨Nat.le_of_ble_eq_true rfl, Nat.le_of_ble_eq_true rfl⟩) hK hN hM hP hD hS hA [0, 3, 4, 5, 6, 7, 8, 9, 1] rfl rfl rfl rfl rfl rfl hl.1 rfl (Nat.le_of_ble_eq_true rfl) dL_law_672 ⟨Nat.le_of_ble_eq_true rfl, Nat.le_of_ble_eq_true rfl⟩ (fun H locs hP hD hS => ?_)
  refine lv_aload_n hx hb dL_law_675 rfl (lv_at hl 2 rfl) ?_
  refine lv_aload_n hx hb dL_law_676 rfl (lv_at hl 0 rfl) ?_
  refine lv_iload_n hx hb dL_law_677 rfl (lv_at hl 3 rfl) ?_
  refine lv_iconst (v := nI 1) hx hb dL_law_678 (by decide) ?_
  refine fr_iadd (i) (1) hx hb dL_law_679 ?_
  refine fr_sld (i + 1) hx hb hX hbl hbA hS (by omega) hL dL_law_680 ?_
  refine lv_aload_n hx hb dL_law_681 rfl (lv_at hl 0 rfl) ?_
  refine lv_iload_n hx hb dL_law_682 rfl (lv_at hl 3 rfl) ?_
  refine lv_iconst (v := nI 2) hx hb dL_law_683 (by decide) ?_
  refine fr_iadd (i) (2) hx hb dL_law_684 ?_
  refine fr_sld (i + 2) hx hb hX hbl hbA hS (by omega) hL dL_law_685 ?_
  refine lv_aload_n hx hb dL_law_686 rfl (lv_at hl 0 rfl) ?_
  refine lv_iload_n hx hb dL_law_687 rfl (lv_at hl 3 rfl) ?_
  refine lv_iconst (v := nI 3) hx hb dL_law_688 (by decide) ?_
  refine fr_iadd (i) (3) hx hb dL_law_689 ?_
  refine fr_sld (i + 3) hx hb hX hbl hbA hS (by omega) hL dL_law_690 ?_
  refine lv_aload_n hx hb dL_law_691 rfl (lv_at hl 0 rfl) ?_
  refine lv_iload_n hx hb dL_law_692 rfl (lv_at hl 3 rfl) ?_
  refine lv_iconst (v := nI 4) hx hb dL_law_693 (by decide) ?_
  refine fr_iadd (i) (4) hx hb dL_law_694 ?_
  refine fr_sld (i + 4) hx hb hX hbl hbA hS (by omega) hL dL_law_695 ?_
  refine fr_Vi (As := [.int (xs (i + 1)), .int (xs (i + 2)), .int (xs (i + 3)), .int (xs (i + 4))]) (rest := [.int (r_stb ν (xs (i + 1)) (xs (i + 2)) (xs (i + 3)) (xs (i + 4)))]) (fs' := [[(((AD 8) 0), .inr (5, [.ref ((AD 0) 0), .ref ((AD 1) 0), .ref ((AD 8) 1), .ref ((AD 9) 0), .ref ((AD 7) 0)]))], stW T (AD 0) (s_stb ν (xs (i + 1)) (xs (i + 2)) (xs (i + 3)) (xs (i + 4))), stW T (AD 1) τ, [(((AD 8) 1), .inr (2, [.ref ((AD 8) 2), .int (nI (setO (r_stb ν (xs (i + 1)) (xs (i + 2)) (xs (i + 3)) (xs (i + 4))) od ct)), .int (nI (setC (r_stb ν (xs (i + 1)) (xs (i + 2)) (xs (i + 3)) (xs (i + 4))) ct))]))], [(((AD 8) 2), .inl (T 3, 5, .inr (.inr (.inr (.inr (plA AD))))))], stW T (AD 2) (updP π ((od + ct) % 5) ν 0), stW T (AD 3) (updP π ((od + ct) % 5) ν 1), stW T (AD 4) (updP π ((od + ct) % 5) ν 2), stW T (AD 5) (updP π ((od + ct) % 5) ν 3), stW T (AD 6) (updP π ((od + ct) % 5) ν 4), [(((AD 9) 0), .inr (4, [.ref ((AD 9) 1), .int (nI (len)), .int (nI (q.1)), .int (nI (kd)), .ref ((AD 9) 2), .int (nI (q.2.2))]))], [(((AD 9) 1), .inl (T 2, 90, .inl (nf ch)))], [(((AD 9) 2), .inl (T 0, 5, .inl (nf q.2.1)))], blW T (AD 7) β, [((md 0), .inr (6, [.ref (md 1), .int (nI (mAN (iN (xs (i + 1)) 4 && (iN (xs (i + 2)) 4 && (iN (xs (i + 3)) 32 && iN (xs (i + 4)) 2))) ct (mStbR (mCp σ 0 5) 1560 (tn (xs (i + 1))) (tn (xs (i + 2))) (tn (xs (i + 3))) (tn (xs (i + 4)))))), .ref (md 2), .int (nI (len)), .int (nI (p)), .int (nI (le)), .ref (md 3), .ref (md 4)]))], [((md 1), .inl (T 0, 1872, .inl (mAS (iN (xs (i + 1)) 4 && (iN (xs (i + 2)) 4 && (iN (xs (i + 3)) 32 && iN (xs (i + 4)) 2))) (mStbS (mCp σ 0 5) 1560 (tn (xs (i + 1))) (tn (xs (i + 2))) (tn (xs (i + 3))) (tn (xs (i + 4)))) ct (mStbR (mCp σ 0 5) 1560 (tn (xs (i + 1))) (tn (xs (i + 2))) (tn (xs (i + 3))) (tn (xs (i + 4)))) σ)))], [((md 2), .inl (T 0, 90, .inl (nf ch)))], [((md 3), .inl (T 0, 5, .inl (nf nu)))], [((md 4), .inl (T 0, 48, .inl (ρ)))]]) (ci := 6) (q0 := (RX6, TX6, 8)) (i0 := 14) ⟨hx, hb, hml, hown, hts⟩ (kX6_storeByte l D T Z md ct len p le σ (xs (i + 1)) (xs (i + 2)) (xs (i + 3)) (xs (i + 4)) hI.1.2.2.2) (cwV 4 hts gL_law_X6_storeByte rfl rfl rfl (by decide +kernel) ⟨Nat.le_of_ble_eq_true rfl, Nat.le_of_ble_eq_true rfl⟩) hK hN hM hP hD hS hA [14, 15] rfl rfl rfl rfl rfl rfl hl.1 rfl (Nat.le_of_ble_eq_true rfl) dL_law_696 ⟨Nat.le_of_ble_eq_true rfl, Nat.le_of_ble_eq_true rfl⟩ (fun H locs hP hD hS => ?_)
  have hE8 := hI.act (A_stb (t := xs (i + 1)) (r := xs (i + 2)) (w := xs (i + 3)) (q := xs (i + 4)) (RP_begin hI.1.1))
  have hE9 := hE8.2.2
  refine lv_icmp_eq (tgt := 1526) hx hb dL_law_699 (by decide) (fun _ => ?_) (fun z => absurd hE9 z)
  exact hn9 _ _ _ (updP π ((od + ct) % 5) ν) _ _ _ _ _ _ _ _ _ _ _ _ _ _ hE8.1 hE8.2.1.symm rfl rfl _ _ hP hD hS ls (lv_sub hl [0, 1, 2, 3] rfl)
