
set_option maxHeartbeats 8000000 in
set_option maxRecDepth 100000 in
theorem kX2_hold (l : Launch) (D : va_G) (T : Nat → ClassId) (Z : ZZ) (AD : Nat → Nat → Nat) (od : Nat) (ct : Nat) (π : Nat → NS) (ac : Nat → Nat) (σ : NS) (hod : od < 5) (hct : ct ≤ 4) : CtV l D T Z yX2_hold wsX2_hold ({ frames := 3, cells := 0, slots := 0, locals := 60 }) [[(((AD 8) 1), .inr (2, [.ref ((AD 8) 2), .int (nI (od)), .int (nI (ct))]))], [(((AD 8) 2), .inl (T 3, 5, .inr (.inr (.inr (.inr (plA AD))))))], stW T (AD 2) (π 0), stW T (AD 3) (π 1), stW T (AD 4) (π 2), stW T (AD 5) (π 3), stW T (AD 6) (π 4), stW T ac σ] [.ref ((AD 8) 1), .ref (ac 0)] [[(((AD 8) 1), .inr (2, [.ref ((AD 8) 2), .int (nI (od)), .int (nI (ct))]))], [(((AD 8) 2), .inl (T 3, 5, .inr (.inr (.inr (.inr (plA AD))))))], stW T (AD 2) (updP π ((od + ct) % 5) σ 0), stW T (AD 3) (updP π ((od + ct) % 5) σ 1), stW T (AD 4) (updP π ((od + ct) % 5) σ 2), stW T (AD 5) (updP π ((od + ct) % 5) σ 3), stW T (AD 6) (updP π ((od + ct) % 5) σ 4), stW T ac σ] := by
  refine CtV.of (cc := cX2_hold) (maxL := 2) (ret := none) (plainFor_of_name (by decide)) rfl (by rfl) ?_
  intro pP eE s mM bW mE cC A hE hK hN hM hP hD hA
  obtain ⟨hx, hb, hr, hts, hown, hml, hlk⟩ := hE
  have hown : s.vm.findClass RX2 = some mM.cls := hown
  have hS : va_S A s.heap s.heap [] := va_S.rf
  have hl := lv_entry ([.ref ((AD 8) 1), .ref (ac 0)]) (n := 2) (Nat.le_of_ble_eq_true rfl)
  rw [lg_entry_eq]
  generalize (lg_sl ([.ref ((AD 8) 1), .ref (ac 0)]) ++ List.replicate (2 - (lg_sl ([.ref ((AD 8) 1), .ref (ac 0)])).length) Slot.unset).toArray = ls at hl ⊢
  have hl : lv_has ls 2 [(0, .ref ((AD 8) 1)), (1, .ref (ac 0))] := hl
  have w_13 := hts (.fieldLink RX2 13 "PoisonedMemory$History" "places" "[LPoisonedMemory$State;") (by decide +kernel)
  have hinX2 : ∀ w ∈ wsX20, w ∈ wsX2_hold := by decide +kernel
  have w_18 := hts (.fieldLink RX2 18 "PoisonedMemory$History" "oldest" "I") (by decide +kernel)
  have w_22 := hts (.fieldLink RX2 22 "PoisonedMemory$History" "count" "I") (by decide +kernel)
  refine lv_aload_n hx hb dX2_hold_0 rfl (lv_at hl 0 rfl) ?_
  refine va_get (D := D) (ci := 2) (v := .ref ((AD 8) 2)) (C := RX2) (T := TX2) (N := 3) hx hb hts hinX2 hown hK (hP.at 0 rfl) 0 rfl rfl 0 (by decide) w_13 (fun _ h9 => h9) rfl dX2_hold_1 ?_
  refine lv_aload_n hx hb dX2_hold_4 rfl (lv_at hl 0 rfl) ?_
  refine va_get (D := D) (ci := 2) (v := .int (nI (od))) (C := RX2) (T := TX2) (N := 3) hx hb hts hinX2 hown hK (hP.at 0 rfl) 0 rfl rfl 1 (by decide) w_18 (fun _ h9 => h9) rfl dX2_hold_5 ?_
  refine lv_aload_n hx hb dX2_hold_8 rfl (lv_at hl 0 rfl) ?_
  refine va_get (D := D) (ci := 2) (v := .int (nI (ct))) (C := RX2) (T := TX2) (N := 3) hx hb hts hinX2 hown hK (hP.at 0 rfl) 0 rfl rfl 2 (by decide) w_22 (fun _ h9 => h9) rfl dX2_hold_9 ?_
  refine fr_iadd (od) (ct) hx hb dX2_hold_12 ?_
  refine lv_iconst (v := nI 5) hx hb dX2_hold_13 (by decide) ?_
  refine fr_irem ((od + ct)) (5) (by omega) (by omega) (by omega) hx hb dX2_hold_14 ?_
  refine fr_aald hx hb hK hP 1 (((od + ct) % 5)) rfl (by omega) (by omega) dX2_hold_15 ?_
  rcases (show ((od + ct) % 5) = 0 ∨ ((od + ct) % 5) = 1 ∨ ((od + ct) % 5) = 2 ∨ ((od + ct) % 5) = 3 ∨ ((od + ct) % 5) = 4 by omega) with q_1 | q_1 | q_1 | q_1 | q_1
  · refine fr_ref (show va_rf (plA AD ((od + ct) % 5)) = .ref (AD 2 0) from by rw [q_1]; rfl) ?_
    refine lv_aload_n hx hb dX2_hold_16 rfl (lv_at hl 1 rfl) ?_
    refine fr_Vv (As := [.ref (ac 0)]) (rest := []) (fs' := [[(((AD 8) 1), .inr (2, [.ref ((AD 8) 2), .int (nI (od)), .int (nI (ct))]))], [(((AD 8) 2), .inl (T 3, 5, .inr (.inr (.inr (.inr (plA AD))))))], stW T (AD 2) σ, stW T (AD 3) (π 1), stW T (AD 4) (π 2), stW T (AD 5) (π 3), stW T (AD 6) (π 4), stW T ac σ]) (ci := 3) (q0 := (RX3, TX3, 10)) (i0 := 2) ⟨hx, hb, hml, hown, hts⟩ (kX3_become_o l D T Z (AD 2) (π 0) ac σ) (cwV 1 hts gX2_hold_X3_become rfl rfl rfl (by decide +kernel) ⟨Nat.le_of_ble_eq_true rfl, Nat.le_of_ble_eq_true rfl⟩) hK hN hM hP hD hS hA [2, 7] rfl rfl rfl rfl rfl rfl hl.1 rfl (Nat.le_of_ble_eq_true rfl) dX2_hold_17 ⟨Nat.zero_le _, Nat.zero_le _⟩ (fun H locs hP hD hS => ?_)
    exact fr_vret hx hb hr hlk hP hS (by rw [q_1]; rfl) dX2_hold_20
  · refine fr_ref (show va_rf (plA AD ((od + ct) % 5)) = .ref (AD 3 0) from by rw [q_1]; rfl) ?_
    refine lv_aload_n hx hb dX2_hold_16 rfl (lv_at hl 1 rfl) ?_
    refine fr_Vv (As := [.ref (ac 0)]) (rest := []) (fs' := [[(((AD 8) 1), .inr (2, [.ref ((AD 8) 2), .int (nI (od)), .int (nI (ct))]))], [(((AD 8) 2), .inl (T 3, 5, .inr (.inr (.inr (.inr (plA AD))))))], stW T (AD 2) (π 0), stW T (AD 3) σ, stW T (AD 4) (π 2), stW T (AD 5) (π 3), stW T (AD 6) (π 4), stW T ac σ]) (ci := 3) (q0 := (RX3, TX3, 10)) (i0 := 3) ⟨hx, hb, hml, hown, hts⟩ (kX3_become_o l D T Z (AD 3) (π 1) ac σ) (cwV 1 hts gX2_hold_X3_become rfl rfl rfl (by decide +kernel) ⟨Nat.le_of_ble_eq_true rfl, Nat.le_of_ble_eq_true rfl⟩) hK hN hM hP hD hS hA [3, 7] rfl rfl rfl rfl rfl rfl hl.1 rfl (Nat.le_of_ble_eq_true rfl) dX2_hold_17 ⟨Nat.zero_le _, Nat.zero_le _⟩ (fun H locs hP hD hS => ?_)
    exact fr_vret hx hb hr hlk hP hS (by rw [q_1]; rfl) dX2_hold_20
  · refine fr_ref (show va_rf (plA AD ((od + ct) % 5)) = .ref (AD 4 0) from by rw [q_1]; rfl) ?_
    refine lv_aload_n hx hb dX2_hold_16 rfl (lv_at hl 1 rfl) ?_
    refine fr_Vv (As := [.ref (ac 0)]) (rest := []) (fs' := [[(((AD 8) 1), .inr (2, [.ref ((AD 8) 2), .int (nI (od)), .int (nI (ct))]))], [(((AD 8) 2), .inl (T 3, 5, .inr (.inr (.inr (.inr (plA AD))))))], stW T (AD 2) (π 0), stW T (AD 3) (π 1), stW T (AD 4) σ, stW T (AD 5) (π 3), stW T (AD 6) (π 4), stW T ac σ]) (ci := 3) (q0 := (RX3, TX3, 10)) (i0 := 4) ⟨hx, hb, hml, hown, hts⟩ (kX3_become_o l D T Z (AD 4) (π 2) ac σ) (cwV 1 hts gX2_hold_X3_become rfl rfl rfl (by decide +kernel) ⟨Nat.le_of_ble_eq_true rfl, Nat.le_of_ble_eq_true rfl⟩) hK hN hM hP hD hS hA [4, 7] rfl rfl rfl rfl rfl rfl hl.1 rfl (Nat.le_of_ble_eq_true rfl) dX2_hold_17 ⟨Nat.zero_le _, Nat.zero_le _⟩ (fun H locs hP hD hS => ?_)
    exact fr_vret hx hb hr hlk hP hS (by rw [q_1]; rfl) dX2_hold_20
  · refine fr_ref (show va_rf (plA AD ((od + ct) % 5)) = .ref (AD 5 0) from by rw [q_1]; rfl) ?_
    refine lv_aload_n hx hb dX2_hold_16 rfl (lv_at hl 1 rfl) ?_
    refine fr_Vv (As := [.ref (ac 0)]) (rest := []) (fs' := [[(((AD 8) 1), .inr (2, [.ref ((AD 8) 2), .int (nI (od)), .int (nI (ct))]))], [(((AD 8) 2), .inl (T 3, 5, .inr (.inr (.inr (.inr (plA AD))))))], stW T (AD 2) (π 0), stW T (AD 3) (π 1), stW T (AD 4) (π 2), stW T (AD 5) σ, stW T (AD 6) (π 4), stW T ac σ]) (ci := 3) (q0 := (RX3, TX3, 10)) (i0 := 5) ⟨hx, hb, hml, hown, hts⟩ (kX3_become_o l D T Z (AD 5) (π 3) ac σ) (cwV 1 hts gX2_hold_X3_become rfl rfl rfl (by decide +kernel) ⟨Nat.le_of_ble_eq_true rfl, Nat.le_of_ble_eq_true rfl⟩) hK hN hM hP hD hS hA [5, 7] rfl rfl rfl rfl rfl rfl hl.1 rfl (Nat.le_of_ble_eq_true rfl) dX2_hold_17 ⟨Nat.zero_le _, Nat.zero_le _⟩ (fun H locs hP hD hS => ?_)
    exact fr_vret hx hb hr hlk hP hS (by rw [q_1]; rfl) dX2_hold_20
  · refine fr_ref (show va_rf (plA AD ((od + ct) % 5)) = .ref (AD 6 0) from by rw [q_1]; rfl) ?_
    refine lv_aload_n hx hb dX2_hold_16 rfl (lv_at hl 1 rfl) ?_
    refine fr_Vv (As := [.ref (ac 0)]) (rest := []) (fs' := [[(((AD 8) 1), .inr (2, [.ref ((AD 8) 2), .int (nI (od)), .int (nI (ct))]))], [(((AD 8) 2), .inl (T 3, 5, .inr (.inr (.inr (.inr (plA AD))))))], stW T (AD 2) (π 0), stW T (AD 3) (π 1), stW T (AD 4) (π 2), stW T (AD 5) (π 3), stW T (AD 6) σ, stW T ac σ]) (ci := 3) (q0 := (RX3, TX3, 10)) (i0 := 6) ⟨hx, hb, hml, hown, hts⟩ (kX3_become_o l D T Z (AD 6) (π 4) ac σ) (cwV 1 hts gX2_hold_X3_become rfl rfl rfl (by decide +kernel) ⟨Nat.le_of_ble_eq_true rfl, Nat.le_of_ble_eq_true rfl⟩) hK hN hM hP hD hS hA [6, 7] rfl rfl rfl rfl rfl rfl hl.1 rfl (Nat.le_of_ble_eq_true rfl) dX2_hold_17 ⟨Nat.zero_le _, Nat.zero_le _⟩ (fun H locs hP hD hS => ?_)
    exact fr_vret hx hb hr hlk hP hS (by rw [q_1]; rfl) dX2_hold_20

set_option maxHeartbeats 8000000 in
set_option maxRecDepth 100000 in
theorem kX2_keepHeld (l : Launch) (D : va_G) (T : Nat → ClassId) (Z : ZZ) (AD : Nat → Nat → Nat) (od : Nat) (ct : Nat) (hod : od < 5) (hct : ct ≤ 4) : CtV l D T Z yX2_keepHeld wsX2_keepHeld ({ frames := 0, cells := 0, slots := 0, locals := 0 }) [[(((AD 8) 1), .inr (2, [.ref ((AD 8) 2), .int (nI (od)), .int (nI (ct))]))]] [.ref ((AD 8) 1)] [[(((AD 8) 1), .inr (2, [.ref ((AD 8) 2), .int (nI (keepO od ct)), .int (nI (keepC ct))]))]] := by
  refine CtV.of (cc := cX2_keepHeld) (maxL := 1) (ret := none) (plainFor_of_name (by decide)) rfl rfl ?_
  intro pP eE s mM bW mE cC A hE hK hN hM hP hD hA
  obtain ⟨hx, hb, hr, hts, hown, hml, hlk⟩ := hE
  have hown : s.vm.findClass RX2 = some mM.cls := hown
  have hS : va_S A s.heap s.heap [] := va_S.rf
  have hl := lv_entry ([.ref ((AD 8) 1)]) (n := 1) (Nat.le_of_ble_eq_true rfl)
  rw [lg_entry_eq]
  generalize (lg_sl ([.ref ((AD 8) 1)]) ++ List.replicate (1 - (lg_sl ([.ref ((AD 8) 1)])).length) Slot.unset).toArray = ls at hl ⊢
  have hl : lv_has ls 1 [(0, .ref ((AD 8) 1))] := hl
  have w_22 := hts (.fieldLink RX2 22 "PoisonedMemory$History" "count" "I") (by decide +kernel)
  have hinX2 : ∀ w ∈ wsX20, w ∈ wsX2_keepHeld := by decide +kernel
  have w_18 := hts (.fieldLink RX2 18 "PoisonedMemory$History" "oldest" "I") (by decide +kernel)
  refine lv_aload_n hx hb dX2_keepHeld_0 rfl (lv_at hl 0 rfl) ?_
  refine va_get (D := D) (ci := 2) (v := .int (nI (ct))) (C := RX2) (T := TX2) (N := 3) hx hb hts hinX2 hown hK (hP.at 0 rfl) 0 rfl rfl 2 (by decide) w_22 (fun _ h9 => h9) rfl dX2_keepHeld_1 ?_
  refine lv_iconst (v := nI 4) hx hb dX2_keepHeld_4 (by decide) ?_
  refine fr_icmp_ge (ct) (4) (by omega) (by decide) (tgt := 21) hx hb dX2_keepHeld_5 (by decide) (fun c_1 => ?_) (fun c_1 => ?_)
  · have c_1' := Nat.not_lt.mpr c_1
    refine lv_aload_n hx hb dX2_keepHeld_21 rfl (lv_at hl 0 rfl) ?_
    refine lv_aload_n hx hb dX2_keepHeld_22 rfl (lv_at hl 0 rfl) ?_
    refine va_get (D := D) (ci := 2) (v := .int (nI (od))) (C := RX2) (T := TX2) (N := 3) hx hb hts hinX2 hown hK (hP.at 0 rfl) 0 rfl rfl 1 (by decide) w_18 (fun _ h9 => h9) rfl dX2_keepHeld_23 ?_
    refine lv_iconst (v := nI 1) hx hb dX2_keepHeld_26 (by decide) ?_
    refine fr_iadd (od) (1) hx hb dX2_keepHeld_27 ?_
    refine lv_iconst (v := nI 5) hx hb dX2_keepHeld_28 (by decide) ?_
    refine fr_irem ((od + 1)) (5) (by omega) (by omega) (by omega) hx hb dX2_keepHeld_29 ?_
    refine fr_put (T := T) (C := RX2) (TT := TX2) (N := 3) (ci := 2) (v := .int (nI (((od + 1) % 5)))) (fs' := [[(((AD 8) 1), .inr (2, [.ref ((AD 8) 2), .int (nI (((od + 1) % 5))), .int (nI (ct))]))]]) (ty := .int) hx hb hts hinX2 tyX2 tyX2_ok nmX2 hown hK hP hD hS 0 rfl rfl 1 (by decide) rfl w_18 rfl rfl (by decide +kernel) rfl rfl (Nat.le_of_ble_eq_true rfl) dX2_keepHeld_30 (fun H locs hP hD hS => ?_)
    exact fr_vret hx hb hr hlk hP hS (by first | rfl | (simp only [keepO, keepC, c_1, c_1', ↓reduceIte, Bool.false_eq_true, bI_true, bI_false, Bool.true_and, Bool.and_true, Bool.and_false, Bool.false_and, Bool.not_true, Bool.not_false, Bool.or_true, Bool.true_or, Bool.or_false, Bool.false_or] <;> rfl) | (simp [keepO, keepC, c_1, c_1', bI]; done)) dX2_keepHeld_33
  · have c_1' := Nat.not_le.mpr c_1
    refine lv_aload_n hx hb dX2_keepHeld_8 rfl (lv_at hl 0 rfl) ?_
    refine lv_dup hx hb dX2_keepHeld_9 rfl ?_
    refine va_get (D := D) (ci := 2) (v := .int (nI (ct))) (C := RX2) (T := TX2) (N := 3) hx hb hts hinX2 hown hK (hP.at 0 rfl) 0 rfl rfl 2 (by decide) w_22 (fun _ h9 => h9) rfl dX2_keepHeld_10 ?_
    refine lv_iconst (v := nI 1) hx hb dX2_keepHeld_13 (by decide) ?_
    refine fr_iadd (ct) (1) hx hb dX2_keepHeld_14 ?_
    refine fr_put (T := T) (C := RX2) (TT := TX2) (N := 3) (ci := 2) (v := .int (nI ((ct + 1)))) (fs' := [[(((AD 8) 1), .inr (2, [.ref ((AD 8) 2), .int (nI (od)), .int (nI ((ct + 1)))]))]]) (ty := .int) hx hb hts hinX2 tyX2 tyX2_ok nmX2 hown hK hP hD hS 0 rfl rfl 2 (by decide) rfl w_22 rfl rfl (by decide +kernel) rfl rfl (Nat.le_of_ble_eq_true rfl) dX2_keepHeld_15 (fun H locs hP hD hS => ?_)
    refine lv_goto (tgt := 33) hx hb dX2_keepHeld_18 (by decide) ?_
    exact fr_vret hx hb hr hlk hP hS (by first | rfl | (simp only [keepO, keepC, c_1, c_1', ↓reduceIte, Bool.false_eq_true, bI_true, bI_false, Bool.true_and, Bool.and_true, Bool.and_false, Bool.false_and, Bool.not_true, Bool.not_false, Bool.or_true, Bool.true_or, Bool.or_false, Bool.false_or] <;> rfl) | (simp [keepO, keepC, c_1, c_1', bI]; done)) dX2_keepHeld_33

set_option maxHeartbeats 8000000 in
set_option maxRecDepth 100000 in
theorem kX2_settle (l : Launch) (D : va_G) (T : Nat → ClassId) (Z : ZZ) (AD : Nat → Nat → Nat) (od : Nat) (ct : Nat) (x : Int32) (hod : od < 5) (hct : ct ≤ 4) : CtI l D T Z yX2_settle wsX2_settle ({ frames := 1, cells := 0, slots := 0, locals := 20 }) [[(((AD 8) 1), .inr (2, [.ref ((AD 8) 2), .int (nI (od)), .int (nI (ct))]))]] [.ref ((AD 8) 1), .int (x)] (x) [[(((AD 8) 1), .inr (2, [.ref ((AD 8) 2), .int (nI (setO x od ct)), .int (nI (setC x ct))]))]] := by
  refine CtI.of (cc := cX2_settle) (maxL := 2) (ret := (some .int)) (plainFor_of_name (by decide)) rfl rfl ?_
  intro pP eE s mM bW mE cC A hE hK hN hM hP hD hA
  obtain ⟨hx, hb, hr, hts, hown, hml, hlk⟩ := hE
  have hown : s.vm.findClass RX2 = some mM.cls := hown
  have hS : va_S A s.heap s.heap [] := va_S.rf
  have hl := lv_entry ([.ref ((AD 8) 1), .int (x)]) (n := 2) (Nat.le_of_ble_eq_true rfl)
  rw [lg_entry_eq]
  generalize (lg_sl ([.ref ((AD 8) 1), .int (x)]) ++ List.replicate (2 - (lg_sl ([.ref ((AD 8) 1), .int (x)])).length) Slot.unset).toArray = ls at hl ⊢
  have hl : lv_has ls 2 [(0, .ref ((AD 8) 1)), (1, .int (x))] := hl
  have n_29 := hN.2 _ (List.mem_of_getElem? (i := 7) rfl)
  have w_iniX5 := hts (.initialized RX5) (by decide +kernel)
  have w_st29 := hts (.static yX5_isError) (by decide +kernel)
  refine lv_iload_n hx hb dX2_settle_0 rfl (lv_at hl 1 rfl) ?_
  refine fr_SN0 (As := [.int (x)]) (rest := []) ⟨hx, hb, hml, hown, hts⟩ (kX5_isError l D T Z x) ⟨va_cnB 1 hts ggX2_settle_X5_isError rfl rfl rfl n_29 w_iniX5 (by decide +kernel) ⟨Nat.le_of_ble_eq_true rfl, Nat.le_of_ble_eq_true rfl⟩, w_st29, trivial⟩ hK hN hM hP hD hS hA rfl hl.1 rfl (Nat.le_of_ble_eq_true rfl) dX2_settle_1 ⟨Nat.zero_le _, Nat.zero_le _⟩ (fun H locs hP hD hS => ?_)
  refine fr_ifne_b (tgt := 11) hx hb dX2_settle_4 (by decide) (fun c_1 => ?_) (fun c_1 => ?_)
  · refine lv_iload_n hx hb dX2_settle_11 rfl (lv_at hl 1 rfl) ?_
    exact fr_iret hx hb hr hlk hP hS rfl (by first | rfl | (simp only [setO, setC, c_1, ↓reduceIte, Bool.false_eq_true, bI_true, bI_false, Bool.true_and, Bool.and_true, Bool.and_false, Bool.false_and, Bool.not_true, Bool.not_false, Bool.or_true, Bool.true_or, Bool.or_false, Bool.false_or] <;> rfl) | (simp [setO, setC, c_1, bI]; done)) dX2_settle_12
  · refine lv_aload_n hx hb dX2_settle_7 rfl (lv_at hl 0 rfl) ?_
    refine fr_Vv (As := []) (rest := []) (fs' := [[(((AD 8) 1), .inr (2, [.ref ((AD 8) 2), .int (nI (keepO od ct)), .int (nI (keepC ct))]))]]) (ci := 2) (q0 := (RX2, TX2, 3)) (i0 := 0) ⟨hx, hb, hml, hown, hts⟩ (kX2_keepHeld l D T Z AD od ct (by omega) (by omega)) (cwV 0 hts gX2_settle_X2_keepHeld rfl rfl rfl (by decide +kernel) ⟨Nat.le_of_ble_eq_true rfl, Nat.le_of_ble_eq_true rfl⟩) hK hN hM hP hD hS hA [0] rfl rfl rfl rfl rfl rfl hl.1 rfl (Nat.le_of_ble_eq_true rfl) dX2_settle_8 ⟨Nat.zero_le _, Nat.zero_le _⟩ (fun H locs hP hD hS => ?_)
    refine lv_iload_n hx hb dX2_settle_11 rfl (lv_at hl 1 rfl) ?_
    exact fr_iret hx hb hr hlk hP hS rfl (by first | rfl | (simp only [setO, setC, c_1, ↓reduceIte, Bool.false_eq_true, bI_true, bI_false, Bool.true_and, Bool.and_true, Bool.and_false, Bool.false_and, Bool.not_true, Bool.not_false, Bool.or_true, Bool.true_or, Bool.or_false, Bool.false_or] <;> rfl) | (simp [setO, setC, c_1, bI]; done)) dX2_settle_12

set_option maxHeartbeats 8000000 in
set_option maxRecDepth 100000 in
theorem kX2_restore (l : Launch) (D : va_G) (T : Nat → ClassId) (Z : ZZ) (AD : Nat → Nat → Nat) (od : Nat) (ct : Nat) (π : Nat → NS) (ac : Nat → Nat) (σ : NS) (hod : od < 5) (hct : ct ≤ 4) : CtI l D T Z yX2_restore wsX2_restore ({ frames := 3, cells := 0, slots := 0, locals := 60 }) [[(((AD 8) 1), .inr (2, [.ref ((AD 8) 2), .int (nI (od)), .int (nI (ct))]))], [(((AD 8) 2), .inl (T 3, 5, .inr (.inr (.inr (.inr (plA AD))))))], stW T (AD 2) (π 0), stW T (AD 3) (π 1), stW T (AD 4) (π 2), stW T (AD 5) (π 3), stW T (AD 6) (π 4), stW T ac σ] [.ref ((AD 8) 1), .ref (ac 0)] (if ct = 0 then -6 else nI (ct - 1)) [[(((AD 8) 1), .inr (2, [.ref ((AD 8) 2), .int (nI (od)), .int (nI (ct - 1))]))], [(((AD 8) 2), .inl (T 3, 5, .inr (.inr (.inr (.inr (plA AD))))))], stW T (AD 2) (π 0), stW T (AD 3) (π 1), stW T (AD 4) (π 2), stW T (AD 5) (π 3), stW T (AD 6) (π 4), stW T ac (if ct = 0 then σ else π ((od + (ct - 1)) % 5))] := by
  refine CtI.of (cc := cX2_restore) (maxL := 2) (ret := (some .int)) (plainFor_of_name (by decide)) rfl (by rfl) ?_
  intro pP eE s mM bW mE cC A hE hK hN hM hP hD hA
  obtain ⟨hx, hb, hr, hts, hown, hml, hlk⟩ := hE
  have hown : s.vm.findClass RX2 = some mM.cls := hown
  have hS : va_S A s.heap s.heap [] := va_S.rf
  have hl := lv_entry ([.ref ((AD 8) 1), .ref (ac 0)]) (n := 2) (Nat.le_of_ble_eq_true rfl)
  rw [lg_entry_eq]
  generalize (lg_sl ([.ref ((AD 8) 1), .ref (ac 0)]) ++ List.replicate (2 - (lg_sl ([.ref ((AD 8) 1), .ref (ac 0)])).length) Slot.unset).toArray = ls at hl ⊢
  have hl : lv_has ls 2 [(0, .ref ((AD 8) 1)), (1, .ref (ac 0))] := hl
  have w_22 := hts (.fieldLink RX2 22 "PoisonedMemory$History" "count" "I") (by decide +kernel)
  have hinX2 : ∀ w ∈ wsX20, w ∈ wsX2_restore := by decide +kernel
  have w_13 := hts (.fieldLink RX2 13 "PoisonedMemory$History" "places" "[LPoisonedMemory$State;") (by decide +kernel)
  have w_18 := hts (.fieldLink RX2 18 "PoisonedMemory$History" "oldest" "I") (by decide +kernel)
  refine lv_aload_n hx hb dX2_restore_0 rfl (lv_at hl 0 rfl) ?_
  refine va_get (D := D) (ci := 2) (v := .int (nI (ct))) (C := RX2) (T := TX2) (N := 3) hx hb hts hinX2 hown hK (hP.at 0 rfl) 0 rfl rfl 2 (by decide) w_22 (fun _ h9 => h9) rfl dX2_restore_1 ?_
  refine fr_if_ne (ct) (by omega) (tgt := 10) hx hb dX2_restore_4 (by decide) (fun c_1 => ?_) (fun c_1 => ?_)
  · refine lv_aload_n hx hb dX2_restore_10 rfl (lv_at hl 0 rfl) ?_
    refine lv_dup hx hb dX2_restore_11 rfl ?_
    refine va_get (D := D) (ci := 2) (v := .int (nI (ct))) (C := RX2) (T := TX2) (N := 3) hx hb hts hinX2 hown hK (hP.at 0 rfl) 0 rfl rfl 2 (by decide) w_22 (fun _ h9 => h9) rfl dX2_restore_12 ?_
    refine lv_iconst (v := nI 1) hx hb dX2_restore_15 (by decide) ?_
    refine fr_isub (ct) (1) (by omega) hx hb dX2_restore_16 ?_
    refine fr_put (T := T) (C := RX2) (TT := TX2) (N := 3) (ci := 2) (v := .int (nI ((ct - 1)))) (fs' := [[(((AD 8) 1), .inr (2, [.ref ((AD 8) 2), .int (nI (od)), .int (nI ((ct - 1)))]))], [(((AD 8) 2), .inl (T 3, 5, .inr (.inr (.inr (.inr (plA AD))))))], stW T (AD 2) (π 0), stW T (AD 3) (π 1), stW T (AD 4) (π 2), stW T (AD 5) (π 3), stW T (AD 6) (π 4), stW T ac σ]) (ty := .int) hx hb hts hinX2 tyX2 tyX2_ok nmX2 hown hK hP hD hS 0 rfl rfl 2 (by decide) rfl w_22 rfl rfl (by decide +kernel) rfl rfl (Nat.le_of_ble_eq_true rfl) dX2_restore_17 (fun H locs hP hD hS => ?_)
    refine lv_aload_n hx hb dX2_restore_20 rfl (lv_at hl 1 rfl) ?_
    refine lv_aload_n hx hb dX2_restore_21 rfl (lv_at hl 0 rfl) ?_
    refine va_get (D := D) (ci := 2) (v := .ref ((AD 8) 2)) (C := RX2) (T := TX2) (N := 3) hx hb hts hinX2 hown hK (hP.at 0 rfl) 0 rfl rfl 0 (by decide) w_13 (fun _ h9 => h9) rfl dX2_restore_22 ?_
    refine lv_aload_n hx hb dX2_restore_25 rfl (lv_at hl 0 rfl) ?_
    refine va_get (D := D) (ci := 2) (v := .int (nI (od))) (C := RX2) (T := TX2) (N := 3) hx hb hts hinX2 hown hK (hP.at 0 rfl) 0 rfl rfl 1 (by decide) w_18 (fun _ h9 => h9) rfl dX2_restore_26 ?_
    refine lv_aload_n hx hb dX2_restore_29 rfl (lv_at hl 0 rfl) ?_
    refine va_get (D := D) (ci := 2) (v := .int (nI ((ct - 1)))) (C := RX2) (T := TX2) (N := 3) hx hb hts hinX2 hown hK (hP.at 0 rfl) 0 rfl rfl 2 (by decide) w_22 (fun _ h9 => h9) rfl dX2_restore_30 ?_
    refine fr_iadd (od) ((ct - 1)) hx hb dX2_restore_33 ?_
    refine lv_iconst (v := nI 5) hx hb dX2_restore_34 (by decide) ?_
    refine fr_irem ((od + (ct - 1))) (5) (by omega) (by omega) (by omega) hx hb dX2_restore_35 ?_
    refine fr_aald hx hb hK hP 1 (((od + (ct - 1)) % 5)) rfl (by omega) (by omega) dX2_restore_36 ?_
    rcases (show ((od + (ct - 1)) % 5) = 0 ∨ ((od + (ct - 1)) % 5) = 1 ∨ ((od + (ct - 1)) % 5) = 2 ∨ ((od + (ct - 1)) % 5) = 3 ∨ ((od + (ct - 1)) % 5) = 4 by omega) with q_2 | q_2 | q_2 | q_2 | q_2
    · refine fr_ref (show va_rf (plA AD ((od + (ct - 1)) % 5)) = .ref (AD 2 0) from by rw [q_2]; rfl) ?_
      refine fr_Vv (As := [.ref ((AD 2) 0)]) (rest := []) (fs' := [[(((AD 8) 1), .inr (2, [.ref ((AD 8) 2), .int (nI (od)), .int (nI ((ct - 1)))]))], [(((AD 8) 2), .inl (T 3, 5, .inr (.inr (.inr (.inr (plA AD))))))], stW T (AD 2) (π 0), stW T (AD 3) (π 1), stW T (AD 4) (π 2), stW T (AD 5) (π 3), stW T (AD 6) (π 4), stW T ac (π 0)]) (ci := 3) (q0 := (RX3, TX3, 10)) (i0 := 7) ⟨hx, hb, hml, hown, hts⟩ (kX3_become_o l D T Z ac σ (AD 2) (π 0)) (cwV 1 hts gX2_restore_X3_become rfl rfl rfl (by decide +kernel) ⟨Nat.le_of_ble_eq_true rfl, Nat.le_of_ble_eq_true rfl⟩) hK hN hM hP hD hS hA [7, 2] rfl rfl rfl rfl rfl rfl hl.1 rfl (Nat.le_of_ble_eq_true rfl) dX2_restore_37 ⟨Nat.zero_le _, Nat.zero_le _⟩ (fun H locs hP hD hS => ?_)
      refine lv_aload_n hx hb dX2_restore_40 rfl (lv_at hl 0 rfl) ?_
      refine va_get (D := D) (ci := 2) (v := .int (nI ((ct - 1)))) (C := RX2) (T := TX2) (N := 3) hx hb hts hinX2 hown hK (hP.at 0 rfl) 0 rfl rfl 2 (by decide) w_22 (fun _ h9 => h9) rfl dX2_restore_41 ?_
      exact fr_iret hx hb hr hlk hP hS (by rw [if_neg c_1]) (by rw [if_neg c_1, q_2]) dX2_restore_44
    · refine fr_ref (show va_rf (plA AD ((od + (ct - 1)) % 5)) = .ref (AD 3 0) from by rw [q_2]; rfl) ?_
      refine fr_Vv (As := [.ref ((AD 3) 0)]) (rest := []) (fs' := [[(((AD 8) 1), .inr (2, [.ref ((AD 8) 2), .int (nI (od)), .int (nI ((ct - 1)))]))], [(((AD 8) 2), .inl (T 3, 5, .inr (.inr (.inr (.inr (plA AD))))))], stW T (AD 2) (π 0), stW T (AD 3) (π 1), stW T (AD 4) (π 2), stW T (AD 5) (π 3), stW T (AD 6) (π 4), stW T ac (π 1)]) (ci := 3) (q0 := (RX3, TX3, 10)) (i0 := 7) ⟨hx, hb, hml, hown, hts⟩ (kX3_become_o l D T Z ac σ (AD 3) (π 1)) (cwV 1 hts gX2_restore_X3_become rfl rfl rfl (by decide +kernel) ⟨Nat.le_of_ble_eq_true rfl, Nat.le_of_ble_eq_true rfl⟩) hK hN hM hP hD hS hA [7, 3] rfl rfl rfl rfl rfl rfl hl.1 rfl (Nat.le_of_ble_eq_true rfl) dX2_restore_37 ⟨Nat.zero_le _, Nat.zero_le _⟩ (fun H locs hP hD hS => ?_)
      refine lv_aload_n hx hb dX2_restore_40 rfl (lv_at hl 0 rfl) ?_
      refine va_get (D := D) (ci := 2) (v := .int (nI ((ct - 1)))) (C := RX2) (T := TX2) (N := 3) hx hb hts hinX2 hown hK (hP.at 0 rfl) 0 rfl rfl 2 (by decide) w_22 (fun _ h9 => h9) rfl dX2_restore_41 ?_
      exact fr_iret hx hb hr hlk hP hS (by rw [if_neg c_1]) (by rw [if_neg c_1, q_2]) dX2_restore_44
    · refine fr_ref (show va_rf (plA AD ((od + (ct - 1)) % 5)) = .ref (AD 4 0) from by rw [q_2]; rfl) ?_
      refine fr_Vv (As := [.ref ((AD 4) 0)]) (rest := []) (fs' := [[(((AD 8) 1), .inr (2, [.ref ((AD 8) 2), .int (nI (od)), .int (nI ((ct - 1)))]))], [(((AD 8) 2), .inl (T 3, 5, .inr (.inr (.inr (.inr (plA AD))))))], stW T (AD 2) (π 0), stW T (AD 3) (π 1), stW T (AD 4) (π 2), stW T (AD 5) (π 3), stW T (AD 6) (π 4), stW T ac (π 2)]) (ci := 3) (q0 := (RX3, TX3, 10)) (i0 := 7) ⟨hx, hb, hml, hown, hts⟩ (kX3_become_o l D T Z ac σ (AD 4) (π 2)) (cwV 1 hts gX2_restore_X3_become rfl rfl rfl (by decide +kernel) ⟨Nat.le_of_ble_eq_true rfl, Nat.le_of_ble_eq_true rfl⟩) hK hN hM hP hD hS hA [7, 4] rfl rfl rfl rfl rfl rfl hl.1 rfl (Nat.le_of_ble_eq_true rfl) dX2_restore_37 ⟨Nat.zero_le _, Nat.zero_le _⟩ (fun H locs hP hD hS => ?_)
      refine lv_aload_n hx hb dX2_restore_40 rfl (lv_at hl 0 rfl) ?_
      refine va_get (D := D) (ci := 2) (v := .int (nI ((ct - 1)))) (C := RX2) (T := TX2) (N := 3) hx hb hts hinX2 hown hK (hP.at 0 rfl) 0 rfl rfl 2 (by decide) w_22 (fun _ h9 => h9) rfl dX2_restore_41 ?_
      exact fr_iret hx hb hr hlk hP hS (by rw [if_neg c_1]) (by rw [if_neg c_1, q_2]) dX2_restore_44
    · refine fr_ref (show va_rf (plA AD ((od + (ct - 1)) % 5)) = .ref (AD 5 0) from by rw [q_2]; rfl) ?_
      refine fr_Vv (As := [.ref ((AD 5) 0)]) (rest := []) (fs' := [[(((AD 8) 1), .inr (2, [.ref ((AD 8) 2), .int (nI (od)), .int (nI ((ct - 1)))]))], [(((AD 8) 2), .inl (T 3, 5, .inr (.inr (.inr (.inr (plA AD))))))], stW T (AD 2) (π 0), stW T (AD 3) (π 1), stW T (AD 4) (π 2), stW T (AD 5) (π 3), stW T (AD 6) (π 4), stW T ac (π 3)]) (ci := 3) (q0 := (RX3, TX3, 10)) (i0 := 7) ⟨hx, hb, hml, hown, hts⟩ (kX3_become_o l D T Z ac σ (AD 5) (π 3)) (cwV 1 hts gX2_restore_X3_become rfl rfl rfl (by decide +kernel) ⟨Nat.le_of_ble_eq_true rfl, Nat.le_of_ble_eq_true rfl⟩) hK hN hM hP hD hS hA [7, 5] rfl rfl rfl rfl rfl rfl hl.1 rfl (Nat.le_of_ble_eq_true rfl) dX2_restore_37 ⟨Nat.zero_le _, Nat.zero_le _⟩ (fun H locs hP hD hS => ?_)
      refine lv_aload_n hx hb dX2_restore_40 rfl (lv_at hl 0 rfl) ?_
      refine va_get (D := D) (ci := 2) (v := .int (nI ((ct - 1)))) (C := RX2) (T := TX2) (N := 3) hx hb hts hinX2 hown hK (hP.at 0 rfl) 0 rfl rfl 2 (by decide) w_22 (fun _ h9 => h9) rfl dX2_restore_41 ?_
      exact fr_iret hx hb hr hlk hP hS (by rw [if_neg c_1]) (by rw [if_neg c_1, q_2]) dX2_restore_44
    · refine fr_ref (show va_rf (plA AD ((od + (ct - 1)) % 5)) = .ref (AD 6 0) from by rw [q_2]; rfl) ?_
      refine fr_Vv (As := [.ref ((AD 6) 0)]) (rest := []) (fs' := [[(((AD 8) 1), .inr (2, [.ref ((AD 8) 2), .int (nI (od)), .int (nI ((ct - 1)))]))], [(((AD 8) 2), .inl (T 3, 5, .inr (.inr (.inr (.inr (plA AD))))))], stW T (AD 2) (π 0), stW T (AD 3) (π 1), stW T (AD 4) (π 2), stW T (AD 5) (π 3), stW T (AD 6) (π 4), stW T ac (π 4)]) (ci := 3) (q0 := (RX3, TX3, 10)) (i0 := 7) ⟨hx, hb, hml, hown, hts⟩ (kX3_become_o l D T Z ac σ (AD 6) (π 4)) (cwV 1 hts gX2_restore_X3_become rfl rfl rfl (by decide +kernel) ⟨Nat.le_of_ble_eq_true rfl, Nat.le_of_ble_eq_true rfl⟩) hK hN hM hP hD hS hA [7, 6] rfl rfl rfl rfl rfl rfl hl.1 rfl (Nat.le_of_ble_eq_true rfl) dX2_restore_37 ⟨Nat.zero_le _, Nat.zero_le _⟩ (fun H locs hP hD hS => ?_)
      refine lv_aload_n hx hb dX2_restore_40 rfl (lv_at hl 0 rfl) ?_
      refine va_get (D := D) (ci := 2) (v := .int (nI ((ct - 1)))) (C := RX2) (T := TX2) (N := 3) hx hb hts hinX2 hown hK (hP.at 0 rfl) 0 rfl rfl 2 (by decide) w_22 (fun _ h9 => h9) rfl dX2_restore_41 ?_
      exact fr_iret hx hb hr hlk hP hS (by rw [if_neg c_1]) (by rw [if_neg c_1, q_2]) dX2_restore_44
  · refine lv_bipush (v := (-6)) hx hb dX2_restore_7 (by decide) ?_
    exact fr_iret hx hb hr hlk hP hS (by rw [if_pos c_1]) (by rw [if_pos c_1, c_1]) dX2_restore_9
