set_option maxHeartbeats 8000000 in
set_option maxRecDepth 100000 in
theorem kX2_init (l : Launch) (D : va_G) (T : Nat → ClassId) (Z : ZZ) (h0 : Nat) : CtN l D T Z yX2_init wsX2_init ({ frames := 3, cells := 96, slots := 1655, locals := 64 }) [[(h0, .inr (2, [.null, .int (nI 0), .int (nI 0)]))]] [.ref h0] 96 1655 (fun AD => AD 8 1 = h0) (fun AD : Nat → Nat → Nat => hisF T AD (hco (AD 2 0) (AD 3 0) (AD 4 0) (AD 5 0) (AD 6 0))) := by
  refine CtN.of (cc := cX2_init) (maxL := 2) (ret := none) (plainFor_of_name (by decide)) rfl rfl ?_
  intro pP eE s mM bW mE cC A hE hin hQ hK hN hM hP hD hA
  obtain ⟨hx, hb, hr, hts, hown, hml, hlk⟩ := hE
  have hown : s.vm.findClass RX2 = some mM.cls := hown
  have hS : va_S A s.heap s.heap [] := va_S.rf
  have hl := lv_entry ([.ref h0]) (n := 2) (Nat.le_of_ble_eq_true rfl)
  rw [lg_entry_eq]
  generalize (lg_sl ([.ref h0]) ++ List.replicate (2 - (lg_sl ([.ref h0])).length) Slot.unset).toArray = ls at hl ⊢
  have hl : lv_has ls 2 [(0, .ref h0)] := hl
  have w_oi := hts (.methodLink RX2 3 objectInit) (by decide +kernel)
  have w_oim := hts (.instanceMethod objectInit) (by decide +kernel)
  have w_oic := hts (.code objectInit ⟨#[0xb1]⟩ 1 none) (by decide +kernel)
  have w_cl11 := hts (.classLink RX2 11 RX3) (by decide +kernel)
  have w_13 := hts (.fieldLink RX2 13 "PoisonedMemory$History" "places" "[LPoisonedMemory$State;") (by decide +kernel)
  have hinX2 : ∀ w ∈ wsX20, w ∈ wsX2_init := by decide +kernel
  have w_inX3 := hts (.instantiable RX3 10) (by decide +kernel)
  have w_iniX3 := hts (.initialized RX3) (by decide +kernel)
  have hinX3 : ∀ w ∈ wsX30, w ∈ wsX2_init := by decide +kernel
  have w_imX3 := hts (.instanceMethod yX3_init) (by decide +kernel)
  have n_17 := hN.2 _ (List.mem_of_getElem? (i := 6) rfl)
  refine lv_aload_n hx hb dX2_init_0 rfl (lv_at hl 0 rfl) ?_
  refine W.objInit hx hb hown w_oi w_oim w_oic rfl (by rw [hml]; exact hl.1) rfl dX2_init_1 (Nat.le_of_ble_eq_true rfl) (Nat.le_of_ble_eq_true rfl) ?_
  refine W.eq (g2 := F0 mM 4 ls []) rfl ?_
  refine lv_aload_n hx hb dX2_init_4 rfl (lv_at hl 0 rfl) ?_
  refine lv_iconst (v := nI 5) hx hb dX2_init_5 (by decide) ?_
  refine fr_newq (t := 3) hx hb hown w_cl11 hQ rfl hK hP hD hS hA (n := 5) (by decide) (by decide) (Nat.le_of_ble_eq_true rfl) (Nat.le_of_ble_eq_true rfl) dX2_init_6 (fun q1 H hP hD hS => ?_)
  have hP : frP D [[(h0, .inr (2, [.null, .int (nI 0), .int (nI 0)]))], [(q1, .inl (T 3, 5, .inr (.inr (.inr (.inr ((fun _ => none)))))))]] _ := hP
  have hD : va_D A ([[(h0, .inr (2, [.null, .int (nI 0), .int (nI 0)]))], [(q1, .inl (T 3, 5, .inr (.inr (.inr (.inr ((fun _ => none)))))))]] : List va_W).flatten := hD
  refine fr_putF (T := T) (C := RX2) (TT := TX2) (N := 3) (ci := 2) (v := .ref q1) (fs' := [[(h0, .inr (2, [.ref q1, .int (nI 0), .int (nI 0)]))], [(q1, .inl (T 3, 5, .inr (.inr (.inr (.inr ((fun _ => none)))))))]]) (ty := (.array (.object "PoisonedMemory$State"))) hx hb hts hinX2 tyX2 tyX2_ok nmX2 hown hK hP hD hS 0 rfl rfl 0 (by decide) rfl w_13 rfl rfl hin rfl (by decide +kernel) rfl rfl (Nat.le_of_ble_eq_true rfl) dX2_init_9 (fun H locs hP hD hS => ?_)
  refine lv_iconst (v := nI 0) hx hb dX2_init_12 (by decide) ?_
  refine lv_istore_n (lv' := [(1, .int (nI 0)), (0, .ref h0)]) hx hb dX2_init_13 rfl hl (by decide) rfl (fun ls hl => ?_)
  refine lv_iload_n hx hb dX2_init_14 rfl (lv_at hl 0 rfl) ?_
  refine lv_iconst (v := nI 5) hx hb dX2_init_15 (by decide) ?_
  refine fr_icmp_ge 0 5 (by decide) (by decide) (tgt := 38) hx hb dX2_init_16 (by decide) (fun z => absurd z (by decide)) (fun _ => ?_)
  refine lv_aload_n hx hb dX2_init_19 rfl (lv_at hl 1 rfl) ?_
  refine va_get (D := D) (ci := 2) (v := .ref q1) (C := RX2) (T := TX2) (N := 3) hx hb hts hinX2 hown hK (hP.at 0 rfl) 0 rfl rfl 0 (by decide) w_13 (fun _ h9 => h9) rfl dX2_init_20 ?_
  refine lv_iload_n hx hb dX2_init_23 rfl (lv_at hl 0 rfl) ?_
  refine fr_newo (T := T) (ci := 3) (C := RX3) (TT := TX3) (N := 10) (vs := [.null, .null, .null, .null, .null, .null, .null, .null, .int (nI 0), .int (nI 0)]) hx hb hts hinX3 tyX3 tyX3_ok hown w_cl11 w_inX3 w_iniX3 hK hP hD hS hA rfl (fun j hj => by rcases (show j = 0 ∨ j = 1 ∨ j = 2 ∨ j = 3 ∨ j = 4 ∨ j = 5 ∨ j = 6 ∨ j = 7 ∨ j = 8 ∨ j = 9 by omega) with rfl | rfl | rfl | rfl | rfl | rfl | rfl | rfl | rfl | rfl <;> rfl) (Nat.le_of_ble_eq_true rfl) (Nat.le_of_ble_eq_true rfl) dX2_init_24 (fun q2 H hP hD hS => ?_)
  have hP : frP D [[(h0, .inr (2, [.ref q1, .int (nI 0), .int (nI 0)]))], [(q1, .inl (T 3, 5, .inr (.inr (.inr (.inr ((fun _ => none)))))))], [(q2, .inr (3, [.null, .null, .null, .null, .null, .null, .null, .null, .int (nI 0), .int (nI 0)]))]] _ := hP
  have hD : va_D A ([[(h0, .inr (2, [.ref q1, .int (nI 0), .int (nI 0)]))], [(q1, .inl (T 3, 5, .inr (.inr (.inr (.inr ((fun _ => none)))))))], [(q2, .inr (3, [.null, .null, .null, .null, .null, .null, .null, .null, .int (nI 0), .int (nI 0)]))]] : List va_W).flatten := hD
  refine lv_dup hx hb dX2_init_27 rfl ?_
  have hPc : frP D (([[(h0, .inr (2, [.ref q1, .int (nI 0), .int (nI 0)]))], [(q1, .inl (T 3, 5, .inr (.inr (.inr (.inr ((fun _ => none)))))))]] : List va_W) ++ ([[(q2, .inr (3, [.null, .null, .null, .null, .null, .null, .null, .null, .int (nI 0), .int (nI 0)]))]] : List va_W)) _ := hP
  have hDc : va_D A (([[(h0, .inr (2, [.ref q1, .int (nI 0), .int (nI 0)]))], [(q1, .inl (T 3, 5, .inr (.inr (.inr (.inr ((fun _ => none)))))))]] : List va_W) ++ ([[(q2, .inr (3, [.null, .null, .null, .null, .null, .null, .null, .null, .int (nI 0), .int (nI 0)]))]] : List va_W)).flatten := hD
  refine fr_IN (As := []) (rest := [.ref q2, .int (nI 0), .ref q1]) ⟨hx, hb, hml, hown, hts⟩ (kX3_init_o l D T Z q2) ⟨va_cnB 0 hts ggX2_init_X3_init rfl rfl rfl n_17 w_iniX3 (by decide +kernel) ⟨Nat.le_of_ble_eq_true rfl, Nat.le_of_ble_eq_true rfl⟩, rfl, w_imX3⟩ hQ hK hN hM hPc hDc hS hA rfl hl.1 rfl (Nat.le_of_ble_eq_true rfl) dX2_init_28 ⟨Nat.le_of_ble_eq_true rfl, Nat.le_of_ble_eq_true rfl⟩ (fun ad3 H locs hpo hP9 hD9 hS9 => ?_)
  obtain rfl : q2 = (ad3 0) := hpo.symm
  have hP : frP D [[(h0, .inr (2, [.ref q1, .int (nI 0), .int (nI 0)]))], [(q1, .inl (T 3, 5, .inr (.inr (.inr (.inr ((fun _ => none)))))))], stW T ad3 N0] _ := hP9
  have hD : va_D A ([[(h0, .inr (2, [.ref q1, .int (nI 0), .int (nI 0)]))], [(q1, .inl (T 3, 5, .inr (.inr (.inr (.inr ((fun _ => none)))))))], stW T ad3 N0] : List va_W).flatten := hD9
  have hS := hS9
  refine fr_astq (t := 3) (ci := 3) (j := 2) (r := (RX3, TX3, 10)) (fs' := [[(h0, .inr (2, [.ref q1, .int (nI 0), .int (nI 0)]))], [(q1, .inl (T 3, 5, .inr (.inr (.inr (.inr (va_up (fun _ => none) 0 (some (ad3 0))))))))], stW T ad3 N0]) hx hb hK hP hD hS 1 0 rfl rfl rfl rfl rfl (by decide) (by decide) dX2_init_31 (fun H locs hP hD hS => ?_)
  refine fr_iinc (0) (1) (nI_inc _) (lv' := [(1, .int (nI 1)), (0, .ref h0)]) (k := 0) hx hb dX2_init_32 hl rfl (by decide) rfl (fun ls hl => ?_)
  refine lv_goto (tgt := 14) hx hb dX2_init_35 (by decide) ?_
  refine lv_iload_n hx hb dX2_init_14 rfl (lv_at hl 0 rfl) ?_
  refine lv_iconst (v := nI 5) hx hb dX2_init_15 (by decide) ?_
  refine fr_icmp_ge 1 5 (by decide) (by decide) (tgt := 38) hx hb dX2_init_16 (by decide) (fun z => absurd z (by decide)) (fun _ => ?_)
  refine lv_aload_n hx hb dX2_init_19 rfl (lv_at hl 1 rfl) ?_
  refine va_get (D := D) (ci := 2) (v := .ref q1) (C := RX2) (T := TX2) (N := 3) hx hb hts hinX2 hown hK (hP.at 0 rfl) 0 rfl rfl 0 (by decide) w_13 (fun _ h9 => h9) rfl dX2_init_20 ?_
  refine lv_iload_n hx hb dX2_init_23 rfl (lv_at hl 0 rfl) ?_
  refine fr_newo (T := T) (ci := 3) (C := RX3) (TT := TX3) (N := 10) (vs := [.null, .null, .null, .null, .null, .null, .null, .null, .int (nI 0), .int (nI 0)]) hx hb hts hinX3 tyX3 tyX3_ok hown w_cl11 w_inX3 w_iniX3 hK hP hD hS hA rfl (fun j hj => by rcases (show j = 0 ∨ j = 1 ∨ j = 2 ∨ j = 3 ∨ j = 4 ∨ j = 5 ∨ j = 6 ∨ j = 7 ∨ j = 8 ∨ j = 9 by omega) with rfl | rfl | rfl | rfl | rfl | rfl | rfl | rfl | rfl | rfl <;> rfl) (Nat.le_of_ble_eq_true rfl) (Nat.le_of_ble_eq_true rfl) dX2_init_24 (fun q4 H hP hD hS => ?_)
  have hP : frP D [[(h0, .inr (2, [.ref q1, .int (nI 0), .int (nI 0)]))], [(q1, .inl (T 3, 5, .inr (.inr (.inr (.inr (va_up (fun _ => none) 0 (some (ad3 0))))))))], stW T ad3 N0, [(q4, .inr (3, [.null, .null, .null, .null, .null, .null, .null, .null, .int (nI 0), .int (nI 0)]))]] _ := hP
  have hD : va_D A ([[(h0, .inr (2, [.ref q1, .int (nI 0), .int (nI 0)]))], [(q1, .inl (T 3, 5, .inr (.inr (.inr (.inr (va_up (fun _ => none) 0 (some (ad3 0))))))))], stW T ad3 N0, [(q4, .inr (3, [.null, .null, .null, .null, .null, .null, .null, .null, .int (nI 0), .int (nI 0)]))]] : List va_W).flatten := hD
  refine lv_dup hx hb dX2_init_27 rfl ?_
  have hPc : frP D (([[(h0, .inr (2, [.ref q1, .int (nI 0), .int (nI 0)]))], [(q1, .inl (T 3, 5, .inr (.inr (.inr (.inr (va_up (fun _ => none) 0 (some (ad3 0))))))))], stW T ad3 N0] : List va_W) ++ ([[(q4, .inr (3, [.null, .null, .null, .null, .null, .null, .null, .null, .int (nI 0), .int (nI 0)]))]] : List va_W)) _ := hP
  have hDc : va_D A (([[(h0, .inr (2, [.ref q1, .int (nI 0), .int (nI 0)]))], [(q1, .inl (T 3, 5, .inr (.inr (.inr (.inr (va_up (fun _ => none) 0 (some (ad3 0))))))))], stW T ad3 N0] : List va_W) ++ ([[(q4, .inr (3, [.null, .null, .null, .null, .null, .null, .null, .null, .int (nI 0), .int (nI 0)]))]] : List va_W)).flatten := hD
  refine fr_IN (As := []) (rest := [.ref q4, .int (nI 1), .ref q1]) ⟨hx, hb, hml, hown, hts⟩ (kX3_init_o l D T Z q4) ⟨va_cnB 0 hts ggX2_init_X3_init rfl rfl rfl n_17 w_iniX3 (by decide +kernel) ⟨Nat.le_of_ble_eq_true rfl, Nat.le_of_ble_eq_true rfl⟩, rfl, w_imX3⟩ hQ hK hN hM hPc hDc hS hA rfl hl.1 rfl (Nat.le_of_ble_eq_true rfl) dX2_init_28 ⟨Nat.le_of_ble_eq_true rfl, Nat.le_of_ble_eq_true rfl⟩ (fun ad5 H locs hpo hP9 hD9 hS9 => ?_)
  obtain rfl : q4 = (ad5 0) := hpo.symm
  have hP : frP D [[(h0, .inr (2, [.ref q1, .int (nI 0), .int (nI 0)]))], [(q1, .inl (T 3, 5, .inr (.inr (.inr (.inr (va_up (fun _ => none) 0 (some (ad3 0))))))))], stW T ad3 N0, stW T ad5 N0] _ := hP9
  have hD : va_D A ([[(h0, .inr (2, [.ref q1, .int (nI 0), .int (nI 0)]))], [(q1, .inl (T 3, 5, .inr (.inr (.inr (.inr (va_up (fun _ => none) 0 (some (ad3 0))))))))], stW T ad3 N0, stW T ad5 N0] : List va_W).flatten := hD9
  have hS := hS9
  refine fr_astq (t := 3) (ci := 3) (j := 3) (r := (RX3, TX3, 10)) (fs' := [[(h0, .inr (2, [.ref q1, .int (nI 0), .int (nI 0)]))], [(q1, .inl (T 3, 5, .inr (.inr (.inr (.inr (va_up (va_up (fun _ => none) 0 (some (ad3 0))) 1 (some (ad5 0))))))))], stW T ad3 N0, stW T ad5 N0]) hx hb hK hP hD hS 1 1 rfl rfl rfl rfl rfl (by decide) (by decide) dX2_init_31 (fun H locs hP hD hS => ?_)
  refine fr_iinc (1) (2) (nI_inc _) (lv' := [(1, .int (nI 2)), (0, .ref h0)]) (k := 0) hx hb dX2_init_32 hl rfl (by decide) rfl (fun ls hl => ?_)
  refine lv_goto (tgt := 14) hx hb dX2_init_35 (by decide) ?_
  refine lv_iload_n hx hb dX2_init_14 rfl (lv_at hl 0 rfl) ?_
  refine lv_iconst (v := nI 5) hx hb dX2_init_15 (by decide) ?_
  refine fr_icmp_ge 2 5 (by decide) (by decide) (tgt := 38) hx hb dX2_init_16 (by decide) (fun z => absurd z (by decide)) (fun _ => ?_)
  refine lv_aload_n hx hb dX2_init_19 rfl (lv_at hl 1 rfl) ?_
  refine va_get (D := D) (ci := 2) (v := .ref q1) (C := RX2) (T := TX2) (N := 3) hx hb hts hinX2 hown hK (hP.at 0 rfl) 0 rfl rfl 0 (by decide) w_13 (fun _ h9 => h9) rfl dX2_init_20 ?_
  refine lv_iload_n hx hb dX2_init_23 rfl (lv_at hl 0 rfl) ?_
  refine fr_newo (T := T) (ci := 3) (C := RX3) (TT := TX3) (N := 10) (vs := [.null, .null, .null, .null, .null, .null, .null, .null, .int (nI 0), .int (nI 0)]) hx hb hts hinX3 tyX3 tyX3_ok hown w_cl11 w_inX3 w_iniX3 hK hP hD hS hA rfl (fun j hj => by rcases (show j = 0 ∨ j = 1 ∨ j = 2 ∨ j = 3 ∨ j = 4 ∨ j = 5 ∨ j = 6 ∨ j = 7 ∨ j = 8 ∨ j = 9 by omega) with rfl | rfl | rfl | rfl | rfl | rfl | rfl | rfl | rfl | rfl <;> rfl) (Nat.le_of_ble_eq_true rfl) (Nat.le_of_ble_eq_true rfl) dX2_init_24 (fun q6 H hP hD hS => ?_)
  have hP : frP D [[(h0, .inr (2, [.ref q1, .int (nI 0), .int (nI 0)]))], [(q1, .inl (T 3, 5, .inr (.inr (.inr (.inr (va_up (va_up (fun _ => none) 0 (some (ad3 0))) 1 (some (ad5 0))))))))], stW T ad3 N0, stW T ad5 N0, [(q6, .inr (3, [.null, .null, .null, .null, .null, .null, .null, .null, .int (nI 0), .int (nI 0)]))]] _ := hP
  have hD : va_D A ([[(h0, .inr (2, [.ref q1, .int (nI 0), .int (nI 0)]))], [(q1, .inl (T 3, 5, .inr (.inr (.inr (.inr (va_up (va_up (fun _ => none) 0 (some (ad3 0))) 1 (some (ad5 0))))))))], stW T ad3 N0, stW T ad5 N0, [(q6, .inr (3, [.null, .null, .null, .null, .null, .null, .null, .null, .int (nI 0), .int (nI 0)]))]] : List va_W).flatten := hD
  refine lv_dup hx hb dX2_init_27 rfl ?_
  have hPc : frP D (([[(h0, .inr (2, [.ref q1, .int (nI 0), .int (nI 0)]))], [(q1, .inl (T 3, 5, .inr (.inr (.inr (.inr (va_up (va_up (fun _ => none) 0 (some (ad3 0))) 1 (some (ad5 0))))))))], stW T ad3 N0, stW T ad5 N0] : List va_W) ++ ([[(q6, .inr (3, [.null, .null, .null, .null, .null, .null, .null, .null, .int (nI 0), .int (nI 0)]))]] : List va_W)) _ := hP
  have hDc : va_D A (([[(h0, .inr (2, [.ref q1, .int (nI 0), .int (nI 0)]))], [(q1, .inl (T 3, 5, .inr (.inr (.inr (.inr (va_up (va_up (fun _ => none) 0 (some (ad3 0))) 1 (some (ad5 0))))))))], stW T ad3 N0, stW T ad5 N0] : List va_W) ++ ([[(q6, .inr (3, [.null, .null, .null, .null, .null, .null, .null, .null, .int (nI 0), .int (nI 0)]))]] : List va_W)).flatten := hD
  refine fr_IN (As := []) (rest := [.ref q6, .int (nI 2), .ref q1]) ⟨hx, hb, hml, hown, hts⟩ (kX3_init_o l D T Z q6) ⟨va_cnB 0 hts ggX2_init_X3_init rfl rfl rfl n_17 w_iniX3 (by decide +kernel) ⟨Nat.le_of_ble_eq_true rfl, Nat.le_of_ble_eq_true rfl⟩, rfl, w_imX3⟩ hQ hK hN hM hPc hDc hS hA rfl hl.1 rfl (Nat.le_of_ble_eq_true rfl) dX2_init_28 ⟨Nat.le_of_ble_eq_true rfl, Nat.le_of_ble_eq_true rfl⟩ (fun ad7 H locs hpo hP9 hD9 hS9 => ?_)
  obtain rfl : q6 = (ad7 0) := hpo.symm
  have hP : frP D [[(h0, .inr (2, [.ref q1, .int (nI 0), .int (nI 0)]))], [(q1, .inl (T 3, 5, .inr (.inr (.inr (.inr (va_up (va_up (fun _ => none) 0 (some (ad3 0))) 1 (some (ad5 0))))))))], stW T ad3 N0, stW T ad5 N0, stW T ad7 N0] _ := hP9
  have hD : va_D A ([[(h0, .inr (2, [.ref q1, .int (nI 0), .int (nI 0)]))], [(q1, .inl (T 3, 5, .inr (.inr (.inr (.inr (va_up (va_up (fun _ => none) 0 (some (ad3 0))) 1 (some (ad5 0))))))))], stW T ad3 N0, stW T ad5 N0, stW T ad7 N0] : List va_W).flatten := hD9
  have hS := hS9
  refine fr_astq (t := 3) (ci := 3) (j := 4) (r := (RX3, TX3, 10)) (fs' := [[(h0, .inr (2, [.ref q1, .int (nI 0), .int (nI 0)]))], [(q1, .inl (T 3, 5, .inr (.inr (.inr (.inr (va_up (va_up (va_up (fun _ => none) 0 (some (ad3 0))) 1 (some (ad5 0))) 2 (some (ad7 0))))))))], stW T ad3 N0, stW T ad5 N0, stW T ad7 N0]) hx hb hK hP hD hS 1 2 rfl rfl rfl rfl rfl (by decide) (by decide) dX2_init_31 (fun H locs hP hD hS => ?_)
  refine fr_iinc (2) (3) (nI_inc _) (lv' := [(1, .int (nI 3)), (0, .ref h0)]) (k := 0) hx hb dX2_init_32 hl rfl (by decide) rfl (fun ls hl => ?_)
  refine lv_goto (tgt := 14) hx hb dX2_init_35 (by decide) ?_
  refine lv_iload_n hx hb dX2_init_14 rfl (lv_at hl 0 rfl) ?_
  refine lv_iconst (v := nI 5) hx hb dX2_init_15 (by decide) ?_
  refine fr_icmp_ge 3 5 (by decide) (by decide) (tgt := 38) hx hb dX2_init_16 (by decide) (fun z => absurd z (by decide)) (fun _ => ?_)
  refine lv_aload_n hx hb dX2_init_19 rfl (lv_at hl 1 rfl) ?_
  refine va_get (D := D) (ci := 2) (v := .ref q1) (C := RX2) (T := TX2) (N := 3) hx hb hts hinX2 hown hK (hP.at 0 rfl) 0 rfl rfl 0 (by decide) w_13 (fun _ h9 => h9) rfl dX2_init_20 ?_
  refine lv_iload_n hx hb dX2_init_23 rfl (lv_at hl 0 rfl) ?_
  refine fr_newo (T := T) (ci := 3) (C := RX3) (TT := TX3) (N := 10) (vs := [.null, .null, .null, .null, .null, .null, .null, .null, .int (nI 0), .int (nI 0)]) hx hb hts hinX3 tyX3 tyX3_ok hown w_cl11 w_inX3 w_iniX3 hK hP hD hS hA rfl (fun j hj => by rcases (show j = 0 ∨ j = 1 ∨ j = 2 ∨ j = 3 ∨ j = 4 ∨ j = 5 ∨ j = 6 ∨ j = 7 ∨ j = 8 ∨ j = 9 by omega) with rfl | rfl | rfl | rfl | rfl | rfl | rfl | rfl | rfl | rfl <;> rfl) (Nat.le_of_ble_eq_true rfl) (Nat.le_of_ble_eq_true rfl) dX2_init_24 (fun q8 H hP hD hS => ?_)
  have hP : frP D [[(h0, .inr (2, [.ref q1, .int (nI 0), .int (nI 0)]))], [(q1, .inl (T 3, 5, .inr (.inr (.inr (.inr (va_up (va_up (va_up (fun _ => none) 0 (some (ad3 0))) 1 (some (ad5 0))) 2 (some (ad7 0))))))))], stW T ad3 N0, stW T ad5 N0, stW T ad7 N0, [(q8, .inr (3, [.null, .null, .null, .null, .null, .null, .null, .null, .int (nI 0), .int (nI 0)]))]] _ := hP
  have hD : va_D A ([[(h0, .inr (2, [.ref q1, .int (nI 0), .int (nI 0)]))], [(q1, .inl (T 3, 5, .inr (.inr (.inr (.inr (va_up (va_up (va_up (fun _ => none) 0 (some (ad3 0))) 1 (some (ad5 0))) 2 (some (ad7 0))))))))], stW T ad3 N0, stW T ad5 N0, stW T ad7 N0, [(q8, .inr (3, [.null, .null, .null, .null, .null, .null, .null, .null, .int (nI 0), .int (nI 0)]))]] : List va_W).flatten := hD
  refine lv_dup hx hb dX2_init_27 rfl ?_
  have hPc : frP D (([[(h0, .inr (2, [.ref q1, .int (nI 0), .int (nI 0)]))], [(q1, .inl (T 3, 5, .inr (.inr (.inr (.inr (va_up (va_up (va_up (fun _ => none) 0 (some (ad3 0))) 1 (some (ad5 0))) 2 (some (ad7 0))))))))], stW T ad3 N0, stW T ad5 N0, stW T ad7 N0] : List va_W) ++ ([[(q8, .inr (3, [.null, .null, .null, .null, .null, .null, .null, .null, .int (nI 0), .int (nI 0)]))]] : List va_W)) _ := hP
  have hDc : va_D A (([[(h0, .inr (2, [.ref q1, .int (nI 0), .int (nI 0)]))], [(q1, .inl (T 3, 5, .inr (.inr (.inr (.inr (va_up (va_up (va_up (fun _ => none) 0 (some (ad3 0))) 1 (some (ad5 0))) 2 (some (ad7 0))))))))], stW T ad3 N0, stW T ad5 N0, stW T ad7 N0] : List va_W) ++ ([[(q8, .inr (3, [.null, .null, .null, .null, .null, .null, .null, .null, .int (nI 0), .int (nI 0)]))]] : List va_W)).flatten := hD
  refine fr_IN (As := []) (rest := [.ref q8, .int (nI 3), .ref q1]) ⟨hx, hb, hml, hown, hts⟩ (kX3_init_o l D T Z q8) ⟨va_cnB 0 hts ggX2_init_X3_init rfl rfl rfl n_17 w_iniX3 (by decide +kernel) ⟨Nat.le_of_ble_eq_true rfl, Nat.le_of_ble_eq_true rfl⟩, rfl, w_imX3⟩ hQ hK hN hM hPc hDc hS hA rfl hl.1 rfl (Nat.le_of_ble_eq_true rfl) dX2_init_28 ⟨Nat.le_of_ble_eq_true rfl, Nat.le_of_ble_eq_true rfl⟩ (fun ad9 H locs hpo hP9 hD9 hS9 => ?_)
  obtain rfl : q8 = (ad9 0) := hpo.symm
  have hP : frP D [[(h0, .inr (2, [.ref q1, .int (nI 0), .int (nI 0)]))], [(q1, .inl (T 3, 5, .inr (.inr (.inr (.inr (va_up (va_up (va_up (fun _ => none) 0 (some (ad3 0))) 1 (some (ad5 0))) 2 (some (ad7 0))))))))], stW T ad3 N0, stW T ad5 N0, stW T ad7 N0, stW T ad9 N0] _ := hP9
  have hD : va_D A ([[(h0, .inr (2, [.ref q1, .int (nI 0), .int (nI 0)]))], [(q1, .inl (T 3, 5, .inr (.inr (.inr (.inr (va_up (va_up (va_up (fun _ => none) 0 (some (ad3 0))) 1 (some (ad5 0))) 2 (some (ad7 0))))))))], stW T ad3 N0, stW T ad5 N0, stW T ad7 N0, stW T ad9 N0] : List va_W).flatten := hD9
  have hS := hS9
  refine fr_astq (t := 3) (ci := 3) (j := 5) (r := (RX3, TX3, 10)) (fs' := [[(h0, .inr (2, [.ref q1, .int (nI 0), .int (nI 0)]))], [(q1, .inl (T 3, 5, .inr (.inr (.inr (.inr (va_up (va_up (va_up (va_up (fun _ => none) 0 (some (ad3 0))) 1 (some (ad5 0))) 2 (some (ad7 0))) 3 (some (ad9 0))))))))], stW T ad3 N0, stW T ad5 N0, stW T ad7 N0, stW T ad9 N0]) hx hb hK hP hD hS 1 3 rfl rfl rfl rfl rfl (by decide) (by decide) dX2_init_31 (fun H locs hP hD hS => ?_)
  refine fr_iinc (3) (4) (nI_inc _) (lv' := [(1, .int (nI 4)), (0, .ref h0)]) (k := 0) hx hb dX2_init_32 hl rfl (by decide) rfl (fun ls hl => ?_)
  refine lv_goto (tgt := 14) hx hb dX2_init_35 (by decide) ?_
  refine lv_iload_n hx hb dX2_init_14 rfl (lv_at hl 0 rfl) ?_
  refine lv_iconst (v := nI 5) hx hb dX2_init_15 (by decide) ?_
  refine fr_icmp_ge 4 5 (by decide) (by decide) (tgt := 38) hx hb dX2_init_16 (by decide) (fun z => absurd z (by decide)) (fun _ => ?_)
  refine lv_aload_n hx hb dX2_init_19 rfl (lv_at hl 1 rfl) ?_
  refine va_get (D := D) (ci := 2) (v := .ref q1) (C := RX2) (T := TX2) (N := 3) hx hb hts hinX2 hown hK (hP.at 0 rfl) 0 rfl rfl 0 (by decide) w_13 (fun _ h9 => h9) rfl dX2_init_20 ?_
  refine lv_iload_n hx hb dX2_init_23 rfl (lv_at hl 0 rfl) ?_
  refine fr_newo (T := T) (ci := 3) (C := RX3) (TT := TX3) (N := 10) (vs := [.null, .null, .null, .null, .null, .null, .null, .null, .int (nI 0), .int (nI 0)]) hx hb hts hinX3 tyX3 tyX3_ok hown w_cl11 w_inX3 w_iniX3 hK hP hD hS hA rfl (fun j hj => by rcases (show j = 0 ∨ j = 1 ∨ j = 2 ∨ j = 3 ∨ j = 4 ∨ j = 5 ∨ j = 6 ∨ j = 7 ∨ j = 8 ∨ j = 9 by omega) with rfl | rfl | rfl | rfl | rfl | rfl | rfl | rfl | rfl | rfl <;> rfl) (Nat.le_of_ble_eq_true rfl) (Nat.le_of_ble_eq_true rfl) dX2_init_24 (fun q10 H hP hD hS => ?_)
  have hP : frP D [[(h0, .inr (2, [.ref q1, .int (nI 0), .int (nI 0)]))], [(q1, .inl (T 3, 5, .inr (.inr (.inr (.inr (va_up (va_up (va_up (va_up (fun _ => none) 0 (some (ad3 0))) 1 (some (ad5 0))) 2 (some (ad7 0))) 3 (some (ad9 0))))))))], stW T ad3 N0, stW T ad5 N0, stW T ad7 N0, stW T ad9 N0, [(q10, .inr (3, [.null, .null, .null, .null, .null, .null, .null, .null, .int (nI 0), .int (nI 0)]))]] _ := hP
  have hD : va_D A ([[(h0, .inr (2, [.ref q1, .int (nI 0), .int (nI 0)]))], [(q1, .inl (T 3, 5, .inr (.inr (.inr (.inr (va_up (va_up (va_up (va_up (fun _ => none) 0 (some (ad3 0))) 1 (some (ad5 0))) 2 (some (ad7 0))) 3 (some (ad9 0))))))))], stW T ad3 N0, stW T ad5 N0, stW T ad7 N0, stW T ad9 N0, [(q10, .inr (3, [.null, .null, .null, .null, .null, .null, .null, .null, .int (nI 0), .int (nI 0)]))]] : List va_W).flatten := hD
  refine lv_dup hx hb dX2_init_27 rfl ?_
  have hPc : frP D (([[(h0, .inr (2, [.ref q1, .int (nI 0), .int (nI 0)]))], [(q1, .inl (T 3, 5, .inr (.inr (.inr (.inr (va_up (va_up (va_up (va_up (fun _ => none) 0 (some (ad3 0))) 1 (some (ad5 0))) 2 (some (ad7 0))) 3 (some (ad9 0))))))))], stW T ad3 N0, stW T ad5 N0, stW T ad7 N0, stW T ad9 N0] : List va_W) ++ ([[(q10, .inr (3, [.null, .null, .null, .null, .null, .null, .null, .null, .int (nI 0), .int (nI 0)]))]] : List va_W)) _ := hP
  have hDc : va_D A (([[(h0, .inr (2, [.ref q1, .int (nI 0), .int (nI 0)]))], [(q1, .inl (T 3, 5, .inr (.inr (.inr (.inr (va_up (va_up (va_up (va_up (fun _ => none) 0 (some (ad3 0))) 1 (some (ad5 0))) 2 (some (ad7 0))) 3 (some (ad9 0))))))))], stW T ad3 N0, stW T ad5 N0, stW T ad7 N0, stW T ad9 N0] : List va_W) ++ ([[(q10, .inr (3, [.null, .null, .null, .null, .null, .null, .null, .null, .int (nI 0), .int (nI 0)]))]] : List va_W)).flatten := hD
  refine fr_IN (As := []) (rest := [.ref q10, .int (nI 4), .ref q1]) ⟨hx, hb, hml, hown, hts⟩ (kX3_init_o l D T Z q10) ⟨va_cnB 0 hts ggX2_init_X3_init rfl rfl rfl n_17 w_iniX3 (by decide +kernel) ⟨Nat.le_of_ble_eq_true rfl, Nat.le_of_ble_eq_true rfl⟩, rfl, w_imX3⟩ hQ hK hN hM hPc hDc hS hA rfl hl.1 rfl (Nat.le_of_ble_eq_true rfl) dX2_init_28 ⟨Nat.le_of_ble_eq_true rfl, Nat.le_of_ble_eq_true rfl⟩ (fun ad11 H locs hpo hP9 hD9 hS9 => ?_)
  obtain rfl : q10 = (ad11 0) := hpo.symm
  have hP : frP D [[(h0, .inr (2, [.ref q1, .int (nI 0), .int (nI 0)]))], [(q1, .inl (T 3, 5, .inr (.inr (.inr (.inr (va_up (va_up (va_up (va_up (fun _ => none) 0 (some (ad3 0))) 1 (some (ad5 0))) 2 (some (ad7 0))) 3 (some (ad9 0))))))))], stW T ad3 N0, stW T ad5 N0, stW T ad7 N0, stW T ad9 N0, stW T ad11 N0] _ := hP9
  have hD : va_D A ([[(h0, .inr (2, [.ref q1, .int (nI 0), .int (nI 0)]))], [(q1, .inl (T 3, 5, .inr (.inr (.inr (.inr (va_up (va_up (va_up (va_up (fun _ => none) 0 (some (ad3 0))) 1 (some (ad5 0))) 2 (some (ad7 0))) 3 (some (ad9 0))))))))], stW T ad3 N0, stW T ad5 N0, stW T ad7 N0, stW T ad9 N0, stW T ad11 N0] : List va_W).flatten := hD9
  have hS := hS9
  refine fr_astq (t := 3) (ci := 3) (j := 6) (r := (RX3, TX3, 10)) (fs' := [[(h0, .inr (2, [.ref q1, .int (nI 0), .int (nI 0)]))], [(q1, .inl (T 3, 5, .inr (.inr (.inr (.inr (va_up (va_up (va_up (va_up (va_up (fun _ => none) 0 (some (ad3 0))) 1 (some (ad5 0))) 2 (some (ad7 0))) 3 (some (ad9 0))) 4 (some (ad11 0))))))))], stW T ad3 N0, stW T ad5 N0, stW T ad7 N0, stW T ad9 N0, stW T ad11 N0]) hx hb hK hP hD hS 1 4 rfl rfl rfl rfl rfl (by decide) (by decide) dX2_init_31 (fun H locs hP hD hS => ?_)
  refine fr_iinc (4) (5) (nI_inc _) (lv' := [(1, .int (nI 5)), (0, .ref h0)]) (k := 0) hx hb dX2_init_32 hl rfl (by decide) rfl (fun ls hl => ?_)
  refine lv_goto (tgt := 14) hx hb dX2_init_35 (by decide) ?_
  refine lv_iload_n hx hb dX2_init_14 rfl (lv_at hl 0 rfl) ?_
  refine lv_iconst (v := nI 5) hx hb dX2_init_15 (by decide) ?_
  refine fr_icmp_ge 5 5 (by decide) (by decide) (tgt := 38) hx hb dX2_init_16 (by decide) (fun _ => ?_) (fun z => absurd z (by decide))
  exact fr_nend ((fun i => match i with | 2 => ad3 | 3 => ad5 | 4 => ad7 | 5 => ad9 | 6 => ad11 | _ => adL [0, h0, q1] : Nat → Nat → Nat)) hx hb hr hlk hP hD hS rfl rfl (Nat.le_of_ble_eq_true rfl) (Nat.le_of_ble_eq_true rfl) dX2_init_38
