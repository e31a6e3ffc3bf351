set_option maxHeartbeats 4000000 in
set_option maxRecDepth 100000 in
theorem kJ0_isEmpty (l : Launch) (D : va_G) (T : Nat → ClassId) (Z : ZZ) (i : Nat) (hi : i < 7) : CtI l D T Z yJ0_isEmpty_aae02 wsJ0_isEmpty_aae02 { frames := 0, cells := 0, slots := 0, locals := 0 } [] [.ref (Z.1 i)] (bI (decide (slen.getD i 0 = 0))) [] := by
  refine CtI.of (cc := cJ0_isEmpty_aae02) (maxL := 1) (ret := (some .boolean)) (by decide +kernel) rfl rfl ?_
  intro pP eE s mM bW mE cC A hE hK hN hM hP hD hA
  obtain ⟨hx, hb, hr, hts, hown, hml, hlk⟩ := hE
  have hown : s.vm.findClass RJ0 = some mM.cls := hown
  have hS : va_S A s.heap s.heap [] := va_S.rf
  have hl := lv_entry ([.ref (Z.1 i)]) (n := 1) (Nat.le_of_ble_eq_true rfl)
  rw [lg_entry_eq]
  generalize (lg_sl ([.ref (Z.1 i)]) ++ List.replicate (1 - (lg_sl ([.ref (Z.1 i)])).length) Slot.unset).toArray = ls at hl ⊢
  have hl : lv_has ls 1 [(0, .ref (Z.1 i))] := hl
  have w_9 := hts (.fieldLink RJ0 9 "java/lang/String" "value" "[B") (by decide +kernel)
  have hs9 := slen_lt i hi
  refine lv_aload_n hx hb dJ0_isEmpty_aae02_0 rfl (lv_at hl 0 rfl) ?_
  refine vk_getf hx hb ((hM.1.1 i hi).2.2.1) hS hown w_9 (fun _ h9 => h9) dJ0_isEmpty_aae02_1 ?_
  refine va_tlen hx hb ((hM.1.1 i hi).2.2.2) hS (v := nI (slen.getD i 0)) rfl dJ0_isEmpty_aae02_4 ?_
  refine fr_if_ne (slen.getD i 0) (by omega) (tgt := 12) hx hb dJ0_isEmpty_aae02_5 (by decide) (fun c_1 => ?_) (fun c_1 => ?_)
  · refine lv_iconst (v := nI 0) hx hb dJ0_isEmpty_aae02_12 (by decide) ?_
    exact fr_zret hx hb hr hlk hP hS (by rw [decide_eq_false c_1]; rfl) rfl rfl dJ0_isEmpty_aae02_13
  · refine lv_iconst (v := nI 1) hx hb dJ0_isEmpty_aae02_8 (by decide) ?_
    refine lv_goto (tgt := 13) hx hb dJ0_isEmpty_aae02_9 (by decide) ?_
    exact fr_zret hx hb hr hlk hP hS (by rw [decide_eq_true c_1]; rfl) rfl rfl dJ0_isEmpty_aae02_13

set_option maxHeartbeats 4000000 in
set_option maxRecDepth 100000 in
theorem kJ0_coder (l : Launch) (D : va_G) (T : Nat → ClassId) (Z : ZZ) (i : Nat) (hi : i < 7) : CtI l D T Z yJ0_coder_7d493 wsJ0_coder_7d493 { frames := 0, cells := 0, slots := 0, locals := 0 } [] [.ref (Z.1 i)] (0) [] := by
  refine CtI.of (cc := cJ0_coder_7d493) (maxL := 1) (ret := (some .byte)) (by decide +kernel) rfl rfl ?_
  intro pP eE s mM bW mE cC A hE hK hN hM hP hD hA
  obtain ⟨hx, hb, hr, hts, hown, hml, hlk⟩ := hE
  have hown : s.vm.findClass RJ0 = some mM.cls := hown
  have hS : va_S A s.heap s.heap [] := va_S.rf
  have hl := lv_entry ([.ref (Z.1 i)]) (n := 1) (Nat.le_of_ble_eq_true rfl)
  rw [lg_entry_eq]
  generalize (lg_sl ([.ref (Z.1 i)]) ++ List.replicate (1 - (lg_sl ([.ref (Z.1 i)])).length) Slot.unset).toArray = ls at hl ⊢
  have hl : lv_has ls 1 [(0, .ref (Z.1 i))] := hl
  have w_38 := hts (.fieldLink RJ0 38 "java/lang/String" "COMPACT_STRINGS" "Z") (by decide +kernel)
  have w_15 := hts (.fieldLink RJ0 15 "java/lang/String" "coder" "B") (by decide +kernel)
  refine va_gets hx hb hM.2.2.1 hS hown w_38 (fun _ h9 => h9) dJ0_coder_7d493_0 ?_
  refine lv_if_eq (tgt := 13) hx hb dJ0_coder_7d493_3 (by decide) (fun z => absurd z (by decide)) (fun _ => ?_)
  refine lv_aload_n hx hb dJ0_coder_7d493_6 rfl (lv_at hl 0 rfl) ?_
  refine vk_getf hx hb ((hM.1.1 i hi).2.1) hS hown w_15 (fun _ h9 => h9) dJ0_coder_7d493_7 ?_
  refine lv_goto (tgt := 14) hx hb dJ0_coder_7d493_10 (by decide) ?_
  exact fr_nret hx hb hr hlk hP hS rfl rfl rfl dJ0_coder_7d493_14

set_option maxHeartbeats 4000000 in
set_option maxRecDepth 100000 in
theorem kJ0_length (l : Launch) (D : va_G) (T : Nat → ClassId) (Z : ZZ) (i : Nat) (hi : i < 7) : CtI l D T Z yJ0_length_8abf5 wsJ0_length_8abf5 { frames := 1, cells := 0, slots := 0, locals := 20 } [] [.ref (Z.1 i)] (nI (slen.getD i 0)) [] := by
  refine CtI.of (cc := cJ0_length_8abf5) (maxL := 1) (ret := (some .int)) (by decide +kernel) rfl rfl ?_
  intro pP eE s mM bW mE cC A hE hK hN hM hP hD hA
  obtain ⟨hx, hb, hr, hts, hown, hml, hlk⟩ := hE
  have hown : s.vm.findClass RJ0 = some mM.cls := hown
  have hS : va_S A s.heap s.heap [] := va_S.rf
  have hl := lv_entry ([.ref (Z.1 i)]) (n := 1) (Nat.le_of_ble_eq_true rfl)
  rw [lg_entry_eq]
  generalize (lg_sl ([.ref (Z.1 i)]) ++ List.replicate (1 - (lg_sl ([.ref (Z.1 i)])).length) Slot.unset).toArray = ls at hl ⊢
  have hl : lv_has ls 1 [(0, .ref (Z.1 i))] := hl
  have w_9 := hts (.fieldLink RJ0 9 "java/lang/String" "value" "[B") (by decide +kernel)
  have hs9 := slen_lt i hi
  refine lv_aload_n hx hb dJ0_length_8abf5_0 rfl (lv_at hl 0 rfl) ?_
  refine vk_getf hx hb ((hM.1.1 i hi).2.2.1) hS hown w_9 (fun _ h9 => h9) dJ0_length_8abf5_1 ?_
  refine va_tlen hx hb ((hM.1.1 i hi).2.2.2) hS (v := nI (slen.getD i 0)) rfl dJ0_length_8abf5_4 ?_
  refine lv_aload_n hx hb dJ0_length_8abf5_5 rfl (lv_at hl 0 rfl) ?_
  refine fr_VZ (As := []) (rest := [.int (nI (slen.getD i 0))]) ⟨hx, hb, hml, hown, hts⟩ (kJ0_coder l D T Z i hi) (cwV 0 hts gJ0_length_8abf5_J0_coder_7d493 rfl rfl rfl (by decide +kernel) ⟨Nat.le_of_ble_eq_true rfl, Nat.le_of_ble_eq_true rfl⟩) (vk_recv hM.1 hi hS) hK hN hM hP hD hS hA rfl hl.1 rfl (Nat.le_of_ble_eq_true rfl) dJ0_length_8abf5_6 ⟨Nat.zero_le _, Nat.zero_le _⟩ (fun H locs hP hD hS => ?_)
  refine lv_ishr hx hb dJ0_length_8abf5_9 ?_
  exact fr_iret hx hb hr hlk hP hS ((show ∀ j : Nat, j < 6 → nI j >>> ((0 : Int32) &&& 31) = nI j by decide) _ hs9) rfl dJ0_length_8abf5_10

set_option maxHeartbeats 4000000 in
set_option maxRecDepth 100000 in
theorem kJ0_isLatin1 (l : Launch) (D : va_G) (T : Nat → ClassId) (Z : ZZ) (i : Nat) (hi : i < 7) : CtI l D T Z yJ0_isLatin1_aae02 wsJ0_isLatin1_aae02 { frames := 0, cells := 0, slots := 0, locals := 0 } [] [.ref (Z.1 i)] (nI 1) [] := by
  refine CtI.of (cc := cJ0_isLatin1_aae02) (maxL := 1) (ret := (some .boolean)) (by decide +kernel) rfl rfl ?_
  intro pP eE s mM bW mE cC A hE hK hN hM hP hD hA
  obtain ⟨hx, hb, hr, hts, hown, hml, hlk⟩ := hE
  have hown : s.vm.findClass RJ0 = some mM.cls := hown
  have hS : va_S A s.heap s.heap [] := va_S.rf
  have hl := lv_entry ([.ref (Z.1 i)]) (n := 1) (Nat.le_of_ble_eq_true rfl)
  rw [lg_entry_eq]
  generalize (lg_sl ([.ref (Z.1 i)]) ++ List.replicate (1 - (lg_sl ([.ref (Z.1 i)])).length) Slot.unset).toArray = ls at hl ⊢
  have hl : lv_has ls 1 [(0, .ref (Z.1 i))] := hl
  have w_38 := hts (.fieldLink RJ0 38 "java/lang/String" "COMPACT_STRINGS" "Z") (by decide +kernel)
  have w_15 := hts (.fieldLink RJ0 15 "java/lang/String" "coder" "B") (by decide +kernel)
  refine va_gets hx hb hM.2.2.1 hS hown w_38 (fun _ h9 => h9) dJ0_isLatin1_aae02_0 ?_
  refine lv_if_eq (tgt := 17) hx hb dJ0_isLatin1_aae02_3 (by decide) (fun z => absurd z (by decide)) (fun _ => ?_)
  refine lv_aload_n hx hb dJ0_isLatin1_aae02_6 rfl (lv_at hl 0 rfl) ?_
  refine vk_getf hx hb ((hM.1.1 i hi).2.1) hS hown w_15 (fun _ h9 => h9) dJ0_isLatin1_aae02_7 ?_
  refine lv_if_ne (tgt := 17) hx hb dJ0_isLatin1_aae02_10 (by decide) (fun z => absurd rfl z) (fun _ => ?_)
  refine lv_iconst (v := nI 1) hx hb dJ0_isLatin1_aae02_13 (by decide) ?_
  refine lv_goto (tgt := 18) hx hb dJ0_isLatin1_aae02_14 (by decide) ?_
  exact fr_zret hx hb hr hlk hP hS rfl rfl rfl dJ0_isLatin1_aae02_18

set_option maxHeartbeats 4000000 in
set_option maxRecDepth 100000 in
theorem kJ3_checkIndex_n (l : Launch) (D : va_G) (T : Nat → ClassId) (Z : ZZ) (k n : Nat)  (hk : k < n) (hn : n < 6) : CtI l D T Z yJ3_checkIndex_8e157 wsJ3_checkIndex_8e157 { frames := 0, cells := 0, slots := 0, locals := 0 } [] [.int (nI k), .int (nI n), .null] (nI k) [] := by
  refine CtI.of (cc := cJ3_checkIndex_8e157) (maxL := 3) (ret := (some .int)) (by decide +kernel) rfl rfl ?_
  intro pP eE s mM bW mE cC A hE hK hN hM hP hD hA
  obtain ⟨hx, hb, hr, hts, hown, hml, hlk⟩ := hE
  have hown : s.vm.findClass RJ3 = some mM.cls := hown
  have hS : va_S A s.heap s.heap [] := va_S.rf
  have hl := lv_entry ([.int (nI k), .int (nI n), .null]) (n := 3) (Nat.le_of_ble_eq_true rfl)
  rw [lg_entry_eq]
  generalize (lg_sl ([.int (nI k), .int (nI n), .null]) ++ List.replicate (3 - (lg_sl ([.int (nI k), .int (nI n), .null])).length) Slot.unset).toArray = ls at hl ⊢
  have hl : lv_has ls 3 [(0, .int (nI k)), (1, .int (nI n)), (2, .null)] := hl
  refine lv_iload_n hx hb dJ3_checkIndex_8e157_0 rfl (lv_at hl 0 rfl) ?_
  refine lv_if_lt (tgt := 9) hx hb dJ3_checkIndex_8e157_1 (by decide) (fun z => absurd z (nI_pos (by omega))) (fun _ => ?_)
  refine lv_iload_n hx hb dJ3_checkIndex_8e157_4 rfl (lv_at hl 0 rfl) ?_
  refine lv_iload_n hx hb dJ3_checkIndex_8e157_5 rfl (lv_at hl 1 rfl) ?_
  refine fr_icmp_lt k n (by omega) (by omega) (tgt := 16) hx hb dJ3_checkIndex_8e157_6 (by decide) (fun _ => ?_) (fun z => absurd hk (by omega))
  refine lv_iload_n hx hb dJ3_checkIndex_8e157_16 rfl (lv_at hl 0 rfl) ?_
  exact fr_iret hx hb hr hlk hP hS rfl rfl dJ3_checkIndex_8e157_17

set_option maxHeartbeats 4000000 in
set_option maxRecDepth 100000 in
theorem kJ3_checkIndex_r (l : Launch) (D : va_G) (T : Nat → ClassId) (Z : ZZ) (k n : Nat) (q : Nat) (hk : k < n) (hn : n < 6) : CtI l D T Z yJ3_checkIndex_8e157 wsJ3_checkIndex_8e157 { frames := 0, cells := 0, slots := 0, locals := 0 } [] [.int (nI k), .int (nI n), .ref q] (nI k) [] := by
  refine CtI.of (cc := cJ3_checkIndex_8e157) (maxL := 3) (ret := (some .int)) (by decide +kernel) rfl rfl ?_
  intro pP eE s mM bW mE cC A hE hK hN hM hP hD hA
  obtain ⟨hx, hb, hr, hts, hown, hml, hlk⟩ := hE
  have hown : s.vm.findClass RJ3 = some mM.cls := hown
  have hS : va_S A s.heap s.heap [] := va_S.rf
  have hl := lv_entry ([.int (nI k), .int (nI n), .ref q]) (n := 3) (Nat.le_of_ble_eq_true rfl)
  rw [lg_entry_eq]
  generalize (lg_sl ([.int (nI k), .int (nI n), .ref q]) ++ List.replicate (3 - (lg_sl ([.int (nI k), .int (nI n), .ref q])).length) Slot.unset).toArray = ls at hl ⊢
  have hl : lv_has ls 3 [(0, .int (nI k)), (1, .int (nI n)), (2, .ref q)] := hl
  refine lv_iload_n hx hb dJ3_checkIndex_8e157_0 rfl (lv_at hl 0 rfl) ?_
  refine lv_if_lt (tgt := 9) hx hb dJ3_checkIndex_8e157_1 (by decide) (fun z => absurd z (nI_pos (by omega))) (fun _ => ?_)
  refine lv_iload_n hx hb dJ3_checkIndex_8e157_4 rfl (lv_at hl 0 rfl) ?_
  refine lv_iload_n hx hb dJ3_checkIndex_8e157_5 rfl (lv_at hl 1 rfl) ?_
  refine fr_icmp_lt k n (by omega) (by omega) (tgt := 16) hx hb dJ3_checkIndex_8e157_6 (by decide) (fun _ => ?_) (fun z => absurd hk (by omega))
  refine lv_iload_n hx hb dJ3_checkIndex_8e157_16 rfl (lv_at hl 0 rfl) ?_
  exact fr_iret hx hb hr hlk hP hS rfl rfl dJ3_checkIndex_8e157_17

set_option maxHeartbeats 4000000 in
set_option maxRecDepth 100000 in
theorem kJ0_checkIndex (l : Launch) (D : va_G) (T : Nat → ClassId) (Z : ZZ) (k n : Nat) (hk : k < n) (hn : n < 6) : CtV l D T Z yJ0_checkIndex_df160 wsJ0_checkIndex_df160 { frames := 1, cells := 0, slots := 0, locals := 22 } [] [.int (nI k), .int (nI n)] [] := by
  refine CtV.of (cc := cJ0_checkIndex_df160) (maxL := 2) (ret := none) (by decide +kernel) rfl rfl ?_
  intro pP eE s mM bW mE cC A hE hK hN hM hP hD hA
  obtain ⟨hx, hb, hr, hts, hown, hml, hlk⟩ := hE
  have hown : s.vm.findClass RJ0 = some mM.cls := hown
  have hS : va_S A s.heap s.heap [] := va_S.rf
  have hl := lv_entry ([.int (nI k), .int (nI n)]) (n := 2) (Nat.le_of_ble_eq_true rfl)
  rw [lg_entry_eq]
  generalize (lg_sl ([.int (nI k), .int (nI n)]) ++ List.replicate (2 - (lg_sl ([.int (nI k), .int (nI n)])).length) Slot.unset).toArray = ls at hl ⊢
  have hl : lv_has ls 2 [(0, .int (nI k)), (1, .int (nI n))] := hl
  have w_1053 := hts (.fieldLink RJ0 1053 "jdk/internal/util/Preconditions" "SIOOBE_FORMATTER" "Ljava/util/function/BiFunction;") (by decide +kernel)
  refine lv_iload_n hx hb dJ0_checkIndex_df160_0 rfl (lv_at hl 0 rfl) ?_
  refine lv_iload_n hx hb dJ0_checkIndex_df160_1 rfl (lv_at hl 1 rfl) ?_
  rcases hM.2.2.2 with hz | ⟨qz, hz⟩
  · refine va_gets hx hb hz hS hown w_1053 (fun _ h9 => h9) dJ0_checkIndex_df160_2 ?_
    refine fr_S0 (As := [.int (nI k), .int (nI n), .null]) (rest := []) ⟨hx, hb, hml, hown, hts⟩ (kJ3_checkIndex_n l D T Z k n hk hn) (va_cwS 3 hts gJ0_checkIndex_df160_J3_checkIndex_8e157 rfl rfl rfl (by decide +kernel) ⟨Nat.le_of_ble_eq_true rfl, Nat.le_of_ble_eq_true rfl⟩) hK hN hM hP hD hS hA rfl hl.1 rfl (Nat.le_of_ble_eq_true rfl) dJ0_checkIndex_df160_5 ⟨Nat.zero_le _, Nat.zero_le _⟩ (fun H locs hP hD hS => ?_)
    refine lv_pop hx hb dJ0_checkIndex_df160_8 rfl ?_
    exact fr_vret hx hb hr hlk hP hS rfl dJ0_checkIndex_df160_9
  · refine va_gets hx hb hz hS hown w_1053 (fun _ h9 => h9) dJ0_checkIndex_df160_2 ?_
    refine fr_S0 (As := [.int (nI k), .int (nI n), .ref qz]) (rest := []) ⟨hx, hb, hml, hown, hts⟩ (kJ3_checkIndex_r l D T Z k n qz hk hn) (va_cwS 3 hts gJ0_checkIndex_df160_J3_checkIndex_8e157 rfl rfl rfl (by decide +kernel) ⟨Nat.le_of_ble_eq_true rfl, Nat.le_of_ble_eq_true rfl⟩) hK hN hM hP hD hS hA rfl hl.1 rfl (Nat.le_of_ble_eq_true rfl) dJ0_checkIndex_df160_5 ⟨Nat.zero_le _, Nat.zero_le _⟩ (fun H locs hP hD hS => ?_)
    refine lv_pop hx hb dJ0_checkIndex_df160_8 rfl ?_
    exact fr_vret hx hb hr hlk hP hS rfl dJ0_checkIndex_df160_9

set_option maxHeartbeats 4000000 in
set_option maxRecDepth 100000 in
theorem kJ1_charAt (l : Launch) (D : va_G) (T : Nat → ClassId) (Z : ZZ) (i k : Nat) (hi : i < 7) (hk : k < slen.getD i 0) : CtI l D T Z yJ1_charAt_3b067 wsJ1_charAt_3b067 { frames := 2, cells := 0, slots := 0, locals := 43 } [] [.ref (Z.2 i), .int (nI k)] (nI (sch i k)) [] := by
  refine CtI.of (cc := cJ1_charAt_3b067) (maxL := 2) (ret := (some .char)) (by decide +kernel) rfl rfl ?_
  intro pP eE s mM bW mE cC A hE hK hN hM hP hD hA
  obtain ⟨hx, hb, hr, hts, hown, hml, hlk⟩ := hE
  have hown : s.vm.findClass RJ1 = some mM.cls := hown
  have hS : va_S A s.heap s.heap [] := va_S.rf
  have hl := lv_entry ([.ref (Z.2 i), .int (nI k)]) (n := 2) (Nat.le_of_ble_eq_true rfl)
  rw [lg_entry_eq]
  generalize (lg_sl ([.ref (Z.2 i), .int (nI k)]) ++ List.replicate (2 - (lg_sl ([.ref (Z.2 i), .int (nI k)])).length) Slot.unset).toArray = ls at hl ⊢
  have hl : lv_has ls 2 [(0, .ref (Z.2 i)), (1, .int (nI k))] := hl
  have hs9 := slen_lt i hi
  have hc9 := sch_eq i hi k hk
  refine lv_iload_n hx hb dJ1_charAt_3b067_0 rfl (lv_at hl 1 rfl) ?_
  refine lv_aload_n hx hb dJ1_charAt_3b067_1 rfl (lv_at hl 0 rfl) ?_
  refine va_tlen hx hb ((hM.1.1 i hi).2.2.2) hS (v := nI (slen.getD i 0)) rfl dJ1_charAt_3b067_2 ?_
  refine fr_S0v (As := [.int (nI k), .int (nI (slen.getD i 0))]) (rest := []) ⟨hx, hb, hml, hown, hts⟩ (kJ0_checkIndex l D T Z k (slen.getD i 0) hk hs9) (va_cwS 2 hts gJ1_charAt_3b067_J0_checkIndex_df160 rfl rfl rfl (by decide +kernel) ⟨Nat.le_of_ble_eq_true rfl, Nat.le_of_ble_eq_true rfl⟩) hK hN hM hP hD hS hA rfl hl.1 rfl (Nat.le_of_ble_eq_true rfl) dJ1_charAt_3b067_3 ⟨Nat.zero_le _, Nat.zero_le _⟩ (fun H locs hP hD hS => ?_)
  refine lv_aload_n hx hb dJ1_charAt_3b067_6 rfl (lv_at hl 0 rfl) ?_
  refine lv_iload_n hx hb dJ1_charAt_3b067_7 rfl (lv_at hl 1 rfl) ?_
  refine va_tb hx hb ((hM.1.1 i hi).2.2.2) hS (v := .int ((sbyt.getD i []).getD k 0)) (fun q => by rcases q with q | q; exact nI_pos (by omega) q; rw [nI_clamp (by omega)] at q; omega) (by rw [nI_clamp (by omega)]) dJ1_charAt_3b067_8 ?_
  refine lv_sipush (v := nI 255) hx hb dJ1_charAt_3b067_9 (by decide) ?_
  refine lv_iand hx hb dJ1_charAt_3b067_12 ?_
  refine lv_i2c hx hb dJ1_charAt_3b067_13 hc9.1 ?_
  exact fr_nret hx hb hr hlk hP hS rfl rfl hc9.2 dJ1_charAt_3b067_14

set_option maxHeartbeats 4000000 in
set_option maxRecDepth 100000 in
theorem kJ0_charAt (l : Launch) (D : va_G) (T : Nat → ClassId) (Z : ZZ) (i k : Nat) (hi : i < 7) (hk : k < slen.getD i 0) : CtI l D T Z yJ0_charAt_5068e wsJ0_charAt_5068e { frames := 3, cells := 0, slots := 0, locals := 64 } [] [.ref (Z.1 i), .int (nI k)] (nI (sch i k)) [] := by
  refine CtI.of (cc := cJ0_charAt_5068e) (maxL := 2) (ret := (some .char)) (by decide +kernel) rfl rfl ?_
  intro pP eE s mM bW mE cC A hE hK hN hM hP hD hA
  obtain ⟨hx, hb, hr, hts, hown, hml, hlk⟩ := hE
  have hown : s.vm.findClass RJ0 = some mM.cls := hown
  have hS : va_S A s.heap s.heap [] := va_S.rf
  have hl := lv_entry ([.ref (Z.1 i), .int (nI k)]) (n := 2) (Nat.le_of_ble_eq_true rfl)
  rw [lg_entry_eq]
  generalize (lg_sl ([.ref (Z.1 i), .int (nI k)]) ++ List.replicate (2 - (lg_sl ([.ref (Z.1 i), .int (nI k)])).length) Slot.unset).toArray = ls at hl ⊢
  have hl : lv_has ls 2 [(0, .ref (Z.1 i)), (1, .int (nI k))] := hl
  have w_9 := hts (.fieldLink RJ0 9 "java/lang/String" "value" "[B") (by decide +kernel)
  have hc9 := sch_eq i hi k hk
  refine lv_aload_n hx hb dJ0_charAt_5068e_0 rfl (lv_at hl 0 rfl) ?_
  refine fr_VZ (As := []) (rest := []) ⟨hx, hb, hml, hown, hts⟩ (kJ0_isLatin1 l D T Z i hi) (cwV 0 hts gJ0_charAt_5068e_J0_isLatin1_aae02 rfl rfl rfl (by decide +kernel) ⟨Nat.le_of_ble_eq_true rfl, Nat.le_of_ble_eq_true rfl⟩) (vk_recv hM.1 hi hS) hK hN hM hP hD hS hA rfl hl.1 rfl (Nat.le_of_ble_eq_true rfl) dJ0_charAt_5068e_1 ⟨Nat.zero_le _, Nat.zero_le _⟩ (fun H locs hP hD hS => ?_)
  refine lv_if_eq (tgt := 16) hx hb dJ0_charAt_5068e_4 (by decide) (fun z => absurd z (by decide)) (fun _ => ?_)
  refine lv_aload_n hx hb dJ0_charAt_5068e_7 rfl (lv_at hl 0 rfl) ?_
  refine vk_getf hx hb ((hM.1.1 i hi).2.2.1) hS hown w_9 (fun _ h9 => h9) dJ0_charAt_5068e_8 ?_
  refine lv_iload_n hx hb dJ0_charAt_5068e_11 rfl (lv_at hl 1 rfl) ?_
  refine fr_S0 (As := [.ref (Z.2 i), .int (nI k)]) (rest := []) ⟨hx, hb, hml, hown, hts⟩ (kJ1_charAt l D T Z i k hi hk) (va_cwS 2 hts gJ0_charAt_5068e_J1_charAt_3b067 rfl rfl rfl (by decide +kernel) ⟨Nat.le_of_ble_eq_true rfl, Nat.le_of_ble_eq_true rfl⟩) hK hN hM hP hD hS hA rfl hl.1 rfl (Nat.le_of_ble_eq_true rfl) dJ0_charAt_5068e_12 ⟨Nat.zero_le _, Nat.zero_le _⟩ (fun H locs hP hD hS => ?_)
  exact fr_nret hx hb hr hlk hP hS rfl rfl hc9.2 dJ0_charAt_5068e_15

def shi (x : Nat) : Nat := if x = 76 ∨ x = 83 then 0 else if x = 77 then 1 else if x = 65 then 2 else if x = 79 then 3 else if x = 73 then 4 else if x = 86 then 5 else 6
theorem shi_lt (x : Nat) : shi x < 7 := by unfold shi; split; decide; split; decide; split; decide; split; decide; split; decide; split <;> decide
set_option maxHeartbeats 4000000 in
set_option maxRecDepth 100000 in
theorem kX4_shapeOf (l : Launch) (D : va_G) (T : Nat → ClassId) (Z : ZZ) (x : Nat) (hx9 : x < 65536) : CtR l D T Z yX4_shapeOf wsX4_shapeOf { frames := 0, cells := 0, slots := 0, locals := 0 } [] [.int (nI x)] (Z.1 (shi x)) [] := by
  refine CtR.of (cc := cX4_shapeOf) (maxL := 1) (ret := (some (.object "java/lang/String"))) (plainFor_of_name (by decide)) rfl rfl ?_
  intro pP eE s mM bW mE cC A hE hK hN hM hP hD hA
  obtain ⟨hx, hb, hr, hts, hown, hml, hlk⟩ := hE
  have hown : s.vm.findClass RX4 = some mM.cls := hown
  have hS : va_S A s.heap s.heap [] := va_S.rf
  have hl := lv_entry ([.int (nI x)]) (n := 1) (Nat.le_of_ble_eq_true rfl)
  rw [lg_entry_eq]
  generalize (lg_sl ([.int (nI x)]) ++ List.replicate (1 - (lg_sl ([.int (nI x)])).length) Slot.unset).toArray = ls at hl ⊢
  have hl : lv_has ls 1 [(0, .int (nI x))] := hl
  refine lv_iload_n hx hb dX4_shapeOf_0 rfl (lv_at hl 0 rfl) ?_
  rcases (show x = 76 ∨ x = 83 ∨ x = 77 ∨ x = 65 ∨ x = 79 ∨ x = 73 ∨ x = 86 ∨ (x ≠ 76 ∧ x ≠ 83 ∧ x ≠ 77 ∧ x ≠ 65 ∧ x ≠ 79 ∧ x ≠ 73 ∧ x ≠ 86) by omega) with q_1 | q_1 | q_1 | q_1 | q_1 | q_1 | q_1 | q_1
  · refine fr_val (show nI x = nI 76 from by rw [q_1]) ?_
    refine lv_tableIn (off := 103) (tgt := 104) hx hb dX4_shapeOf_1 (by decide) (by decide) rfl (by decide) ?_
    refine va_ldcS hx hb (tx := "dd,w") hown (hM.2.1 0 (by decide)) dX4_shapeOf_104 ?_
    exact fr_aret hx hb hr hlk hP hS (by rw [q_1]; rfl) rfl dX4_shapeOf_106
  · refine fr_val (show nI x = nI 83 from by rw [q_1]) ?_
    refine lv_tableIn (off := 103) (tgt := 104) hx hb dX4_shapeOf_1 (by decide) (by decide) rfl (by decide) ?_
    refine va_ldcS hx hb (tx := "dd,w") hown (hM.2.1 0 (by decide)) dX4_shapeOf_104 ?_
    exact fr_aret hx hb hr hlk hP hS (by rw [q_1]; rfl) rfl dX4_shapeOf_106
  · refine fr_val (show nI x = nI 77 from by rw [q_1]) ?_
    refine lv_tableIn (off := 106) (tgt := 107) hx hb dX4_shapeOf_1 (by decide) (by decide) rfl (by decide) ?_
    refine va_ldcS hx hb (tx := "ddd") hown (hM.2.1 1 (by decide)) dX4_shapeOf_107 ?_
    exact fr_aret hx hb hr hlk hP hS (by rw [q_1]; rfl) rfl dX4_shapeOf_109
  · refine fr_val (show nI x = nI 65 from by rw [q_1]) ?_
    refine lv_tableIn (off := 109) (tgt := 110) hx hb dX4_shapeOf_1 (by decide) (by decide) rfl (by decide) ?_
    refine va_ldcS hx hb (tx := "ddddd") hown (hM.2.1 2 (by decide)) dX4_shapeOf_110 ?_
    exact fr_aret hx hb hr hlk hP hS (by rw [q_1]; rfl) rfl dX4_shapeOf_112
  · refine fr_val (show nI x = nI 79 from by rw [q_1]) ?_
    refine lv_tableIn (off := 112) (tgt := 113) hx hb dX4_shapeOf_1 (by decide) (by decide) rfl (by decide) ?_
    refine va_ldcS hx hb (tx := "dd") hown (hM.2.1 3 (by decide)) dX4_shapeOf_113 ?_
    exact fr_aret hx hb hr hlk hP hS (by rw [q_1]; rfl) rfl dX4_shapeOf_115
  · refine fr_val (show nI x = nI 73 from by rw [q_1]) ?_
    refine lv_tableIn (off := 115) (tgt := 116) hx hb dX4_shapeOf_1 (by decide) (by decide) rfl (by decide) ?_
    refine va_ldcS hx hb (tx := "w") hown (hM.2.1 4 (by decide)) dX4_shapeOf_116 ?_
    exact fr_aret hx hb hr hlk hP hS (by rw [q_1]; rfl) rfl dX4_shapeOf_118
  · refine fr_val (show nI x = nI 86 from by rw [q_1]) ?_
    refine lv_tableIn (off := 118) (tgt := 119) hx hb dX4_shapeOf_1 (by decide) (by decide) rfl (by decide) ?_
    refine va_ldcS hx hb (tx := "dd=n") hown (hM.2.1 5 (by decide)) dX4_shapeOf_119 ?_
    exact fr_aret hx hb hr hlk hP hS (by rw [q_1]; rfl) rfl dX4_shapeOf_121
  · refine fr_tabD x 65 86 (by omega) (tgt := 122) hx hb dX4_shapeOf_1 (by decide) (fun h1 h2 => ?_) ?_
    · have hsel : ∀ j : Nat, j < 22 → (decide (j = 0) || decide (j = 8) || decide (j = 11) || decide (j = 12) || decide (j = 14) || decide (j = 18) || decide (j = 21)) = true ∨ (#[109, 121, 121, 121, 121, 121, 121, 121, 115, 121, 121, 103, 106, 121, 112, 121, 121, 121, 103, 121, 121, 118] : Array Int)[j]? = some (121) := by decide
      exact (hsel (x - 65) (by omega)).resolve_left (by simp only [Bool.or_eq_true, decide_eq_true_eq]; omega)
    refine va_ldcS hx hb (tx := "") hown (hM.2.1 6 (by decide)) dX4_shapeOf_122 ?_
    exact fr_aret hx hb hr hlk hP hS (by unfold shi; rw [if_neg (by omega), if_neg (by omega), if_neg (by omega), if_neg (by omega), if_neg (by omega), if_neg (by omega)]) rfl dX4_shapeOf_124
