
set_option maxHeartbeats 8000000 in
set_option maxRecDepth 100000 in
theorem kX5_value (l : Launch) (D : va_G) (T : Nat → ClassId) (Z : ZZ) (AD : Nat → Nat → Nat) (ν : NS) (w : Int32)  : CtI l D T Z yX5_value wsX5_value ({ frames := 1, cells := 0, slots := 0, locals := 20 }) (stF T (AD 0) ν ++ [maF AD]) [.ref ((AD 8) 0), .int (w)] (if iN w 32 then ν 0 (tn w) else -1) (stF T (AD 0) ν ++ [maF AD]) := by
  refine CtI.of (cc := cX5_value) (maxL := 2) (ret := (some .int)) (plainFor_of_name (by decide)) rfl rfl ?_
  intro pP eE s mM bW mE cC A hE hK hN hM hP hD hA
  obtain ⟨hx, hb, hr, hts, hown, hml, hlk⟩ := hE
  have hown : s.vm.findClass RX5 = some mM.cls := hown
  have hP : frP D [[(((AD 0) 0), .inr (3, [.ref ((AD 0) 1), .ref ((AD 0) 5), .ref ((AD 0) 9), .ref ((AD 0) 13), .ref ((AD 0) 14), .ref ((AD 0) 15), .ref ((AD 0) 16), .ref ((AD 0) 17), .int (ν 15 0), .int (ν 15 1)]))], [(((AD 0) 1), .inr (0, [.ref ((AD 0) 2), .ref ((AD 0) 3), .ref ((AD 0) 4)]))], [(((AD 0) 2), .inl (T 0, 32, .inl (ν 0)))], [(((AD 0) 3), .inl (T 0, 32, .inl (ν 1)))], [(((AD 0) 4), .inl (T 0, 32, .inl (ν 2)))], [(((AD 0) 5), .inr (0, [.ref ((AD 0) 6), .ref ((AD 0) 7), .ref ((AD 0) 8)]))], [(((AD 0) 6), .inl (T 0, 32, .inl (ν 3)))], [(((AD 0) 7), .inl (T 0, 32, .inl (ν 4)))], [(((AD 0) 8), .inl (T 0, 32, .inl (ν 5)))], [(((AD 0) 9), .inr (0, [.ref ((AD 0) 10), .ref ((AD 0) 11), .ref ((AD 0) 12)]))], [(((AD 0) 10), .inl (T 0, 16, .inl (ν 6)))], [(((AD 0) 11), .inl (T 0, 16, .inl (ν 7)))], [(((AD 0) 12), .inl (T 0, 16, .inl (ν 8)))], [(((AD 0) 13), .inl (T 1, 8, .inl (bf (ν 9))))], [(((AD 0) 14), .inl (T 0, 4, .inl (ν 10)))], [(((AD 0) 15), .inl (T 1, 4, .inl (bf (ν 11))))], [(((AD 0) 16), .inl (T 0, 20, .inl (ν 12)))], [(((AD 0) 17), .inr (1, [.ref ((AD 0) 18), .int (ν 14 0), .int (ν 14 1)]))], [(((AD 0) 18), .inl (T 0, 32, .inl (ν 13)))], [(((AD 8) 0), .inr (5, [.ref ((AD 0) 0), .ref ((AD 1) 0), .ref ((AD 8) 1), .ref ((AD 9) 0), .ref ((AD 7) 0)]))]] s.heap := hP
  have hD : va_D A ([[(((AD 0) 0), .inr (3, [.ref ((AD 0) 1), .ref ((AD 0) 5), .ref ((AD 0) 9), .ref ((AD 0) 13), .ref ((AD 0) 14), .ref ((AD 0) 15), .ref ((AD 0) 16), .ref ((AD 0) 17), .int (ν 15 0), .int (ν 15 1)]))], [(((AD 0) 1), .inr (0, [.ref ((AD 0) 2), .ref ((AD 0) 3), .ref ((AD 0) 4)]))], [(((AD 0) 2), .inl (T 0, 32, .inl (ν 0)))], [(((AD 0) 3), .inl (T 0, 32, .inl (ν 1)))], [(((AD 0) 4), .inl (T 0, 32, .inl (ν 2)))], [(((AD 0) 5), .inr (0, [.ref ((AD 0) 6), .ref ((AD 0) 7), .ref ((AD 0) 8)]))], [(((AD 0) 6), .inl (T 0, 32, .inl (ν 3)))], [(((AD 0) 7), .inl (T 0, 32, .inl (ν 4)))], [(((AD 0) 8), .inl (T 0, 32, .inl (ν 5)))], [(((AD 0) 9), .inr (0, [.ref ((AD 0) 10), .ref ((AD 0) 11), .ref ((AD 0) 12)]))], [(((AD 0) 10), .inl (T 0, 16, .inl (ν 6)))], [(((AD 0) 11), .inl (T 0, 16, .inl (ν 7)))], [(((AD 0) 12), .inl (T 0, 16, .inl (ν 8)))], [(((AD 0) 13), .inl (T 1, 8, .inl (bf (ν 9))))], [(((AD 0) 14), .inl (T 0, 4, .inl (ν 10)))], [(((AD 0) 15), .inl (T 1, 4, .inl (bf (ν 11))))], [(((AD 0) 16), .inl (T 0, 20, .inl (ν 12)))], [(((AD 0) 17), .inr (1, [.ref ((AD 0) 18), .int (ν 14 0), .int (ν 14 1)]))], [(((AD 0) 18), .inl (T 0, 32, .inl (ν 13)))], [(((AD 8) 0), .inr (5, [.ref ((AD 0) 0), .ref ((AD 1) 0), .ref ((AD 8) 1), .ref ((AD 9) 0), .ref ((AD 7) 0)]))]] : List va_W).flatten := hD
  have hS : va_S A s.heap s.heap [] := va_S.rf
  have hl := lv_entry ([.ref ((AD 8) 0), .int (w)]) (n := 2) (Nat.le_of_ble_eq_true rfl)
  rw [lg_entry_eq]
  generalize (lg_sl ([.ref ((AD 8) 0), .int (w)]) ++ List.replicate (2 - (lg_sl ([.ref ((AD 8) 0), .int (w)])).length) Slot.unset).toArray = ls at hl ⊢
  have hl : lv_has ls 2 [(0, .ref ((AD 8) 0)), (1, .int (w))] := hl
  have w_10 := hts (.fieldLink RX5 10 "PoisonedMemory" "state" "LPoisonedMemory$State;") (by decide +kernel)
  have hinX5 : ∀ w ∈ wsX50, w ∈ wsX5_value := by decide +kernel
  have n_136 := va_Nw.use (A := ([.ref ((AD 8) 0), .int (w)] : List Value).toArray) rfl (hN.1 _ (List.mem_of_getElem? (i := 0) rfl))
  have hinX3 : ∀ w ∈ wsX30, w ∈ wsX5_value := by decide +kernel
  have n_139 := va_Nw.use (A := ([.ref ((AD 8) 0), .int (w)] : List Value).toArray) rfl (hN.1 _ (List.mem_of_getElem? (i := 1) rfl))
  have hinX0 : ∀ w ∈ wsX00, w ∈ wsX5_value := by decide +kernel
  refine lv_iload_n hx hb dX5_value_0 rfl (lv_at hl 1 rfl) ?_
  refine fr_S0 (As := [.int (w)]) (rest := []) ⟨hx, hb, hml, hown, hts⟩ (kX5_isWord l D T Z w) (va_cwS 1 hts gX5_value_X5_isWord rfl rfl rfl (by decide +kernel) ⟨Nat.le_of_ble_eq_true rfl, Nat.le_of_ble_eq_true rfl⟩) hK hN hM hP hD hS hA rfl hl.1 rfl (Nat.le_of_ble_eq_true rfl) dX5_value_1 ⟨Nat.zero_le _, Nat.zero_le _⟩ (fun H locs hP hD hS => ?_)
  refine fr_ifeq_b (tgt := 22) hx hb dX5_value_4 (by decide) (fun c_1 => ?_) (fun c_1 => ?_)
  · refine lv_iconst (v := (-1)) hx hb dX5_value_22 (by decide) ?_
    exact fr_iret hx hb hr hlk hP hS (by first | rfl | (simp only [c_1, ↓reduceIte, Bool.false_eq_true, bI_true, bI_false, Bool.true_and, Bool.and_true, Bool.and_false, Bool.false_and, Bool.not_true, Bool.not_false, Bool.or_true, Bool.true_or, Bool.or_false, Bool.false_or] <;> rfl) | (simp [c_1, bI]; done)) rfl dX5_value_23
  · have e_2 := iN_eq c_1
    have e_2b := iN_lt c_1 (by decide)
    refine lv_aload_n hx hb dX5_value_7 rfl (lv_at hl 0 rfl) ?_
    refine va_get (D := D) (ci := 5) (v := .ref ((AD 0) 0)) (C := RX5) (T := TX5) (N := 5) hx hb hts hinX5 hown hK (hP.at 19 rfl) 0 rfl rfl 0 (by decide) w_10 (fun _ h9 => h9) rfl dX5_value_8 ?_
    refine va_getN (D := D) (ci := 3) (v := .ref ((AD 0) 1)) (C := RX3) (T := TX3) (N := 10) hx hb hts hinX3 hown hK (hP.at 0 rfl) 0 rfl rfl 0 (by decide) n_136 (fun _ h9 => h9) rfl dX5_value_11 ?_
    refine va_getN (D := D) (ci := 0) (v := .ref ((AD 0) 2)) (C := RX0) (T := TX0) (N := 3) hx hb hts hinX0 hown hK (hP.at 1 rfl) 0 rfl rfl 0 (by decide) n_139 (fun _ h9 => h9) rfl dX5_value_14 ?_
    refine lv_iload_n hx hb dX5_value_17 rfl (lv_at hl 1 rfl) ?_
    refine fr_val e_2 ?_
    refine fr_iald hx hb hK hP 2 (tn w) rfl (by omega) (by omega) dX5_value_18 ?_
    refine lv_goto (tgt := 23) hx hb dX5_value_19 (by decide) ?_
    exact fr_iret hx hb hr hlk hP hS (by first | rfl | (simp only [c_1, ↓reduceIte, Bool.false_eq_true, bI_true, bI_false, Bool.true_and, Bool.and_true, Bool.and_false, Bool.false_and, Bool.not_true, Bool.not_false, Bool.or_true, Bool.true_or, Bool.or_false, Bool.false_or] <;> rfl) | (simp [c_1, bI]; done)) rfl dX5_value_23

set_option maxHeartbeats 8000000 in
set_option maxRecDepth 100000 in
theorem kX5_origin (l : Launch) (D : va_G) (T : Nat → ClassId) (Z : ZZ) (AD : Nat → Nat → Nat) (ν : NS) (w : Int32)  : CtI l D T Z yX5_origin wsX5_origin ({ frames := 1, cells := 0, slots := 0, locals := 20 }) (stF T (AD 0) ν ++ [maF AD]) [.ref ((AD 8) 0), .int (w)] (if iN w 32 then ν 1 (tn w) else -1) (stF T (AD 0) ν ++ [maF AD]) := by
  refine CtI.of (cc := cX5_origin) (maxL := 2) (ret := (some .int)) (plainFor_of_name (by decide)) rfl rfl ?_
  intro pP eE s mM bW mE cC A hE hK hN hM hP hD hA
  obtain ⟨hx, hb, hr, hts, hown, hml, hlk⟩ := hE
  have hown : s.vm.findClass RX5 = some mM.cls := hown
  have hP : frP D [[(((AD 0) 0), .inr (3, [.ref ((AD 0) 1), .ref ((AD 0) 5), .ref ((AD 0) 9), .ref ((AD 0) 13), .ref ((AD 0) 14), .ref ((AD 0) 15), .ref ((AD 0) 16), .ref ((AD 0) 17), .int (ν 15 0), .int (ν 15 1)]))], [(((AD 0) 1), .inr (0, [.ref ((AD 0) 2), .ref ((AD 0) 3), .ref ((AD 0) 4)]))], [(((AD 0) 2), .inl (T 0, 32, .inl (ν 0)))], [(((AD 0) 3), .inl (T 0, 32, .inl (ν 1)))], [(((AD 0) 4), .inl (T 0, 32, .inl (ν 2)))], [(((AD 0) 5), .inr (0, [.ref ((AD 0) 6), .ref ((AD 0) 7), .ref ((AD 0) 8)]))], [(((AD 0) 6), .inl (T 0, 32, .inl (ν 3)))], [(((AD 0) 7), .inl (T 0, 32, .inl (ν 4)))], [(((AD 0) 8), .inl (T 0, 32, .inl (ν 5)))], [(((AD 0) 9), .inr (0, [.ref ((AD 0) 10), .ref ((AD 0) 11), .ref ((AD 0) 12)]))], [(((AD 0) 10), .inl (T 0, 16, .inl (ν 6)))], [(((AD 0) 11), .inl (T 0, 16, .inl (ν 7)))], [(((AD 0) 12), .inl (T 0, 16, .inl (ν 8)))], [(((AD 0) 13), .inl (T 1, 8, .inl (bf (ν 9))))], [(((AD 0) 14), .inl (T 0, 4, .inl (ν 10)))], [(((AD 0) 15), .inl (T 1, 4, .inl (bf (ν 11))))], [(((AD 0) 16), .inl (T 0, 20, .inl (ν 12)))], [(((AD 0) 17), .inr (1, [.ref ((AD 0) 18), .int (ν 14 0), .int (ν 14 1)]))], [(((AD 0) 18), .inl (T 0, 32, .inl (ν 13)))], [(((AD 8) 0), .inr (5, [.ref ((AD 0) 0), .ref ((AD 1) 0), .ref ((AD 8) 1), .ref ((AD 9) 0), .ref ((AD 7) 0)]))]] s.heap := hP
  have hD : va_D A ([[(((AD 0) 0), .inr (3, [.ref ((AD 0) 1), .ref ((AD 0) 5), .ref ((AD 0) 9), .ref ((AD 0) 13), .ref ((AD 0) 14), .ref ((AD 0) 15), .ref ((AD 0) 16), .ref ((AD 0) 17), .int (ν 15 0), .int (ν 15 1)]))], [(((AD 0) 1), .inr (0, [.ref ((AD 0) 2), .ref ((AD 0) 3), .ref ((AD 0) 4)]))], [(((AD 0) 2), .inl (T 0, 32, .inl (ν 0)))], [(((AD 0) 3), .inl (T 0, 32, .inl (ν 1)))], [(((AD 0) 4), .inl (T 0, 32, .inl (ν 2)))], [(((AD 0) 5), .inr (0, [.ref ((AD 0) 6), .ref ((AD 0) 7), .ref ((AD 0) 8)]))], [(((AD 0) 6), .inl (T 0, 32, .inl (ν 3)))], [(((AD 0) 7), .inl (T 0, 32, .inl (ν 4)))], [(((AD 0) 8), .inl (T 0, 32, .inl (ν 5)))], [(((AD 0) 9), .inr (0, [.ref ((AD 0) 10), .ref ((AD 0) 11), .ref ((AD 0) 12)]))], [(((AD 0) 10), .inl (T 0, 16, .inl (ν 6)))], [(((AD 0) 11), .inl (T 0, 16, .inl (ν 7)))], [(((AD 0) 12), .inl (T 0, 16, .inl (ν 8)))], [(((AD 0) 13), .inl (T 1, 8, .inl (bf (ν 9))))], [(((AD 0) 14), .inl (T 0, 4, .inl (ν 10)))], [(((AD 0) 15), .inl (T 1, 4, .inl (bf (ν 11))))], [(((AD 0) 16), .inl (T 0, 20, .inl (ν 12)))], [(((AD 0) 17), .inr (1, [.ref ((AD 0) 18), .int (ν 14 0), .int (ν 14 1)]))], [(((AD 0) 18), .inl (T 0, 32, .inl (ν 13)))], [(((AD 8) 0), .inr (5, [.ref ((AD 0) 0), .ref ((AD 1) 0), .ref ((AD 8) 1), .ref ((AD 9) 0), .ref ((AD 7) 0)]))]] : List va_W).flatten := hD
  have hS : va_S A s.heap s.heap [] := va_S.rf
  have hl := lv_entry ([.ref ((AD 8) 0), .int (w)]) (n := 2) (Nat.le_of_ble_eq_true rfl)
  rw [lg_entry_eq]
  generalize (lg_sl ([.ref ((AD 8) 0), .int (w)]) ++ List.replicate (2 - (lg_sl ([.ref ((AD 8) 0), .int (w)])).length) Slot.unset).toArray = ls at hl ⊢
  have hl : lv_has ls 2 [(0, .ref ((AD 8) 0)), (1, .int (w))] := hl
  have w_10 := hts (.fieldLink RX5 10 "PoisonedMemory" "state" "LPoisonedMemory$State;") (by decide +kernel)
  have hinX5 : ∀ w ∈ wsX50, w ∈ wsX5_origin := by decide +kernel
  have n_136 := va_Nw.use (A := ([.ref ((AD 8) 0), .int (w)] : List Value).toArray) rfl (hN.1 _ (List.mem_of_getElem? (i := 0) rfl))
  have hinX3 : ∀ w ∈ wsX30, w ∈ wsX5_origin := by decide +kernel
  have n_143 := va_Nw.use (A := ([.ref ((AD 8) 0), .int (w)] : List Value).toArray) rfl (hN.1 _ (List.mem_of_getElem? (i := 2) rfl))
  have hinX0 : ∀ w ∈ wsX00, w ∈ wsX5_origin := by decide +kernel
  refine lv_iload_n hx hb dX5_origin_0 rfl (lv_at hl 1 rfl) ?_
  refine fr_S0 (As := [.int (w)]) (rest := []) ⟨hx, hb, hml, hown, hts⟩ (kX5_isWord l D T Z w) (va_cwS 1 hts gX5_origin_X5_isWord rfl rfl rfl (by decide +kernel) ⟨Nat.le_of_ble_eq_true rfl, Nat.le_of_ble_eq_true rfl⟩) hK hN hM hP hD hS hA rfl hl.1 rfl (Nat.le_of_ble_eq_true rfl) dX5_origin_1 ⟨Nat.zero_le _, Nat.zero_le _⟩ (fun H locs hP hD hS => ?_)
  refine fr_ifeq_b (tgt := 22) hx hb dX5_origin_4 (by decide) (fun c_1 => ?_) (fun c_1 => ?_)
  · refine lv_iconst (v := (-1)) hx hb dX5_origin_22 (by decide) ?_
    exact fr_iret hx hb hr hlk hP hS (by first | rfl | (simp only [c_1, ↓reduceIte, Bool.false_eq_true, bI_true, bI_false, Bool.true_and, Bool.and_true, Bool.and_false, Bool.false_and, Bool.not_true, Bool.not_false, Bool.or_true, Bool.true_or, Bool.or_false, Bool.false_or] <;> rfl) | (simp [c_1, bI]; done)) rfl dX5_origin_23
  · have e_2 := iN_eq c_1
    have e_2b := iN_lt c_1 (by decide)
    refine lv_aload_n hx hb dX5_origin_7 rfl (lv_at hl 0 rfl) ?_
    refine va_get (D := D) (ci := 5) (v := .ref ((AD 0) 0)) (C := RX5) (T := TX5) (N := 5) hx hb hts hinX5 hown hK (hP.at 19 rfl) 0 rfl rfl 0 (by decide) w_10 (fun _ h9 => h9) rfl dX5_origin_8 ?_
    refine va_getN (D := D) (ci := 3) (v := .ref ((AD 0) 1)) (C := RX3) (T := TX3) (N := 10) hx hb hts hinX3 hown hK (hP.at 0 rfl) 0 rfl rfl 0 (by decide) n_136 (fun _ h9 => h9) rfl dX5_origin_11 ?_
    refine va_getN (D := D) (ci := 0) (v := .ref ((AD 0) 3)) (C := RX0) (T := TX0) (N := 3) hx hb hts hinX0 hown hK (hP.at 1 rfl) 0 rfl rfl 1 (by decide) n_143 (fun _ h9 => h9) rfl dX5_origin_14 ?_
    refine lv_iload_n hx hb dX5_origin_17 rfl (lv_at hl 1 rfl) ?_
    refine fr_val e_2 ?_
    refine fr_iald hx hb hK hP 3 (tn w) rfl (by omega) (by omega) dX5_origin_18 ?_
    refine lv_goto (tgt := 23) hx hb dX5_origin_19 (by decide) ?_
    exact fr_iret hx hb hr hlk hP hS (by first | rfl | (simp only [c_1, ↓reduceIte, Bool.false_eq_true, bI_true, bI_false, Bool.true_and, Bool.and_true, Bool.and_false, Bool.false_and, Bool.not_true, Bool.not_false, Bool.or_true, Bool.true_or, Bool.or_false, Bool.false_or] <;> rfl) | (simp [c_1, bI]; done)) rfl dX5_origin_23

set_option maxHeartbeats 8000000 in
set_option maxRecDepth 100000 in
theorem kX5_hops (l : Launch) (D : va_G) (T : Nat → ClassId) (Z : ZZ) (AD : Nat → Nat → Nat) (ν : NS) (w : Int32)  : CtI l D T Z yX5_hops wsX5_hops ({ frames := 1, cells := 0, slots := 0, locals := 20 }) (stF T (AD 0) ν ++ [maF AD]) [.ref ((AD 8) 0), .int (w)] (if iN w 32 then ν 2 (tn w) else -1) (stF T (AD 0) ν ++ [maF AD]) := by
  refine CtI.of (cc := cX5_hops) (maxL := 2) (ret := (some .int)) (plainFor_of_name (by decide)) rfl rfl ?_
  intro pP eE s mM bW mE cC A hE hK hN hM hP hD hA
  obtain ⟨hx, hb, hr, hts, hown, hml, hlk⟩ := hE
  have hown : s.vm.findClass RX5 = some mM.cls := hown
  have hP : frP D [[(((AD 0) 0), .inr (3, [.ref ((AD 0) 1), .ref ((AD 0) 5), .ref ((AD 0) 9), .ref ((AD 0) 13), .ref ((AD 0) 14), .ref ((AD 0) 15), .ref ((AD 0) 16), .ref ((AD 0) 17), .int (ν 15 0), .int (ν 15 1)]))], [(((AD 0) 1), .inr (0, [.ref ((AD 0) 2), .ref ((AD 0) 3), .ref ((AD 0) 4)]))], [(((AD 0) 2), .inl (T 0, 32, .inl (ν 0)))], [(((AD 0) 3), .inl (T 0, 32, .inl (ν 1)))], [(((AD 0) 4), .inl (T 0, 32, .inl (ν 2)))], [(((AD 0) 5), .inr (0, [.ref ((AD 0) 6), .ref ((AD 0) 7), .ref ((AD 0) 8)]))], [(((AD 0) 6), .inl (T 0, 32, .inl (ν 3)))], [(((AD 0) 7), .inl (T 0, 32, .inl (ν 4)))], [(((AD 0) 8), .inl (T 0, 32, .inl (ν 5)))], [(((AD 0) 9), .inr (0, [.ref ((AD 0) 10), .ref ((AD 0) 11), .ref ((AD 0) 12)]))], [(((AD 0) 10), .inl (T 0, 16, .inl (ν 6)))], [(((AD 0) 11), .inl (T 0, 16, .inl (ν 7)))], [(((AD 0) 12), .inl (T 0, 16, .inl (ν 8)))], [(((AD 0) 13), .inl (T 1, 8, .inl (bf (ν 9))))], [(((AD 0) 14), .inl (T 0, 4, .inl (ν 10)))], [(((AD 0) 15), .inl (T 1, 4, .inl (bf (ν 11))))], [(((AD 0) 16), .inl (T 0, 20, .inl (ν 12)))], [(((AD 0) 17), .inr (1, [.ref ((AD 0) 18), .int (ν 14 0), .int (ν 14 1)]))], [(((AD 0) 18), .inl (T 0, 32, .inl (ν 13)))], [(((AD 8) 0), .inr (5, [.ref ((AD 0) 0), .ref ((AD 1) 0), .ref ((AD 8) 1), .ref ((AD 9) 0), .ref ((AD 7) 0)]))]] s.heap := hP
  have hD : va_D A ([[(((AD 0) 0), .inr (3, [.ref ((AD 0) 1), .ref ((AD 0) 5), .ref ((AD 0) 9), .ref ((AD 0) 13), .ref ((AD 0) 14), .ref ((AD 0) 15), .ref ((AD 0) 16), .ref ((AD 0) 17), .int (ν 15 0), .int (ν 15 1)]))], [(((AD 0) 1), .inr (0, [.ref ((AD 0) 2), .ref ((AD 0) 3), .ref ((AD 0) 4)]))], [(((AD 0) 2), .inl (T 0, 32, .inl (ν 0)))], [(((AD 0) 3), .inl (T 0, 32, .inl (ν 1)))], [(((AD 0) 4), .inl (T 0, 32, .inl (ν 2)))], [(((AD 0) 5), .inr (0, [.ref ((AD 0) 6), .ref ((AD 0) 7), .ref ((AD 0) 8)]))], [(((AD 0) 6), .inl (T 0, 32, .inl (ν 3)))], [(((AD 0) 7), .inl (T 0, 32, .inl (ν 4)))], [(((AD 0) 8), .inl (T 0, 32, .inl (ν 5)))], [(((AD 0) 9), .inr (0, [.ref ((AD 0) 10), .ref ((AD 0) 11), .ref ((AD 0) 12)]))], [(((AD 0) 10), .inl (T 0, 16, .inl (ν 6)))], [(((AD 0) 11), .inl (T 0, 16, .inl (ν 7)))], [(((AD 0) 12), .inl (T 0, 16, .inl (ν 8)))], [(((AD 0) 13), .inl (T 1, 8, .inl (bf (ν 9))))], [(((AD 0) 14), .inl (T 0, 4, .inl (ν 10)))], [(((AD 0) 15), .inl (T 1, 4, .inl (bf (ν 11))))], [(((AD 0) 16), .inl (T 0, 20, .inl (ν 12)))], [(((AD 0) 17), .inr (1, [.ref ((AD 0) 18), .int (ν 14 0), .int (ν 14 1)]))], [(((AD 0) 18), .inl (T 0, 32, .inl (ν 13)))], [(((AD 8) 0), .inr (5, [.ref ((AD 0) 0), .ref ((AD 1) 0), .ref ((AD 8) 1), .ref ((AD 9) 0), .ref ((AD 7) 0)]))]] : List va_W).flatten := hD
  have hS : va_S A s.heap s.heap [] := va_S.rf
  have hl := lv_entry ([.ref ((AD 8) 0), .int (w)]) (n := 2) (Nat.le_of_ble_eq_true rfl)
  rw [lg_entry_eq]
  generalize (lg_sl ([.ref ((AD 8) 0), .int (w)]) ++ List.replicate (2 - (lg_sl ([.ref ((AD 8) 0), .int (w)])).length) Slot.unset).toArray = ls at hl ⊢
  have hl : lv_has ls 2 [(0, .ref ((AD 8) 0)), (1, .int (w))] := hl
  have w_10 := hts (.fieldLink RX5 10 "PoisonedMemory" "state" "LPoisonedMemory$State;") (by decide +kernel)
  have hinX5 : ∀ w ∈ wsX50, w ∈ wsX5_hops := by decide +kernel
  have n_136 := va_Nw.use (A := ([.ref ((AD 8) 0), .int (w)] : List Value).toArray) rfl (hN.1 _ (List.mem_of_getElem? (i := 0) rfl))
  have hinX3 : ∀ w ∈ wsX30, w ∈ wsX5_hops := by decide +kernel
  have n_146 := va_Nw.use (A := ([.ref ((AD 8) 0), .int (w)] : List Value).toArray) rfl (hN.1 _ (List.mem_of_getElem? (i := 3) rfl))
  have hinX0 : ∀ w ∈ wsX00, w ∈ wsX5_hops := by decide +kernel
  refine lv_iload_n hx hb dX5_hops_0 rfl (lv_at hl 1 rfl) ?_
  refine fr_S0 (As := [.int (w)]) (rest := []) ⟨hx, hb, hml, hown, hts⟩ (kX5_isWord l D T Z w) (va_cwS 1 hts gX5_hops_X5_isWord rfl rfl rfl (by decide +kernel) ⟨Nat.le_of_ble_eq_true rfl, Nat.le_of_ble_eq_true rfl⟩) hK hN hM hP hD hS hA rfl hl.1 rfl (Nat.le_of_ble_eq_true rfl) dX5_hops_1 ⟨Nat.zero_le _, Nat.zero_le _⟩ (fun H locs hP hD hS => ?_)
  refine fr_ifeq_b (tgt := 22) hx hb dX5_hops_4 (by decide) (fun c_1 => ?_) (fun c_1 => ?_)
  · refine lv_iconst (v := (-1)) hx hb dX5_hops_22 (by decide) ?_
    exact fr_iret hx hb hr hlk hP hS (by first | rfl | (simp only [c_1, ↓reduceIte, Bool.false_eq_true, bI_true, bI_false, Bool.true_and, Bool.and_true, Bool.and_false, Bool.false_and, Bool.not_true, Bool.not_false, Bool.or_true, Bool.true_or, Bool.or_false, Bool.false_or] <;> rfl) | (simp [c_1, bI]; done)) rfl dX5_hops_23
  · have e_2 := iN_eq c_1
    have e_2b := iN_lt c_1 (by decide)
    refine lv_aload_n hx hb dX5_hops_7 rfl (lv_at hl 0 rfl) ?_
    refine va_get (D := D) (ci := 5) (v := .ref ((AD 0) 0)) (C := RX5) (T := TX5) (N := 5) hx hb hts hinX5 hown hK (hP.at 19 rfl) 0 rfl rfl 0 (by decide) w_10 (fun _ h9 => h9) rfl dX5_hops_8 ?_
    refine va_getN (D := D) (ci := 3) (v := .ref ((AD 0) 1)) (C := RX3) (T := TX3) (N := 10) hx hb hts hinX3 hown hK (hP.at 0 rfl) 0 rfl rfl 0 (by decide) n_136 (fun _ h9 => h9) rfl dX5_hops_11 ?_
    refine va_getN (D := D) (ci := 0) (v := .ref ((AD 0) 4)) (C := RX0) (T := TX0) (N := 3) hx hb hts hinX0 hown hK (hP.at 1 rfl) 0 rfl rfl 2 (by decide) n_146 (fun _ h9 => h9) rfl dX5_hops_14 ?_
    refine lv_iload_n hx hb dX5_hops_17 rfl (lv_at hl 1 rfl) ?_
    refine fr_val e_2 ?_
    refine fr_iald hx hb hK hP 4 (tn w) rfl (by omega) (by omega) dX5_hops_18 ?_
    refine lv_goto (tgt := 23) hx hb dX5_hops_19 (by decide) ?_
    exact fr_iret hx hb hr hlk hP hS (by first | rfl | (simp only [c_1, ↓reduceIte, Bool.false_eq_true, bI_true, bI_false, Bool.true_and, Bool.and_true, Bool.and_false, Bool.false_and, Bool.not_true, Bool.not_false, Bool.or_true, Bool.true_or, Bool.or_false, Bool.false_or] <;> rfl) | (simp [c_1, bI]; done)) rfl dX5_hops_23

set_option maxHeartbeats 8000000 in
set_option maxRecDepth 100000 in
theorem kX5_mirrorValue (l : Launch) (D : va_G) (T : Nat → ClassId) (Z : ZZ) (AD : Nat → Nat → Nat) (ν : NS) (w : Int32)  : CtI l D T Z yX5_mirrorValue wsX5_mirrorValue ({ frames := 1, cells := 0, slots := 0, locals := 21 }) (stF T (AD 0) ν ++ [maF AD]) [.ref ((AD 8) 0), .int (w)] (if iN w 32 then (if bz (ν 9 (tn w / 4)) then ν 3 (tn w) else -6) else -1) (stF T (AD 0) ν ++ [maF AD]) := by
  refine CtI.of (cc := cX5_mirrorValue) (maxL := 2) (ret := (some .int)) (plainFor_of_name (by decide)) rfl rfl ?_
  intro pP eE s mM bW mE cC A hE hK hN hM hP hD hA
  obtain ⟨hx, hb, hr, hts, hown, hml, hlk⟩ := hE
  have hown : s.vm.findClass RX5 = some mM.cls := hown
  have hP : frP D [[(((AD 0) 0), .inr (3, [.ref ((AD 0) 1), .ref ((AD 0) 5), .ref ((AD 0) 9), .ref ((AD 0) 13), .ref ((AD 0) 14), .ref ((AD 0) 15), .ref ((AD 0) 16), .ref ((AD 0) 17), .int (ν 15 0), .int (ν 15 1)]))], [(((AD 0) 1), .inr (0, [.ref ((AD 0) 2), .ref ((AD 0) 3), .ref ((AD 0) 4)]))], [(((AD 0) 2), .inl (T 0, 32, .inl (ν 0)))], [(((AD 0) 3), .inl (T 0, 32, .inl (ν 1)))], [(((AD 0) 4), .inl (T 0, 32, .inl (ν 2)))], [(((AD 0) 5), .inr (0, [.ref ((AD 0) 6), .ref ((AD 0) 7), .ref ((AD 0) 8)]))], [(((AD 0) 6), .inl (T 0, 32, .inl (ν 3)))], [(((AD 0) 7), .inl (T 0, 32, .inl (ν 4)))], [(((AD 0) 8), .inl (T 0, 32, .inl (ν 5)))], [(((AD 0) 9), .inr (0, [.ref ((AD 0) 10), .ref ((AD 0) 11), .ref ((AD 0) 12)]))], [(((AD 0) 10), .inl (T 0, 16, .inl (ν 6)))], [(((AD 0) 11), .inl (T 0, 16, .inl (ν 7)))], [(((AD 0) 12), .inl (T 0, 16, .inl (ν 8)))], [(((AD 0) 13), .inl (T 1, 8, .inl (bf (ν 9))))], [(((AD 0) 14), .inl (T 0, 4, .inl (ν 10)))], [(((AD 0) 15), .inl (T 1, 4, .inl (bf (ν 11))))], [(((AD 0) 16), .inl (T 0, 20, .inl (ν 12)))], [(((AD 0) 17), .inr (1, [.ref ((AD 0) 18), .int (ν 14 0), .int (ν 14 1)]))], [(((AD 0) 18), .inl (T 0, 32, .inl (ν 13)))], [(((AD 8) 0), .inr (5, [.ref ((AD 0) 0), .ref ((AD 1) 0), .ref ((AD 8) 1), .ref ((AD 9) 0), .ref ((AD 7) 0)]))]] s.heap := hP
  have hD : va_D A ([[(((AD 0) 0), .inr (3, [.ref ((AD 0) 1), .ref ((AD 0) 5), .ref ((AD 0) 9), .ref ((AD 0) 13), .ref ((AD 0) 14), .ref ((AD 0) 15), .ref ((AD 0) 16), .ref ((AD 0) 17), .int (ν 15 0), .int (ν 15 1)]))], [(((AD 0) 1), .inr (0, [.ref ((AD 0) 2), .ref ((AD 0) 3), .ref ((AD 0) 4)]))], [(((AD 0) 2), .inl (T 0, 32, .inl (ν 0)))], [(((AD 0) 3), .inl (T 0, 32, .inl (ν 1)))], [(((AD 0) 4), .inl (T 0, 32, .inl (ν 2)))], [(((AD 0) 5), .inr (0, [.ref ((AD 0) 6), .ref ((AD 0) 7), .ref ((AD 0) 8)]))], [(((AD 0) 6), .inl (T 0, 32, .inl (ν 3)))], [(((AD 0) 7), .inl (T 0, 32, .inl (ν 4)))], [(((AD 0) 8), .inl (T 0, 32, .inl (ν 5)))], [(((AD 0) 9), .inr (0, [.ref ((AD 0) 10), .ref ((AD 0) 11), .ref ((AD 0) 12)]))], [(((AD 0) 10), .inl (T 0, 16, .inl (ν 6)))], [(((AD 0) 11), .inl (T 0, 16, .inl (ν 7)))], [(((AD 0) 12), .inl (T 0, 16, .inl (ν 8)))], [(((AD 0) 13), .inl (T 1, 8, .inl (bf (ν 9))))], [(((AD 0) 14), .inl (T 0, 4, .inl (ν 10)))], [(((AD 0) 15), .inl (T 1, 4, .inl (bf (ν 11))))], [(((AD 0) 16), .inl (T 0, 20, .inl (ν 12)))], [(((AD 0) 17), .inr (1, [.ref ((AD 0) 18), .int (ν 14 0), .int (ν 14 1)]))], [(((AD 0) 18), .inl (T 0, 32, .inl (ν 13)))], [(((AD 8) 0), .inr (5, [.ref ((AD 0) 0), .ref ((AD 1) 0), .ref ((AD 8) 1), .ref ((AD 9) 0), .ref ((AD 7) 0)]))]] : List va_W).flatten := hD
  have hS : va_S A s.heap s.heap [] := va_S.rf
  have hl := lv_entry ([.ref ((AD 8) 0), .int (w)]) (n := 2) (Nat.le_of_ble_eq_true rfl)
  rw [lg_entry_eq]
  generalize (lg_sl ([.ref ((AD 8) 0), .int (w)]) ++ List.replicate (2 - (lg_sl ([.ref ((AD 8) 0), .int (w)])).length) Slot.unset).toArray = ls at hl ⊢
  have hl : lv_has ls 2 [(0, .ref ((AD 8) 0)), (1, .int (w))] := hl
  have w_10 := hts (.fieldLink RX5 10 "PoisonedMemory" "state" "LPoisonedMemory$State;") (by decide +kernel)
  have hinX5 : ∀ w ∈ wsX50, w ∈ wsX5_mirrorValue := by decide +kernel
  have n_149 := hN.2 _ (List.mem_of_getElem? (i := 2) rfl)
  have w_iniX3 := hts (.initialized RX3) (by decide +kernel)
  have w_im149 := hts (.instanceMethod yX3_hasSecond) (by decide +kernel)
  have w_se149 := hts (.selects RX3 yX3_hasSecond yX3_hasSecond) (by decide +kernel)
  have n_152 := va_Nw.use (A := ([.ref ((AD 8) 0), .int (w)] : List Value).toArray) rfl (hN.1 _ (List.mem_of_getElem? (i := 4) rfl))
  have hinX3 : ∀ w ∈ wsX30, w ∈ wsX5_mirrorValue := by decide +kernel
  have n_139 := va_Nw.use (A := ([.ref ((AD 8) 0), .int (w)] : List Value).toArray) rfl (hN.1 _ (List.mem_of_getElem? (i := 1) rfl))
  have hinX0 : ∀ w ∈ wsX00, w ∈ wsX5_mirrorValue := by decide +kernel
  refine lv_iload_n hx hb dX5_mirrorValue_0 rfl (lv_at hl 1 rfl) ?_
  refine fr_S0 (As := [.int (w)]) (rest := []) ⟨hx, hb, hml, hown, hts⟩ (kX5_isWord l D T Z w) (va_cwS 1 hts gX5_mirrorValue_X5_isWord rfl rfl rfl (by decide +kernel) ⟨Nat.le_of_ble_eq_true rfl, Nat.le_of_ble_eq_true rfl⟩) hK hN hM hP hD hS hA rfl hl.1 rfl (Nat.le_of_ble_eq_true rfl) dX5_mirrorValue_1 ⟨Nat.zero_le _, Nat.zero_le _⟩ (fun H locs hP hD hS => ?_)
  refine fr_ifne_b (tgt := 9) hx hb dX5_mirrorValue_4 (by decide) (fun c_1 => ?_) (fun c_1 => ?_)
  · have e_2 := iN_eq c_1
    have e_2b := iN_lt c_1 (by decide)
    refine lv_aload_n hx hb dX5_mirrorValue_9 rfl (lv_at hl 0 rfl) ?_
    refine va_get (D := D) (ci := 5) (v := .ref ((AD 0) 0)) (C := RX5) (T := TX5) (N := 5) hx hb hts hinX5 hown hK (hP.at 19 rfl) 0 rfl rfl 0 (by decide) w_10 (fun _ h9 => h9) rfl dX5_mirrorValue_10 ?_
    refine lv_iload_n hx hb dX5_mirrorValue_13 rfl (lv_at hl 1 rfl) ?_
    refine fr_val e_2 ?_
    have hPc : frP D ((stF T (AD 0) ν) ++ [[(((AD 8) 0), .inr (5, [.ref ((AD 0) 0), .ref ((AD 1) 0), .ref ((AD 8) 1), .ref ((AD 9) 0), .ref ((AD 7) 0)]))]]) _ := hP
    have hDc : va_D A ((stF T (AD 0) ν) ++ ([[(((AD 8) 0), .inr (5, [.ref ((AD 0) 0), .ref ((AD 1) 0), .ref ((AD 8) 1), .ref ((AD 9) 0), .ref ((AD 7) 0)]))]] : List va_W)).flatten := hD
    refine fr_VNiP (As := [.int (nI (tn w))]) (rest := []) (cs := (stF T (AD 0) ν)) (tl2 := [[(((AD 8) 0), .inr (5, [.ref ((AD 0) 0), .ref ((AD 1) 0), .ref ((AD 8) 1), .ref ((AD 9) 0), .ref ((AD 7) 0)]))]]) (ci := 3) (q0 := (RX3, TX3, 10)) (i0 := 0) ⟨hx, hb, hml, hown, hts⟩ (kX3_hasSecond l D T Z (AD 0) ν (tn w) (by omega)) ⟨va_cnB 1 hts ggX5_mirrorValue_X3_hasSecond rfl rfl rfl n_149 w_iniX3 (by decide +kernel) ⟨Nat.le_of_ble_eq_true rfl, Nat.le_of_ble_eq_true rfl⟩, w_im149, w_se149⟩ hK hN hM hPc hDc hS hA rfl rfl rfl hl.1 rfl (Nat.le_of_ble_eq_true rfl) dX5_mirrorValue_14 ⟨Nat.zero_le _, Nat.zero_le _⟩ (fun H locs hP hD hS => ?_)
    have hP : frP D [[(((AD 0) 0), .inr (3, [.ref ((AD 0) 1), .ref ((AD 0) 5), .ref ((AD 0) 9), .ref ((AD 0) 13), .ref ((AD 0) 14), .ref ((AD 0) 15), .ref ((AD 0) 16), .ref ((AD 0) 17), .int (ν 15 0), .int (ν 15 1)]))], [(((AD 0) 1), .inr (0, [.ref ((AD 0) 2), .ref ((AD 0) 3), .ref ((AD 0) 4)]))], [(((AD 0) 2), .inl (T 0, 32, .inl (ν 0)))], [(((AD 0) 3), .inl (T 0, 32, .inl (ν 1)))], [(((AD 0) 4), .inl (T 0, 32, .inl (ν 2)))], [(((AD 0) 5), .inr (0, [.ref ((AD 0) 6), .ref ((AD 0) 7), .ref ((AD 0) 8)]))], [(((AD 0) 6), .inl (T 0, 32, .inl (ν 3)))], [(((AD 0) 7), .inl (T 0, 32, .inl (ν 4)))], [(((AD 0) 8), .inl (T 0, 32, .inl (ν 5)))], [(((AD 0) 9), .inr (0, [.ref ((AD 0) 10), .ref ((AD 0) 11), .ref ((AD 0) 12)]))], [(((AD 0) 10), .inl (T 0, 16, .inl (ν 6)))], [(((AD 0) 11), .inl (T 0, 16, .inl (ν 7)))], [(((AD 0) 12), .inl (T 0, 16, .inl (ν 8)))], [(((AD 0) 13), .inl (T 1, 8, .inl (bf (ν 9))))], [(((AD 0) 14), .inl (T 0, 4, .inl (ν 10)))], [(((AD 0) 15), .inl (T 1, 4, .inl (bf (ν 11))))], [(((AD 0) 16), .inl (T 0, 20, .inl (ν 12)))], [(((AD 0) 17), .inr (1, [.ref ((AD 0) 18), .int (ν 14 0), .int (ν 14 1)]))], [(((AD 0) 18), .inl (T 0, 32, .inl (ν 13)))], [(((AD 8) 0), .inr (5, [.ref ((AD 0) 0), .ref ((AD 1) 0), .ref ((AD 8) 1), .ref ((AD 9) 0), .ref ((AD 7) 0)]))]] H := hP
    have hD : va_D A ([[(((AD 0) 0), .inr (3, [.ref ((AD 0) 1), .ref ((AD 0) 5), .ref ((AD 0) 9), .ref ((AD 0) 13), .ref ((AD 0) 14), .ref ((AD 0) 15), .ref ((AD 0) 16), .ref ((AD 0) 17), .int (ν 15 0), .int (ν 15 1)]))], [(((AD 0) 1), .inr (0, [.ref ((AD 0) 2), .ref ((AD 0) 3), .ref ((AD 0) 4)]))], [(((AD 0) 2), .inl (T 0, 32, .inl (ν 0)))], [(((AD 0) 3), .inl (T 0, 32, .inl (ν 1)))], [(((AD 0) 4), .inl (T 0, 32, .inl (ν 2)))], [(((AD 0) 5), .inr (0, [.ref ((AD 0) 6), .ref ((AD 0) 7), .ref ((AD 0) 8)]))], [(((AD 0) 6), .inl (T 0, 32, .inl (ν 3)))], [(((AD 0) 7), .inl (T 0, 32, .inl (ν 4)))], [(((AD 0) 8), .inl (T 0, 32, .inl (ν 5)))], [(((AD 0) 9), .inr (0, [.ref ((AD 0) 10), .ref ((AD 0) 11), .ref ((AD 0) 12)]))], [(((AD 0) 10), .inl (T 0, 16, .inl (ν 6)))], [(((AD 0) 11), .inl (T 0, 16, .inl (ν 7)))], [(((AD 0) 12), .inl (T 0, 16, .inl (ν 8)))], [(((AD 0) 13), .inl (T 1, 8, .inl (bf (ν 9))))], [(((AD 0) 14), .inl (T 0, 4, .inl (ν 10)))], [(((AD 0) 15), .inl (T 1, 4, .inl (bf (ν 11))))], [(((AD 0) 16), .inl (T 0, 20, .inl (ν 12)))], [(((AD 0) 17), .inr (1, [.ref ((AD 0) 18), .int (ν 14 0), .int (ν 14 1)]))], [(((AD 0) 18), .inl (T 0, 32, .inl (ν 13)))], [(((AD 8) 0), .inr (5, [.ref ((AD 0) 0), .ref ((AD 1) 0), .ref ((AD 8) 1), .ref ((AD 9) 0), .ref ((AD 7) 0)]))]] : List va_W).flatten := hD
    refine fr_ifeq_b (tgt := 35) hx hb dX5_mirrorValue_17 (by decide) (fun c_3 => ?_) (fun c_3 => ?_)
    · refine lv_bipush (v := (-6)) hx hb dX5_mirrorValue_35 (by decide) ?_
      exact fr_iret hx hb hr hlk hP hS (by first | rfl | (simp only [c_1, c_3, ↓reduceIte, Bool.false_eq_true, bI_true, bI_false, Bool.true_and, Bool.and_true, Bool.and_false, Bool.false_and, Bool.not_true, Bool.not_false, Bool.or_true, Bool.true_or, Bool.or_false, Bool.false_or] <;> rfl) | (simp [c_1, c_3, bI]; done)) rfl dX5_mirrorValue_37
    · refine lv_aload_n hx hb dX5_mirrorValue_20 rfl (lv_at hl 0 rfl) ?_
      refine va_get (D := D) (ci := 5) (v := .ref ((AD 0) 0)) (C := RX5) (T := TX5) (N := 5) hx hb hts hinX5 hown hK (hP.at 19 rfl) 0 rfl rfl 0 (by decide) w_10 (fun _ h9 => h9) rfl dX5_mirrorValue_21 ?_
      refine va_getN (D := D) (ci := 3) (v := .ref ((AD 0) 5)) (C := RX3) (T := TX3) (N := 10) hx hb hts hinX3 hown hK (hP.at 0 rfl) 0 rfl rfl 1 (by decide) n_152 (fun _ h9 => h9) rfl dX5_mirrorValue_24 ?_
      refine va_getN (D := D) (ci := 0) (v := .ref ((AD 0) 6)) (C := RX0) (T := TX0) (N := 3) hx hb hts hinX0 hown hK (hP.at 5 rfl) 0 rfl rfl 0 (by decide) n_139 (fun _ h9 => h9) rfl dX5_mirrorValue_27 ?_
      refine lv_iload_n hx hb dX5_mirrorValue_30 rfl (lv_at hl 1 rfl) ?_
      refine fr_val e_2 ?_
      refine fr_iald hx hb hK hP 6 (tn w) rfl (by omega) (by omega) dX5_mirrorValue_31 ?_
      refine lv_goto (tgt := 37) hx hb dX5_mirrorValue_32 (by decide) ?_
      exact fr_iret hx hb hr hlk hP hS (by first | rfl | (simp only [c_1, c_3, ↓reduceIte, Bool.false_eq_true, bI_true, bI_false, Bool.true_and, Bool.and_true, Bool.and_false, Bool.false_and, Bool.not_true, Bool.not_false, Bool.or_true, Bool.true_or, Bool.or_false, Bool.false_or] <;> rfl) | (simp [c_1, c_3, bI]; done)) rfl dX5_mirrorValue_37
  · refine lv_iconst (v := (-1)) hx hb dX5_mirrorValue_7 (by decide) ?_
    exact fr_iret hx hb hr hlk hP hS (by first | rfl | (simp only [c_1, ↓reduceIte, Bool.false_eq_true, bI_true, bI_false, Bool.true_and, Bool.and_true, Bool.and_false, Bool.false_and, Bool.not_true, Bool.not_false, Bool.or_true, Bool.true_or, Bool.or_false, Bool.false_or] <;> rfl) | (simp [c_1, bI]; done)) rfl dX5_mirrorValue_8

set_option maxHeartbeats 8000000 in
set_option maxRecDepth 100000 in
theorem kX5_mirrorOrigin (l : Launch) (D : va_G) (T : Nat → ClassId) (Z : ZZ) (AD : Nat → Nat → Nat) (ν : NS) (w : Int32)  : CtI l D T Z yX5_mirrorOrigin wsX5_mirrorOrigin ({ frames := 1, cells := 0, slots := 0, locals := 21 }) (stF T (AD 0) ν ++ [maF AD]) [.ref ((AD 8) 0), .int (w)] (if iN w 32 then (if bz (ν 9 (tn w / 4)) then ν 4 (tn w) else -6) else -1) (stF T (AD 0) ν ++ [maF AD]) := by
  refine CtI.of (cc := cX5_mirrorOrigin) (maxL := 2) (ret := (some .int)) (plainFor_of_name (by decide)) rfl rfl ?_
  intro pP eE s mM bW mE cC A hE hK hN hM hP hD hA
  obtain ⟨hx, hb, hr, hts, hown, hml, hlk⟩ := hE
  have hown : s.vm.findClass RX5 = some mM.cls := hown
  have hP : frP D [[(((AD 0) 0), .inr (3, [.ref ((AD 0) 1), .ref ((AD 0) 5), .ref ((AD 0) 9), .ref ((AD 0) 13), .ref ((AD 0) 14), .ref ((AD 0) 15), .ref ((AD 0) 16), .ref ((AD 0) 17), .int (ν 15 0), .int (ν 15 1)]))], [(((AD 0) 1), .inr (0, [.ref ((AD 0) 2), .ref ((AD 0) 3), .ref ((AD 0) 4)]))], [(((AD 0) 2), .inl (T 0, 32, .inl (ν 0)))], [(((AD 0) 3), .inl (T 0, 32, .inl (ν 1)))], [(((AD 0) 4), .inl (T 0, 32, .inl (ν 2)))], [(((AD 0) 5), .inr (0, [.ref ((AD 0) 6), .ref ((AD 0) 7), .ref ((AD 0) 8)]))], [(((AD 0) 6), .inl (T 0, 32, .inl (ν 3)))], [(((AD 0) 7), .inl (T 0, 32, .inl (ν 4)))], [(((AD 0) 8), .inl (T 0, 32, .inl (ν 5)))], [(((AD 0) 9), .inr (0, [.ref ((AD 0) 10), .ref ((AD 0) 11), .ref ((AD 0) 12)]))], [(((AD 0) 10), .inl (T 0, 16, .inl (ν 6)))], [(((AD 0) 11), .inl (T 0, 16, .inl (ν 7)))], [(((AD 0) 12), .inl (T 0, 16, .inl (ν 8)))], [(((AD 0) 13), .inl (T 1, 8, .inl (bf (ν 9))))], [(((AD 0) 14), .inl (T 0, 4, .inl (ν 10)))], [(((AD 0) 15), .inl (T 1, 4, .inl (bf (ν 11))))], [(((AD 0) 16), .inl (T 0, 20, .inl (ν 12)))], [(((AD 0) 17), .inr (1, [.ref ((AD 0) 18), .int (ν 14 0), .int (ν 14 1)]))], [(((AD 0) 18), .inl (T 0, 32, .inl (ν 13)))], [(((AD 8) 0), .inr (5, [.ref ((AD 0) 0), .ref ((AD 1) 0), .ref ((AD 8) 1), .ref ((AD 9) 0), .ref ((AD 7) 0)]))]] s.heap := hP
  have hD : va_D A ([[(((AD 0) 0), .inr (3, [.ref ((AD 0) 1), .ref ((AD 0) 5), .ref ((AD 0) 9), .ref ((AD 0) 13), .ref ((AD 0) 14), .ref ((AD 0) 15), .ref ((AD 0) 16), .ref ((AD 0) 17), .int (ν 15 0), .int (ν 15 1)]))], [(((AD 0) 1), .inr (0, [.ref ((AD 0) 2), .ref ((AD 0) 3), .ref ((AD 0) 4)]))], [(((AD 0) 2), .inl (T 0, 32, .inl (ν 0)))], [(((AD 0) 3), .inl (T 0, 32, .inl (ν 1)))], [(((AD 0) 4), .inl (T 0, 32, .inl (ν 2)))], [(((AD 0) 5), .inr (0, [.ref ((AD 0) 6), .ref ((AD 0) 7), .ref ((AD 0) 8)]))], [(((AD 0) 6), .inl (T 0, 32, .inl (ν 3)))], [(((AD 0) 7), .inl (T 0, 32, .inl (ν 4)))], [(((AD 0) 8), .inl (T 0, 32, .inl (ν 5)))], [(((AD 0) 9), .inr (0, [.ref ((AD 0) 10), .ref ((AD 0) 11), .ref ((AD 0) 12)]))], [(((AD 0) 10), .inl (T 0, 16, .inl (ν 6)))], [(((AD 0) 11), .inl (T 0, 16, .inl (ν 7)))], [(((AD 0) 12), .inl (T 0, 16, .inl (ν 8)))], [(((AD 0) 13), .inl (T 1, 8, .inl (bf (ν 9))))], [(((AD 0) 14), .inl (T 0, 4, .inl (ν 10)))], [(((AD 0) 15), .inl (T 1, 4, .inl (bf (ν 11))))], [(((AD 0) 16), .inl (T 0, 20, .inl (ν 12)))], [(((AD 0) 17), .inr (1, [.ref ((AD 0) 18), .int (ν 14 0), .int (ν 14 1)]))], [(((AD 0) 18), .inl (T 0, 32, .inl (ν 13)))], [(((AD 8) 0), .inr (5, [.ref ((AD 0) 0), .ref ((AD 1) 0), .ref ((AD 8) 1), .ref ((AD 9) 0), .ref ((AD 7) 0)]))]] : List va_W).flatten := hD
  have hS : va_S A s.heap s.heap [] := va_S.rf
  have hl := lv_entry ([.ref ((AD 8) 0), .int (w)]) (n := 2) (Nat.le_of_ble_eq_true rfl)
  rw [lg_entry_eq]
  generalize (lg_sl ([.ref ((AD 8) 0), .int (w)]) ++ List.replicate (2 - (lg_sl ([.ref ((AD 8) 0), .int (w)])).length) Slot.unset).toArray = ls at hl ⊢
  have hl : lv_has ls 2 [(0, .ref ((AD 8) 0)), (1, .int (w))] := hl
  have w_10 := hts (.fieldLink RX5 10 "PoisonedMemory" "state" "LPoisonedMemory$State;") (by decide +kernel)
  have hinX5 : ∀ w ∈ wsX50, w ∈ wsX5_mirrorOrigin := by decide +kernel
  have n_149 := hN.2 _ (List.mem_of_getElem? (i := 2) rfl)
  have w_iniX3 := hts (.initialized RX3) (by decide +kernel)
  have w_im149 := hts (.instanceMethod yX3_hasSecond) (by decide +kernel)
  have w_se149 := hts (.selects RX3 yX3_hasSecond yX3_hasSecond) (by decide +kernel)
  have n_152 := va_Nw.use (A := ([.ref ((AD 8) 0), .int (w)] : List Value).toArray) rfl (hN.1 _ (List.mem_of_getElem? (i := 4) rfl))
  have hinX3 : ∀ w ∈ wsX30, w ∈ wsX5_mirrorOrigin := by decide +kernel
  have n_143 := va_Nw.use (A := ([.ref ((AD 8) 0), .int (w)] : List Value).toArray) rfl (hN.1 _ (List.mem_of_getElem? (i := 2) rfl))
  have hinX0 : ∀ w ∈ wsX00, w ∈ wsX5_mirrorOrigin := by decide +kernel
  refine lv_iload_n hx hb dX5_mirrorOrigin_0 rfl (lv_at hl 1 rfl) ?_
  refine fr_S0 (As := [.int (w)]) (rest := []) ⟨hx, hb, hml, hown, hts⟩ (kX5_isWord l D T Z w) (va_cwS 1 hts gX5_mirrorOrigin_X5_isWord rfl rfl rfl (by decide +kernel) ⟨Nat.le_of_ble_eq_true rfl, Nat.le_of_ble_eq_true rfl⟩) hK hN hM hP hD hS hA rfl hl.1 rfl (Nat.le_of_ble_eq_true rfl) dX5_mirrorOrigin_1 ⟨Nat.zero_le _, Nat.zero_le _⟩ (fun H locs hP hD hS => ?_)
  refine fr_ifne_b (tgt := 9) hx hb dX5_mirrorOrigin_4 (by decide) (fun c_1 => ?_) (fun c_1 => ?_)
  · have e_2 := iN_eq c_1
    have e_2b := iN_lt c_1 (by decide)
    refine lv_aload_n hx hb dX5_mirrorOrigin_9 rfl (lv_at hl 0 rfl) ?_
    refine va_get (D := D) (ci := 5) (v := .ref ((AD 0) 0)) (C := RX5) (T := TX5) (N := 5) hx hb hts hinX5 hown hK (hP.at 19 rfl) 0 rfl rfl 0 (by decide) w_10 (fun _ h9 => h9) rfl dX5_mirrorOrigin_10 ?_
    refine lv_iload_n hx hb dX5_mirrorOrigin_13 rfl (lv_at hl 1 rfl) ?_
    refine fr_val e_2 ?_
    have hPc : frP D ((stF T (AD 0) ν) ++ [[(((AD 8) 0), .inr (5, [.ref ((AD 0) 0), .ref ((AD 1) 0), .ref ((AD 8) 1), .ref ((AD 9) 0), .ref ((AD 7) 0)]))]]) _ := hP
    have hDc : va_D A ((stF T (AD 0) ν) ++ ([[(((AD 8) 0), .inr (5, [.ref ((AD 0) 0), .ref ((AD 1) 0), .ref ((AD 8) 1), .ref ((AD 9) 0), .ref ((AD 7) 0)]))]] : List va_W)).flatten := hD
    refine fr_VNiP (As := [.int (nI (tn w))]) (rest := []) (cs := (stF T (AD 0) ν)) (tl2 := [[(((AD 8) 0), .inr (5, [.ref ((AD 0) 0), .ref ((AD 1) 0), .ref ((AD 8) 1), .ref ((AD 9) 0), .ref ((AD 7) 0)]))]]) (ci := 3) (q0 := (RX3, TX3, 10)) (i0 := 0) ⟨hx, hb, hml, hown, hts⟩ (kX3_hasSecond l D T Z (AD 0) ν (tn w) (by omega)) ⟨va_cnB 1 hts ggX5_mirrorOrigin_X3_hasSecond rfl rfl rfl n_149 w_iniX3 (by decide +kernel) ⟨Nat.le_of_ble_eq_true rfl, Nat.le_of_ble_eq_true rfl⟩, w_im149, w_se149⟩ hK hN hM hPc hDc hS hA rfl rfl rfl hl.1 rfl (Nat.le_of_ble_eq_true rfl) dX5_mirrorOrigin_14 ⟨Nat.zero_le _, Nat.zero_le _⟩ (fun H locs hP hD hS => ?_)
    have hP : frP D [[(((AD 0) 0), .inr (3, [.ref ((AD 0) 1), .ref ((AD 0) 5), .ref ((AD 0) 9), .ref ((AD 0) 13), .ref ((AD 0) 14), .ref ((AD 0) 15), .ref ((AD 0) 16), .ref ((AD 0) 17), .int (ν 15 0), .int (ν 15 1)]))], [(((AD 0) 1), .inr (0, [.ref ((AD 0) 2), .ref ((AD 0) 3), .ref ((AD 0) 4)]))], [(((AD 0) 2), .inl (T 0, 32, .inl (ν 0)))], [(((AD 0) 3), .inl (T 0, 32, .inl (ν 1)))], [(((AD 0) 4), .inl (T 0, 32, .inl (ν 2)))], [(((AD 0) 5), .inr (0, [.ref ((AD 0) 6), .ref ((AD 0) 7), .ref ((AD 0) 8)]))], [(((AD 0) 6), .inl (T 0, 32, .inl (ν 3)))], [(((AD 0) 7), .inl (T 0, 32, .inl (ν 4)))], [(((AD 0) 8), .inl (T 0, 32, .inl (ν 5)))], [(((AD 0) 9), .inr (0, [.ref ((AD 0) 10), .ref ((AD 0) 11), .ref ((AD 0) 12)]))], [(((AD 0) 10), .inl (T 0, 16, .inl (ν 6)))], [(((AD 0) 11), .inl (T 0, 16, .inl (ν 7)))], [(((AD 0) 12), .inl (T 0, 16, .inl (ν 8)))], [(((AD 0) 13), .inl (T 1, 8, .inl (bf (ν 9))))], [(((AD 0) 14), .inl (T 0, 4, .inl (ν 10)))], [(((AD 0) 15), .inl (T 1, 4, .inl (bf (ν 11))))], [(((AD 0) 16), .inl (T 0, 20, .inl (ν 12)))], [(((AD 0) 17), .inr (1, [.ref ((AD 0) 18), .int (ν 14 0), .int (ν 14 1)]))], [(((AD 0) 18), .inl (T 0, 32, .inl (ν 13)))], [(((AD 8) 0), .inr (5, [.ref ((AD 0) 0), .ref ((AD 1) 0), .ref ((AD 8) 1), .ref ((AD 9) 0), .ref ((AD 7) 0)]))]] H := hP
    have hD : va_D A ([[(((AD 0) 0), .inr (3, [.ref ((AD 0) 1), .ref ((AD 0) 5), .ref ((AD 0) 9), .ref ((AD 0) 13), .ref ((AD 0) 14), .ref ((AD 0) 15), .ref ((AD 0) 16), .ref ((AD 0) 17), .int (ν 15 0), .int (ν 15 1)]))], [(((AD 0) 1), .inr (0, [.ref ((AD 0) 2), .ref ((AD 0) 3), .ref ((AD 0) 4)]))], [(((AD 0) 2), .inl (T 0, 32, .inl (ν 0)))], [(((AD 0) 3), .inl (T 0, 32, .inl (ν 1)))], [(((AD 0) 4), .inl (T 0, 32, .inl (ν 2)))], [(((AD 0) 5), .inr (0, [.ref ((AD 0) 6), .ref ((AD 0) 7), .ref ((AD 0) 8)]))], [(((AD 0) 6), .inl (T 0, 32, .inl (ν 3)))], [(((AD 0) 7), .inl (T 0, 32, .inl (ν 4)))], [(((AD 0) 8), .inl (T 0, 32, .inl (ν 5)))], [(((AD 0) 9), .inr (0, [.ref ((AD 0) 10), .ref ((AD 0) 11), .ref ((AD 0) 12)]))], [(((AD 0) 10), .inl (T 0, 16, .inl (ν 6)))], [(((AD 0) 11), .inl (T 0, 16, .inl (ν 7)))], [(((AD 0) 12), .inl (T 0, 16, .inl (ν 8)))], [(((AD 0) 13), .inl (T 1, 8, .inl (bf (ν 9))))], [(((AD 0) 14), .inl (T 0, 4, .inl (ν 10)))], [(((AD 0) 15), .inl (T 1, 4, .inl (bf (ν 11))))], [(((AD 0) 16), .inl (T 0, 20, .inl (ν 12)))], [(((AD 0) 17), .inr (1, [.ref ((AD 0) 18), .int (ν 14 0), .int (ν 14 1)]))], [(((AD 0) 18), .inl (T 0, 32, .inl (ν 13)))], [(((AD 8) 0), .inr (5, [.ref ((AD 0) 0), .ref ((AD 1) 0), .ref ((AD 8) 1), .ref ((AD 9) 0), .ref ((AD 7) 0)]))]] : List va_W).flatten := hD
    refine fr_ifeq_b (tgt := 35) hx hb dX5_mirrorOrigin_17 (by decide) (fun c_3 => ?_) (fun c_3 => ?_)
    · refine lv_bipush (v := (-6)) hx hb dX5_mirrorOrigin_35 (by decide) ?_
      exact fr_iret hx hb hr hlk hP hS (by first | rfl | (simp only [c_1, c_3, ↓reduceIte, Bool.false_eq_true, bI_true, bI_false, Bool.true_and, Bool.and_true, Bool.and_false, Bool.false_and, Bool.not_true, Bool.not_false, Bool.or_true, Bool.true_or, Bool.or_false, Bool.false_or] <;> rfl) | (simp [c_1, c_3, bI]; done)) rfl dX5_mirrorOrigin_37
    · refine lv_aload_n hx hb dX5_mirrorOrigin_20 rfl (lv_at hl 0 rfl) ?_
      refine va_get (D := D) (ci := 5) (v := .ref ((AD 0) 0)) (C := RX5) (T := TX5) (N := 5) hx hb hts hinX5 hown hK (hP.at 19 rfl) 0 rfl rfl 0 (by decide) w_10 (fun _ h9 => h9) rfl dX5_mirrorOrigin_21 ?_
      refine va_getN (D := D) (ci := 3) (v := .ref ((AD 0) 5)) (C := RX3) (T := TX3) (N := 10) hx hb hts hinX3 hown hK (hP.at 0 rfl) 0 rfl rfl 1 (by decide) n_152 (fun _ h9 => h9) rfl dX5_mirrorOrigin_24 ?_
      refine va_getN (D := D) (ci := 0) (v := .ref ((AD 0) 7)) (C := RX0) (T := TX0) (N := 3) hx hb hts hinX0 hown hK (hP.at 5 rfl) 0 rfl rfl 1 (by decide) n_143 (fun _ h9 => h9) rfl dX5_mirrorOrigin_27 ?_
      refine lv_iload_n hx hb dX5_mirrorOrigin_30 rfl (lv_at hl 1 rfl) ?_
      refine fr_val e_2 ?_
      refine fr_iald hx hb hK hP 7 (tn w) rfl (by omega) (by omega) dX5_mirrorOrigin_31 ?_
      refine lv_goto (tgt := 37) hx hb dX5_mirrorOrigin_32 (by decide) ?_
      exact fr_iret hx hb hr hlk hP hS (by first | rfl | (simp only [c_1, c_3, ↓reduceIte, Bool.false_eq_true, bI_true, bI_false, Bool.true_and, Bool.and_true, Bool.and_false, Bool.false_and, Bool.not_true, Bool.not_false, Bool.or_true, Bool.true_or, Bool.or_false, Bool.false_or] <;> rfl) | (simp [c_1, c_3, bI]; done)) rfl dX5_mirrorOrigin_37
  · refine lv_iconst (v := (-1)) hx hb dX5_mirrorOrigin_7 (by decide) ?_
    exact fr_iret hx hb hr hlk hP hS (by first | rfl | (simp only [c_1, ↓reduceIte, Bool.false_eq_true, bI_true, bI_false, Bool.true_and, Bool.and_true, Bool.and_false, Bool.false_and, Bool.not_true, Bool.not_false, Bool.or_true, Bool.true_or, Bool.or_false, Bool.false_or] <;> rfl) | (simp [c_1, bI]; done)) rfl dX5_mirrorOrigin_8

set_option maxHeartbeats 8000000 in
set_option maxRecDepth 100000 in
theorem kX5_register (l : Launch) (D : va_G) (T : Nat → ClassId) (Z : ZZ) (AD : Nat → Nat → Nat) (ν : NS) (t : Int32) (r : Int32)  : CtI l D T Z yX5_register wsX5_register ({ frames := 1, cells := 0, slots := 0, locals := 21 }) (stF T (AD 0) ν ++ [maF AD]) [.ref ((AD 8) 0), .int (t), .int (r)] (if iN t 4 && iN r 4 then ν 6 (tn t * 4 + tn r) else -1) (stF T (AD 0) ν ++ [maF AD]) := by
  refine CtI.of (cc := cX5_register) (maxL := 3) (ret := (some .int)) (plainFor_of_name (by decide)) rfl rfl ?_
  intro pP eE s mM bW mE cC A hE hK hN hM hP hD hA
  obtain ⟨hx, hb, hr, hts, hown, hml, hlk⟩ := hE
  have hown : s.vm.findClass RX5 = some mM.cls := hown
  have hP : frP D [[(((AD 0) 0), .inr (3, [.ref ((AD 0) 1), .ref ((AD 0) 5), .ref ((AD 0) 9), .ref ((AD 0) 13), .ref ((AD 0) 14), .ref ((AD 0) 15), .ref ((AD 0) 16), .ref ((AD 0) 17), .int (ν 15 0), .int (ν 15 1)]))], [(((AD 0) 1), .inr (0, [.ref ((AD 0) 2), .ref ((AD 0) 3), .ref ((AD 0) 4)]))], [(((AD 0) 2), .inl (T 0, 32, .inl (ν 0)))], [(((AD 0) 3), .inl (T 0, 32, .inl (ν 1)))], [(((AD 0) 4), .inl (T 0, 32, .inl (ν 2)))], [(((AD 0) 5), .inr (0, [.ref ((AD 0) 6), .ref ((AD 0) 7), .ref ((AD 0) 8)]))], [(((AD 0) 6), .inl (T 0, 32, .inl (ν 3)))], [(((AD 0) 7), .inl (T 0, 32, .inl (ν 4)))], [(((AD 0) 8), .inl (T 0, 32, .inl (ν 5)))], [(((AD 0) 9), .inr (0, [.ref ((AD 0) 10), .ref ((AD 0) 11), .ref ((AD 0) 12)]))], [(((AD 0) 10), .inl (T 0, 16, .inl (ν 6)))], [(((AD 0) 11), .inl (T 0, 16, .inl (ν 7)))], [(((AD 0) 12), .inl (T 0, 16, .inl (ν 8)))], [(((AD 0) 13), .inl (T 1, 8, .inl (bf (ν 9))))], [(((AD 0) 14), .inl (T 0, 4, .inl (ν 10)))], [(((AD 0) 15), .inl (T 1, 4, .inl (bf (ν 11))))], [(((AD 0) 16), .inl (T 0, 20, .inl (ν 12)))], [(((AD 0) 17), .inr (1, [.ref ((AD 0) 18), .int (ν 14 0), .int (ν 14 1)]))], [(((AD 0) 18), .inl (T 0, 32, .inl (ν 13)))], [(((AD 8) 0), .inr (5, [.ref ((AD 0) 0), .ref ((AD 1) 0), .ref ((AD 8) 1), .ref ((AD 9) 0), .ref ((AD 7) 0)]))]] s.heap := hP
  have hD : va_D A ([[(((AD 0) 0), .inr (3, [.ref ((AD 0) 1), .ref ((AD 0) 5), .ref ((AD 0) 9), .ref ((AD 0) 13), .ref ((AD 0) 14), .ref ((AD 0) 15), .ref ((AD 0) 16), .ref ((AD 0) 17), .int (ν 15 0), .int (ν 15 1)]))], [(((AD 0) 1), .inr (0, [.ref ((AD 0) 2), .ref ((AD 0) 3), .ref ((AD 0) 4)]))], [(((AD 0) 2), .inl (T 0, 32, .inl (ν 0)))], [(((AD 0) 3), .inl (T 0, 32, .inl (ν 1)))], [(((AD 0) 4), .inl (T 0, 32, .inl (ν 2)))], [(((AD 0) 5), .inr (0, [.ref ((AD 0) 6), .ref ((AD 0) 7), .ref ((AD 0) 8)]))], [(((AD 0) 6), .inl (T 0, 32, .inl (ν 3)))], [(((AD 0) 7), .inl (T 0, 32, .inl (ν 4)))], [(((AD 0) 8), .inl (T 0, 32, .inl (ν 5)))], [(((AD 0) 9), .inr (0, [.ref ((AD 0) 10), .ref ((AD 0) 11), .ref ((AD 0) 12)]))], [(((AD 0) 10), .inl (T 0, 16, .inl (ν 6)))], [(((AD 0) 11), .inl (T 0, 16, .inl (ν 7)))], [(((AD 0) 12), .inl (T 0, 16, .inl (ν 8)))], [(((AD 0) 13), .inl (T 1, 8, .inl (bf (ν 9))))], [(((AD 0) 14), .inl (T 0, 4, .inl (ν 10)))], [(((AD 0) 15), .inl (T 1, 4, .inl (bf (ν 11))))], [(((AD 0) 16), .inl (T 0, 20, .inl (ν 12)))], [(((AD 0) 17), .inr (1, [.ref ((AD 0) 18), .int (ν 14 0), .int (ν 14 1)]))], [(((AD 0) 18), .inl (T 0, 32, .inl (ν 13)))], [(((AD 8) 0), .inr (5, [.ref ((AD 0) 0), .ref ((AD 1) 0), .ref ((AD 8) 1), .ref ((AD 9) 0), .ref ((AD 7) 0)]))]] : List va_W).flatten := hD
  have hS : va_S A s.heap s.heap [] := va_S.rf
  have hl := lv_entry ([.ref ((AD 8) 0), .int (t), .int (r)]) (n := 3) (Nat.le_of_ble_eq_true rfl)
  rw [lg_entry_eq]
  generalize (lg_sl ([.ref ((AD 8) 0), .int (t), .int (r)]) ++ List.replicate (3 - (lg_sl ([.ref ((AD 8) 0), .int (t), .int (r)])).length) Slot.unset).toArray = ls at hl ⊢
  have hl : lv_has ls 3 [(0, .ref ((AD 8) 0)), (1, .int (t)), (2, .int (r))] := hl
  have w_10 := hts (.fieldLink RX5 10 "PoisonedMemory" "state" "LPoisonedMemory$State;") (by decide +kernel)
  have hinX5 : ∀ w ∈ wsX50, w ∈ wsX5_register := by decide +kernel
  have n_161 := va_Nw.use (A := ([.ref ((AD 8) 0), .int (t), .int (r)] : List Value).toArray) rfl (hN.1 _ (List.mem_of_getElem? (i := 5) rfl))
  have hinX3 : ∀ w ∈ wsX30, w ∈ wsX5_register := by decide +kernel
  have n_139 := va_Nw.use (A := ([.ref ((AD 8) 0), .int (t), .int (r)] : List Value).toArray) rfl (hN.1 _ (List.mem_of_getElem? (i := 1) rfl))
  have hinX0 : ∀ w ∈ wsX00, w ∈ wsX5_register := by decide +kernel
  refine lv_iload_n hx hb dX5_register_0 rfl (lv_at hl 1 rfl) ?_
  refine fr_S0 (As := [.int (t)]) (rest := []) ⟨hx, hb, hml, hown, hts⟩ (kX5_isTask l D T Z t) (va_cwS 1 hts gX5_register_X5_isTask rfl rfl rfl (by decide +kernel) ⟨Nat.le_of_ble_eq_true rfl, Nat.le_of_ble_eq_true rfl⟩) hK hN hM hP hD hS hA rfl hl.1 rfl (Nat.le_of_ble_eq_true rfl) dX5_register_1 ⟨Nat.zero_le _, Nat.zero_le _⟩ (fun H locs hP hD hS => ?_)
  refine fr_ifeq_b (tgt := 14) hx hb dX5_register_4 (by decide) (fun c_1 => ?_) (fun c_1 => ?_)
  · refine lv_iconst (v := (-1)) hx hb dX5_register_14 (by decide) ?_
    exact fr_iret hx hb hr hlk hP hS (by first | rfl | (simp only [c_1, ↓reduceIte, Bool.false_eq_true, bI_true, bI_false, Bool.true_and, Bool.and_true, Bool.and_false, Bool.false_and, Bool.not_true, Bool.not_false, Bool.or_true, Bool.true_or, Bool.or_false, Bool.false_or] <;> rfl) | (simp [c_1, bI]; done)) rfl dX5_register_15
  · have e_2 := iN_eq c_1
    have e_2b := iN_lt c_1 (by decide)
    refine lv_iload_n hx hb dX5_register_7 rfl (lv_at hl 2 rfl) ?_
    refine fr_S0 (As := [.int (r)]) (rest := []) ⟨hx, hb, hml, hown, hts⟩ (kX5_isRegister l D T Z r) (va_cwS 1 hts gX5_register_X5_isRegister rfl rfl rfl (by decide +kernel) ⟨Nat.le_of_ble_eq_true rfl, Nat.le_of_ble_eq_true rfl⟩) hK hN hM hP hD hS hA rfl hl.1 rfl (Nat.le_of_ble_eq_true rfl) dX5_register_8 ⟨Nat.zero_le _, Nat.zero_le _⟩ (fun H locs hP hD hS => ?_)
    refine fr_ifne_b (tgt := 16) hx hb dX5_register_11 (by decide) (fun c_3 => ?_) (fun c_3 => ?_)
    · have e_4 := iN_eq c_3
      have e_4b := iN_lt c_3 (by decide)
      refine lv_aload_n hx hb dX5_register_16 rfl (lv_at hl 0 rfl) ?_
      refine va_get (D := D) (ci := 5) (v := .ref ((AD 0) 0)) (C := RX5) (T := TX5) (N := 5) hx hb hts hinX5 hown hK (hP.at 19 rfl) 0 rfl rfl 0 (by decide) w_10 (fun _ h9 => h9) rfl dX5_register_17 ?_
      refine va_getN (D := D) (ci := 3) (v := .ref ((AD 0) 9)) (C := RX3) (T := TX3) (N := 10) hx hb hts hinX3 hown hK (hP.at 0 rfl) 0 rfl rfl 2 (by decide) n_161 (fun _ h9 => h9) rfl dX5_register_20 ?_
      refine va_getN (D := D) (ci := 0) (v := .ref ((AD 0) 10)) (C := RX0) (T := TX0) (N := 3) hx hb hts hinX0 hown hK (hP.at 9 rfl) 0 rfl rfl 0 (by decide) n_139 (fun _ h9 => h9) rfl dX5_register_23 ?_
      refine lv_iload_n hx hb dX5_register_26 rfl (lv_at hl 1 rfl) ?_
      refine fr_val e_2 ?_
      refine lv_iload_n hx hb dX5_register_27 rfl (lv_at hl 2 rfl) ?_
      refine fr_val e_4 ?_
      refine fr_S0 (As := [.int (nI (tn t)), .int (nI (tn r))]) (rest := [.ref ((AD 0) 10)]) ⟨hx, hb, hml, hown, hts⟩ (kX5_cellOf l D T Z (tn t) (tn r)) (va_cwS 2 hts gX5_register_X5_cellOf rfl rfl rfl (by decide +kernel) ⟨Nat.le_of_ble_eq_true rfl, Nat.le_of_ble_eq_true rfl⟩) hK hN hM hP hD hS hA rfl hl.1 rfl (Nat.le_of_ble_eq_true rfl) dX5_register_28 ⟨Nat.zero_le _, Nat.zero_le _⟩ (fun H locs hP hD hS => ?_)
      refine fr_iald hx hb hK hP 10 ((((tn t) * 4) + (tn r))) rfl (by omega) (by omega) dX5_register_31 ?_
      exact fr_iret hx hb hr hlk hP hS (by first | rfl | (simp only [c_1, c_3, ↓reduceIte, Bool.false_eq_true, bI_true, bI_false, Bool.true_and, Bool.and_true, Bool.and_false, Bool.false_and, Bool.not_true, Bool.not_false, Bool.or_true, Bool.true_or, Bool.or_false, Bool.false_or] <;> rfl) | (simp [c_1, c_3, bI]; done)) rfl dX5_register_32
    · refine lv_iconst (v := (-1)) hx hb dX5_register_14 (by decide) ?_
      exact fr_iret hx hb hr hlk hP hS (by first | rfl | (simp only [c_1, c_3, ↓reduceIte, Bool.false_eq_true, bI_true, bI_false, Bool.true_and, Bool.and_true, Bool.and_false, Bool.false_and, Bool.not_true, Bool.not_false, Bool.or_true, Bool.true_or, Bool.or_false, Bool.false_or] <;> rfl) | (simp [c_1, c_3, bI]; done)) rfl dX5_register_15

set_option maxHeartbeats 8000000 in
set_option maxRecDepth 100000 in
theorem kX5_registerOrigin (l : Launch) (D : va_G) (T : Nat → ClassId) (Z : ZZ) (AD : Nat → Nat → Nat) (ν : NS) (t : Int32) (r : Int32)  : CtI l D T Z yX5_registerOrigin wsX5_registerOrigin ({ frames := 1, cells := 0, slots := 0, locals := 21 }) (stF T (AD 0) ν ++ [maF AD]) [.ref ((AD 8) 0), .int (t), .int (r)] (if iN t 4 && iN r 4 then ν 7 (tn t * 4 + tn r) else -1) (stF T (AD 0) ν ++ [maF AD]) := by
  refine CtI.of (cc := cX5_registerOrigin) (maxL := 3) (ret := (some .int)) (plainFor_of_name (by decide)) rfl rfl ?_
  intro pP eE s mM bW mE cC A hE hK hN hM hP hD hA
  obtain ⟨hx, hb, hr, hts, hown, hml, hlk⟩ := hE
  have hown : s.vm.findClass RX5 = some mM.cls := hown
  have hP : frP D [[(((AD 0) 0), .inr (3, [.ref ((AD 0) 1), .ref ((AD 0) 5), .ref ((AD 0) 9), .ref ((AD 0) 13), .ref ((AD 0) 14), .ref ((AD 0) 15), .ref ((AD 0) 16), .ref ((AD 0) 17), .int (ν 15 0), .int (ν 15 1)]))], [(((AD 0) 1), .inr (0, [.ref ((AD 0) 2), .ref ((AD 0) 3), .ref ((AD 0) 4)]))], [(((AD 0) 2), .inl (T 0, 32, .inl (ν 0)))], [(((AD 0) 3), .inl (T 0, 32, .inl (ν 1)))], [(((AD 0) 4), .inl (T 0, 32, .inl (ν 2)))], [(((AD 0) 5), .inr (0, [.ref ((AD 0) 6), .ref ((AD 0) 7), .ref ((AD 0) 8)]))], [(((AD 0) 6), .inl (T 0, 32, .inl (ν 3)))], [(((AD 0) 7), .inl (T 0, 32, .inl (ν 4)))], [(((AD 0) 8), .inl (T 0, 32, .inl (ν 5)))], [(((AD 0) 9), .inr (0, [.ref ((AD 0) 10), .ref ((AD 0) 11), .ref ((AD 0) 12)]))], [(((AD 0) 10), .inl (T 0, 16, .inl (ν 6)))], [(((AD 0) 11), .inl (T 0, 16, .inl (ν 7)))], [(((AD 0) 12), .inl (T 0, 16, .inl (ν 8)))], [(((AD 0) 13), .inl (T 1, 8, .inl (bf (ν 9))))], [(((AD 0) 14), .inl (T 0, 4, .inl (ν 10)))], [(((AD 0) 15), .inl (T 1, 4, .inl (bf (ν 11))))], [(((AD 0) 16), .inl (T 0, 20, .inl (ν 12)))], [(((AD 0) 17), .inr (1, [.ref ((AD 0) 18), .int (ν 14 0), .int (ν 14 1)]))], [(((AD 0) 18), .inl (T 0, 32, .inl (ν 13)))], [(((AD 8) 0), .inr (5, [.ref ((AD 0) 0), .ref ((AD 1) 0), .ref ((AD 8) 1), .ref ((AD 9) 0), .ref ((AD 7) 0)]))]] s.heap := hP
  have hD : va_D A ([[(((AD 0) 0), .inr (3, [.ref ((AD 0) 1), .ref ((AD 0) 5), .ref ((AD 0) 9), .ref ((AD 0) 13), .ref ((AD 0) 14), .ref ((AD 0) 15), .ref ((AD 0) 16), .ref ((AD 0) 17), .int (ν 15 0), .int (ν 15 1)]))], [(((AD 0) 1), .inr (0, [.ref ((AD 0) 2), .ref ((AD 0) 3), .ref ((AD 0) 4)]))], [(((AD 0) 2), .inl (T 0, 32, .inl (ν 0)))], [(((AD 0) 3), .inl (T 0, 32, .inl (ν 1)))], [(((AD 0) 4), .inl (T 0, 32, .inl (ν 2)))], [(((AD 0) 5), .inr (0, [.ref ((AD 0) 6), .ref ((AD 0) 7), .ref ((AD 0) 8)]))], [(((AD 0) 6), .inl (T 0, 32, .inl (ν 3)))], [(((AD 0) 7), .inl (T 0, 32, .inl (ν 4)))], [(((AD 0) 8), .inl (T 0, 32, .inl (ν 5)))], [(((AD 0) 9), .inr (0, [.ref ((AD 0) 10), .ref ((AD 0) 11), .ref ((AD 0) 12)]))], [(((AD 0) 10), .inl (T 0, 16, .inl (ν 6)))], [(((AD 0) 11), .inl (T 0, 16, .inl (ν 7)))], [(((AD 0) 12), .inl (T 0, 16, .inl (ν 8)))], [(((AD 0) 13), .inl (T 1, 8, .inl (bf (ν 9))))], [(((AD 0) 14), .inl (T 0, 4, .inl (ν 10)))], [(((AD 0) 15), .inl (T 1, 4, .inl (bf (ν 11))))], [(((AD 0) 16), .inl (T 0, 20, .inl (ν 12)))], [(((AD 0) 17), .inr (1, [.ref ((AD 0) 18), .int (ν 14 0), .int (ν 14 1)]))], [(((AD 0) 18), .inl (T 0, 32, .inl (ν 13)))], [(((AD 8) 0), .inr (5, [.ref ((AD 0) 0), .ref ((AD 1) 0), .ref ((AD 8) 1), .ref ((AD 9) 0), .ref ((AD 7) 0)]))]] : List va_W).flatten := hD
  have hS : va_S A s.heap s.heap [] := va_S.rf
  have hl := lv_entry ([.ref ((AD 8) 0), .int (t), .int (r)]) (n := 3) (Nat.le_of_ble_eq_true rfl)
  rw [lg_entry_eq]
  generalize (lg_sl ([.ref ((AD 8) 0), .int (t), .int (r)]) ++ List.replicate (3 - (lg_sl ([.ref ((AD 8) 0), .int (t), .int (r)])).length) Slot.unset).toArray = ls at hl ⊢
  have hl : lv_has ls 3 [(0, .ref ((AD 8) 0)), (1, .int (t)), (2, .int (r))] := hl
  have w_10 := hts (.fieldLink RX5 10 "PoisonedMemory" "state" "LPoisonedMemory$State;") (by decide +kernel)
  have hinX5 : ∀ w ∈ wsX50, w ∈ wsX5_registerOrigin := by decide +kernel
  have n_161 := va_Nw.use (A := ([.ref ((AD 8) 0), .int (t), .int (r)] : List Value).toArray) rfl (hN.1 _ (List.mem_of_getElem? (i := 5) rfl))
  have hinX3 : ∀ w ∈ wsX30, w ∈ wsX5_registerOrigin := by decide +kernel
  have n_143 := va_Nw.use (A := ([.ref ((AD 8) 0), .int (t), .int (r)] : List Value).toArray) rfl (hN.1 _ (List.mem_of_getElem? (i := 2) rfl))
  have hinX0 : ∀ w ∈ wsX00, w ∈ wsX5_registerOrigin := by decide +kernel
  refine lv_iload_n hx hb dX5_registerOrigin_0 rfl (lv_at hl 1 rfl) ?_
  refine fr_S0 (As := [.int (t)]) (rest := []) ⟨hx, hb, hml, hown, hts⟩ (kX5_isTask l D T Z t) (va_cwS 1 hts gX5_registerOrigin_X5_isTask rfl rfl rfl (by decide +kernel) ⟨Nat.le_of_ble_eq_true rfl, Nat.le_of_ble_eq_true rfl⟩) hK hN hM hP hD hS hA rfl hl.1 rfl (Nat.le_of_ble_eq_true rfl) dX5_registerOrigin_1 ⟨Nat.zero_le _, Nat.zero_le _⟩ (fun H locs hP hD hS => ?_)
  refine fr_ifeq_b (tgt := 14) hx hb dX5_registerOrigin_4 (by decide) (fun c_1 => ?_) (fun c_1 => ?_)
  · refine lv_iconst (v := (-1)) hx hb dX5_registerOrigin_14 (by decide) ?_
    exact fr_iret hx hb hr hlk hP hS (by first | rfl | (simp only [c_1, ↓reduceIte, Bool.false_eq_true, bI_true, bI_false, Bool.true_and, Bool.and_true, Bool.and_false, Bool.false_and, Bool.not_true, Bool.not_false, Bool.or_true, Bool.true_or, Bool.or_false, Bool.false_or] <;> rfl) | (simp [c_1, bI]; done)) rfl dX5_registerOrigin_15
  · have e_2 := iN_eq c_1
    have e_2b := iN_lt c_1 (by decide)
    refine lv_iload_n hx hb dX5_registerOrigin_7 rfl (lv_at hl 2 rfl) ?_
    refine fr_S0 (As := [.int (r)]) (rest := []) ⟨hx, hb, hml, hown, hts⟩ (kX5_isRegister l D T Z r) (va_cwS 1 hts gX5_registerOrigin_X5_isRegister rfl rfl rfl (by decide +kernel) ⟨Nat.le_of_ble_eq_true rfl, Nat.le_of_ble_eq_true rfl⟩) hK hN hM hP hD hS hA rfl hl.1 rfl (Nat.le_of_ble_eq_true rfl) dX5_registerOrigin_8 ⟨Nat.zero_le _, Nat.zero_le _⟩ (fun H locs hP hD hS => ?_)
    refine fr_ifne_b (tgt := 16) hx hb dX5_registerOrigin_11 (by decide) (fun c_3 => ?_) (fun c_3 => ?_)
    · have e_4 := iN_eq c_3
      have e_4b := iN_lt c_3 (by decide)
      refine lv_aload_n hx hb dX5_registerOrigin_16 rfl (lv_at hl 0 rfl) ?_
      refine va_get (D := D) (ci := 5) (v := .ref ((AD 0) 0)) (C := RX5) (T := TX5) (N := 5) hx hb hts hinX5 hown hK (hP.at 19 rfl) 0 rfl rfl 0 (by decide) w_10 (fun _ h9 => h9) rfl dX5_registerOrigin_17 ?_
      refine va_getN (D := D) (ci := 3) (v := .ref ((AD 0) 9)) (C := RX3) (T := TX3) (N := 10) hx hb hts hinX3 hown hK (hP.at 0 rfl) 0 rfl rfl 2 (by decide) n_161 (fun _ h9 => h9) rfl dX5_registerOrigin_20 ?_
      refine va_getN (D := D) (ci := 0) (v := .ref ((AD 0) 11)) (C := RX0) (T := TX0) (N := 3) hx hb hts hinX0 hown hK (hP.at 9 rfl) 0 rfl rfl 1 (by decide) n_143 (fun _ h9 => h9) rfl dX5_registerOrigin_23 ?_
      refine lv_iload_n hx hb dX5_registerOrigin_26 rfl (lv_at hl 1 rfl) ?_
      refine fr_val e_2 ?_
      refine lv_iload_n hx hb dX5_registerOrigin_27 rfl (lv_at hl 2 rfl) ?_
      refine fr_val e_4 ?_
      refine fr_S0 (As := [.int (nI (tn t)), .int (nI (tn r))]) (rest := [.ref ((AD 0) 11)]) ⟨hx, hb, hml, hown, hts⟩ (kX5_cellOf l D T Z (tn t) (tn r)) (va_cwS 2 hts gX5_registerOrigin_X5_cellOf rfl rfl rfl (by decide +kernel) ⟨Nat.le_of_ble_eq_true rfl, Nat.le_of_ble_eq_true rfl⟩) hK hN hM hP hD hS hA rfl hl.1 rfl (Nat.le_of_ble_eq_true rfl) dX5_registerOrigin_28 ⟨Nat.zero_le _, Nat.zero_le _⟩ (fun H locs hP hD hS => ?_)
      refine fr_iald hx hb hK hP 11 ((((tn t) * 4) + (tn r))) rfl (by omega) (by omega) dX5_registerOrigin_31 ?_
      exact fr_iret hx hb hr hlk hP hS (by first | rfl | (simp only [c_1, c_3, ↓reduceIte, Bool.false_eq_true, bI_true, bI_false, Bool.true_and, Bool.and_true, Bool.and_false, Bool.false_and, Bool.not_true, Bool.not_false, Bool.or_true, Bool.true_or, Bool.or_false, Bool.false_or] <;> rfl) | (simp [c_1, c_3, bI]; done)) rfl dX5_registerOrigin_32
    · refine lv_iconst (v := (-1)) hx hb dX5_registerOrigin_14 (by decide) ?_
      exact fr_iret hx hb hr hlk hP hS (by first | rfl | (simp only [c_1, c_3, ↓reduceIte, Bool.false_eq_true, bI_true, bI_false, Bool.true_and, Bool.and_true, Bool.and_false, Bool.false_and, Bool.not_true, Bool.not_false, Bool.or_true, Bool.true_or, Bool.or_false, Bool.false_or] <;> rfl) | (simp [c_1, c_3, bI]; done)) rfl dX5_registerOrigin_15

set_option maxHeartbeats 8000000 in
set_option maxRecDepth 100000 in
theorem kX5_registerHops (l : Launch) (D : va_G) (T : Nat → ClassId) (Z : ZZ) (AD : Nat → Nat → Nat) (ν : NS) (t : Int32) (r : Int32)  : CtI l D T Z yX5_registerHops wsX5_registerHops ({ frames := 1, cells := 0, slots := 0, locals := 21 }) (stF T (AD 0) ν ++ [maF AD]) [.ref ((AD 8) 0), .int (t), .int (r)] (if iN t 4 && iN r 4 then ν 8 (tn t * 4 + tn r) else -1) (stF T (AD 0) ν ++ [maF AD]) := by
  refine CtI.of (cc := cX5_registerHops) (maxL := 3) (ret := (some .int)) (plainFor_of_name (by decide)) rfl rfl ?_
  intro pP eE s mM bW mE cC A hE hK hN hM hP hD hA
  obtain ⟨hx, hb, hr, hts, hown, hml, hlk⟩ := hE
  have hown : s.vm.findClass RX5 = some mM.cls := hown
  have hP : frP D [[(((AD 0) 0), .inr (3, [.ref ((AD 0) 1), .ref ((AD 0) 5), .ref ((AD 0) 9), .ref ((AD 0) 13), .ref ((AD 0) 14), .ref ((AD 0) 15), .ref ((AD 0) 16), .ref ((AD 0) 17), .int (ν 15 0), .int (ν 15 1)]))], [(((AD 0) 1), .inr (0, [.ref ((AD 0) 2), .ref ((AD 0) 3), .ref ((AD 0) 4)]))], [(((AD 0) 2), .inl (T 0, 32, .inl (ν 0)))], [(((AD 0) 3), .inl (T 0, 32, .inl (ν 1)))], [(((AD 0) 4), .inl (T 0, 32, .inl (ν 2)))], [(((AD 0) 5), .inr (0, [.ref ((AD 0) 6), .ref ((AD 0) 7), .ref ((AD 0) 8)]))], [(((AD 0) 6), .inl (T 0, 32, .inl (ν 3)))], [(((AD 0) 7), .inl (T 0, 32, .inl (ν 4)))], [(((AD 0) 8), .inl (T 0, 32, .inl (ν 5)))], [(((AD 0) 9), .inr (0, [.ref ((AD 0) 10), .ref ((AD 0) 11), .ref ((AD 0) 12)]))], [(((AD 0) 10), .inl (T 0, 16, .inl (ν 6)))], [(((AD 0) 11), .inl (T 0, 16, .inl (ν 7)))], [(((AD 0) 12), .inl (T 0, 16, .inl (ν 8)))], [(((AD 0) 13), .inl (T 1, 8, .inl (bf (ν 9))))], [(((AD 0) 14), .inl (T 0, 4, .inl (ν 10)))], [(((AD 0) 15), .inl (T 1, 4, .inl (bf (ν 11))))], [(((AD 0) 16), .inl (T 0, 20, .inl (ν 12)))], [(((AD 0) 17), .inr (1, [.ref ((AD 0) 18), .int (ν 14 0), .int (ν 14 1)]))], [(((AD 0) 18), .inl (T 0, 32, .inl (ν 13)))], [(((AD 8) 0), .inr (5, [.ref ((AD 0) 0), .ref ((AD 1) 0), .ref ((AD 8) 1), .ref ((AD 9) 0), .ref ((AD 7) 0)]))]] s.heap := hP
  have hD : va_D A ([[(((AD 0) 0), .inr (3, [.ref ((AD 0) 1), .ref ((AD 0) 5), .ref ((AD 0) 9), .ref ((AD 0) 13), .ref ((AD 0) 14), .ref ((AD 0) 15), .ref ((AD 0) 16), .ref ((AD 0) 17), .int (ν 15 0), .int (ν 15 1)]))], [(((AD 0) 1), .inr (0, [.ref ((AD 0) 2), .ref ((AD 0) 3), .ref ((AD 0) 4)]))], [(((AD 0) 2), .inl (T 0, 32, .inl (ν 0)))], [(((AD 0) 3), .inl (T 0, 32, .inl (ν 1)))], [(((AD 0) 4), .inl (T 0, 32, .inl (ν 2)))], [(((AD 0) 5), .inr (0, [.ref ((AD 0) 6), .ref ((AD 0) 7), .ref ((AD 0) 8)]))], [(((AD 0) 6), .inl (T 0, 32, .inl (ν 3)))], [(((AD 0) 7), .inl (T 0, 32, .inl (ν 4)))], [(((AD 0) 8), .inl (T 0, 32, .inl (ν 5)))], [(((AD 0) 9), .inr (0, [.ref ((AD 0) 10), .ref ((AD 0) 11), .ref ((AD 0) 12)]))], [(((AD 0) 10), .inl (T 0, 16, .inl (ν 6)))], [(((AD 0) 11), .inl (T 0, 16, .inl (ν 7)))], [(((AD 0) 12), .inl (T 0, 16, .inl (ν 8)))], [(((AD 0) 13), .inl (T 1, 8, .inl (bf (ν 9))))], [(((AD 0) 14), .inl (T 0, 4, .inl (ν 10)))], [(((AD 0) 15), .inl (T 1, 4, .inl (bf (ν 11))))], [(((AD 0) 16), .inl (T 0, 20, .inl (ν 12)))], [(((AD 0) 17), .inr (1, [.ref ((AD 0) 18), .int (ν 14 0), .int (ν 14 1)]))], [(((AD 0) 18), .inl (T 0, 32, .inl (ν 13)))], [(((AD 8) 0), .inr (5, [.ref ((AD 0) 0), .ref ((AD 1) 0), .ref ((AD 8) 1), .ref ((AD 9) 0), .ref ((AD 7) 0)]))]] : List va_W).flatten := hD
  have hS : va_S A s.heap s.heap [] := va_S.rf
  have hl := lv_entry ([.ref ((AD 8) 0), .int (t), .int (r)]) (n := 3) (Nat.le_of_ble_eq_true rfl)
  rw [lg_entry_eq]
  generalize (lg_sl ([.ref ((AD 8) 0), .int (t), .int (r)]) ++ List.replicate (3 - (lg_sl ([.ref ((AD 8) 0), .int (t), .int (r)])).length) Slot.unset).toArray = ls at hl ⊢
  have hl : lv_has ls 3 [(0, .ref ((AD 8) 0)), (1, .int (t)), (2, .int (r))] := hl
  have w_10 := hts (.fieldLink RX5 10 "PoisonedMemory" "state" "LPoisonedMemory$State;") (by decide +kernel)
  have hinX5 : ∀ w ∈ wsX50, w ∈ wsX5_registerHops := by decide +kernel
  have n_161 := va_Nw.use (A := ([.ref ((AD 8) 0), .int (t), .int (r)] : List Value).toArray) rfl (hN.1 _ (List.mem_of_getElem? (i := 5) rfl))
  have hinX3 : ∀ w ∈ wsX30, w ∈ wsX5_registerHops := by decide +kernel
  have n_146 := va_Nw.use (A := ([.ref ((AD 8) 0), .int (t), .int (r)] : List Value).toArray) rfl (hN.1 _ (List.mem_of_getElem? (i := 3) rfl))
  have hinX0 : ∀ w ∈ wsX00, w ∈ wsX5_registerHops := by decide +kernel
  refine lv_iload_n hx hb dX5_registerHops_0 rfl (lv_at hl 1 rfl) ?_
  refine fr_S0 (As := [.int (t)]) (rest := []) ⟨hx, hb, hml, hown, hts⟩ (kX5_isTask l D T Z t) (va_cwS 1 hts gX5_registerHops_X5_isTask rfl rfl rfl (by decide +kernel) ⟨Nat.le_of_ble_eq_true rfl, Nat.le_of_ble_eq_true rfl⟩) hK hN hM hP hD hS hA rfl hl.1 rfl (Nat.le_of_ble_eq_true rfl) dX5_registerHops_1 ⟨Nat.zero_le _, Nat.zero_le _⟩ (fun H locs hP hD hS => ?_)
  refine fr_ifeq_b (tgt := 14) hx hb dX5_registerHops_4 (by decide) (fun c_1 => ?_) (fun c_1 => ?_)
  · refine lv_iconst (v := (-1)) hx hb dX5_registerHops_14 (by decide) ?_
    exact fr_iret hx hb hr hlk hP hS (by first | rfl | (simp only [c_1, ↓reduceIte, Bool.false_eq_true, bI_true, bI_false, Bool.true_and, Bool.and_true, Bool.and_false, Bool.false_and, Bool.not_true, Bool.not_false, Bool.or_true, Bool.true_or, Bool.or_false, Bool.false_or] <;> rfl) | (simp [c_1, bI]; done)) rfl dX5_registerHops_15
  · have e_2 := iN_eq c_1
    have e_2b := iN_lt c_1 (by decide)
    refine lv_iload_n hx hb dX5_registerHops_7 rfl (lv_at hl 2 rfl) ?_
    refine fr_S0 (As := [.int (r)]) (rest := []) ⟨hx, hb, hml, hown, hts⟩ (kX5_isRegister l D T Z r) (va_cwS 1 hts gX5_registerHops_X5_isRegister rfl rfl rfl (by decide +kernel) ⟨Nat.le_of_ble_eq_true rfl, Nat.le_of_ble_eq_true rfl⟩) hK hN hM hP hD hS hA rfl hl.1 rfl (Nat.le_of_ble_eq_true rfl) dX5_registerHops_8 ⟨Nat.zero_le _, Nat.zero_le _⟩ (fun H locs hP hD hS => ?_)
    refine fr_ifne_b (tgt := 16) hx hb dX5_registerHops_11 (by decide) (fun c_3 => ?_) (fun c_3 => ?_)
    · have e_4 := iN_eq c_3
      have e_4b := iN_lt c_3 (by decide)
      refine lv_aload_n hx hb dX5_registerHops_16 rfl (lv_at hl 0 rfl) ?_
      refine va_get (D := D) (ci := 5) (v := .ref ((AD 0) 0)) (C := RX5) (T := TX5) (N := 5) hx hb hts hinX5 hown hK (hP.at 19 rfl) 0 rfl rfl 0 (by decide) w_10 (fun _ h9 => h9) rfl dX5_registerHops_17 ?_
      refine va_getN (D := D) (ci := 3) (v := .ref ((AD 0) 9)) (C := RX3) (T := TX3) (N := 10) hx hb hts hinX3 hown hK (hP.at 0 rfl) 0 rfl rfl 2 (by decide) n_161 (fun _ h9 => h9) rfl dX5_registerHops_20 ?_
      refine va_getN (D := D) (ci := 0) (v := .ref ((AD 0) 12)) (C := RX0) (T := TX0) (N := 3) hx hb hts hinX0 hown hK (hP.at 9 rfl) 0 rfl rfl 2 (by decide) n_146 (fun _ h9 => h9) rfl dX5_registerHops_23 ?_
      refine lv_iload_n hx hb dX5_registerHops_26 rfl (lv_at hl 1 rfl) ?_
      refine fr_val e_2 ?_
      refine lv_iload_n hx hb dX5_registerHops_27 rfl (lv_at hl 2 rfl) ?_
      refine fr_val e_4 ?_
      refine fr_S0 (As := [.int (nI (tn t)), .int (nI (tn r))]) (rest := [.ref ((AD 0) 12)]) ⟨hx, hb, hml, hown, hts⟩ (kX5_cellOf l D T Z (tn t) (tn r)) (va_cwS 2 hts gX5_registerHops_X5_cellOf rfl rfl rfl (by decide +kernel) ⟨Nat.le_of_ble_eq_true rfl, Nat.le_of_ble_eq_true rfl⟩) hK hN hM hP hD hS hA rfl hl.1 rfl (Nat.le_of_ble_eq_true rfl) dX5_registerHops_28 ⟨Nat.zero_le _, Nat.zero_le _⟩ (fun H locs hP hD hS => ?_)
      refine fr_iald hx hb hK hP 12 ((((tn t) * 4) + (tn r))) rfl (by omega) (by omega) dX5_registerHops_31 ?_
      exact fr_iret hx hb hr hlk hP hS (by first | rfl | (simp only [c_1, c_3, ↓reduceIte, Bool.false_eq_true, bI_true, bI_false, Bool.true_and, Bool.and_true, Bool.and_false, Bool.false_and, Bool.not_true, Bool.not_false, Bool.or_true, Bool.true_or, Bool.or_false, Bool.false_or] <;> rfl) | (simp [c_1, c_3, bI]; done)) rfl dX5_registerHops_32
    · refine lv_iconst (v := (-1)) hx hb dX5_registerHops_14 (by decide) ?_
      exact fr_iret hx hb hr hlk hP hS (by first | rfl | (simp only [c_1, c_3, ↓reduceIte, Bool.false_eq_true, bI_true, bI_false, Bool.true_and, Bool.and_true, Bool.and_false, Bool.false_and, Bool.not_true, Bool.not_false, Bool.or_true, Bool.true_or, Bool.or_false, Bool.false_or] <;> rfl) | (simp [c_1, c_3, bI]; done)) rfl dX5_registerHops_15

set_option maxHeartbeats 8000000 in
set_option maxRecDepth 100000 in
theorem kX5_mode (l : Launch) (D : va_G) (T : Nat → ClassId) (Z : ZZ) (AD : Nat → Nat → Nat) (ν : NS) (t : Int32)  : CtI l D T Z yX5_mode wsX5_mode ({ frames := 1, cells := 0, slots := 0, locals := 20 }) (stF T (AD 0) ν ++ [maF AD]) [.ref ((AD 8) 0), .int (t)] (if iN t 4 then ν 10 (tn t) else -1) (stF T (AD 0) ν ++ [maF AD]) := by
  refine CtI.of (cc := cX5_mode) (maxL := 2) (ret := (some .int)) (plainFor_of_name (by decide)) rfl rfl ?_
  intro pP eE s mM bW mE cC A hE hK hN hM hP hD hA
  obtain ⟨hx, hb, hr, hts, hown, hml, hlk⟩ := hE
  have hown : s.vm.findClass RX5 = some mM.cls := hown
  have hP : frP D [[(((AD 0) 0), .inr (3, [.ref ((AD 0) 1), .ref ((AD 0) 5), .ref ((AD 0) 9), .ref ((AD 0) 13), .ref ((AD 0) 14), .ref ((AD 0) 15), .ref ((AD 0) 16), .ref ((AD 0) 17), .int (ν 15 0), .int (ν 15 1)]))], [(((AD 0) 1), .inr (0, [.ref ((AD 0) 2), .ref ((AD 0) 3), .ref ((AD 0) 4)]))], [(((AD 0) 2), .inl (T 0, 32, .inl (ν 0)))], [(((AD 0) 3), .inl (T 0, 32, .inl (ν 1)))], [(((AD 0) 4), .inl (T 0, 32, .inl (ν 2)))], [(((AD 0) 5), .inr (0, [.ref ((AD 0) 6), .ref ((AD 0) 7), .ref ((AD 0) 8)]))], [(((AD 0) 6), .inl (T 0, 32, .inl (ν 3)))], [(((AD 0) 7), .inl (T 0, 32, .inl (ν 4)))], [(((AD 0) 8), .inl (T 0, 32, .inl (ν 5)))], [(((AD 0) 9), .inr (0, [.ref ((AD 0) 10), .ref ((AD 0) 11), .ref ((AD 0) 12)]))], [(((AD 0) 10), .inl (T 0, 16, .inl (ν 6)))], [(((AD 0) 11), .inl (T 0, 16, .inl (ν 7)))], [(((AD 0) 12), .inl (T 0, 16, .inl (ν 8)))], [(((AD 0) 13), .inl (T 1, 8, .inl (bf (ν 9))))], [(((AD 0) 14), .inl (T 0, 4, .inl (ν 10)))], [(((AD 0) 15), .inl (T 1, 4, .inl (bf (ν 11))))], [(((AD 0) 16), .inl (T 0, 20, .inl (ν 12)))], [(((AD 0) 17), .inr (1, [.ref ((AD 0) 18), .int (ν 14 0), .int (ν 14 1)]))], [(((AD 0) 18), .inl (T 0, 32, .inl (ν 13)))], [(((AD 8) 0), .inr (5, [.ref ((AD 0) 0), .ref ((AD 1) 0), .ref ((AD 8) 1), .ref ((AD 9) 0), .ref ((AD 7) 0)]))]] s.heap := hP
  have hD : va_D A ([[(((AD 0) 0), .inr (3, [.ref ((AD 0) 1), .ref ((AD 0) 5), .ref ((AD 0) 9), .ref ((AD 0) 13), .ref ((AD 0) 14), .ref ((AD 0) 15), .ref ((AD 0) 16), .ref ((AD 0) 17), .int (ν 15 0), .int (ν 15 1)]))], [(((AD 0) 1), .inr (0, [.ref ((AD 0) 2), .ref ((AD 0) 3), .ref ((AD 0) 4)]))], [(((AD 0) 2), .inl (T 0, 32, .inl (ν 0)))], [(((AD 0) 3), .inl (T 0, 32, .inl (ν 1)))], [(((AD 0) 4), .inl (T 0, 32, .inl (ν 2)))], [(((AD 0) 5), .inr (0, [.ref ((AD 0) 6), .ref ((AD 0) 7), .ref ((AD 0) 8)]))], [(((AD 0) 6), .inl (T 0, 32, .inl (ν 3)))], [(((AD 0) 7), .inl (T 0, 32, .inl (ν 4)))], [(((AD 0) 8), .inl (T 0, 32, .inl (ν 5)))], [(((AD 0) 9), .inr (0, [.ref ((AD 0) 10), .ref ((AD 0) 11), .ref ((AD 0) 12)]))], [(((AD 0) 10), .inl (T 0, 16, .inl (ν 6)))], [(((AD 0) 11), .inl (T 0, 16, .inl (ν 7)))], [(((AD 0) 12), .inl (T 0, 16, .inl (ν 8)))], [(((AD 0) 13), .inl (T 1, 8, .inl (bf (ν 9))))], [(((AD 0) 14), .inl (T 0, 4, .inl (ν 10)))], [(((AD 0) 15), .inl (T 1, 4, .inl (bf (ν 11))))], [(((AD 0) 16), .inl (T 0, 20, .inl (ν 12)))], [(((AD 0) 17), .inr (1, [.ref ((AD 0) 18), .int (ν 14 0), .int (ν 14 1)]))], [(((AD 0) 18), .inl (T 0, 32, .inl (ν 13)))], [(((AD 8) 0), .inr (5, [.ref ((AD 0) 0), .ref ((AD 1) 0), .ref ((AD 8) 1), .ref ((AD 9) 0), .ref ((AD 7) 0)]))]] : List va_W).flatten := hD
  have hS : va_S A s.heap s.heap [] := va_S.rf
  have hl := lv_entry ([.ref ((AD 8) 0), .int (t)]) (n := 2) (Nat.le_of_ble_eq_true rfl)
  rw [lg_entry_eq]
  generalize (lg_sl ([.ref ((AD 8) 0), .int (t)]) ++ List.replicate (2 - (lg_sl ([.ref ((AD 8) 0), .int (t)])).length) Slot.unset).toArray = ls at hl ⊢
  have hl : lv_has ls 2 [(0, .ref ((AD 8) 0)), (1, .int (t))] := hl
  have w_10 := hts (.fieldLink RX5 10 "PoisonedMemory" "state" "LPoisonedMemory$State;") (by decide +kernel)
  have hinX5 : ∀ w ∈ wsX50, w ∈ wsX5_mode := by decide +kernel
  have n_167 := va_Nw.use (A := ([.ref ((AD 8) 0), .int (t)] : List Value).toArray) rfl (hN.1 _ (List.mem_of_getElem? (i := 6) rfl))
  have hinX3 : ∀ w ∈ wsX30, w ∈ wsX5_mode := by decide +kernel
  refine lv_iload_n hx hb dX5_mode_0 rfl (lv_at hl 1 rfl) ?_
  refine fr_S0 (As := [.int (t)]) (rest := []) ⟨hx, hb, hml, hown, hts⟩ (kX5_isTask l D T Z t) (va_cwS 1 hts gX5_mode_X5_isTask rfl rfl rfl (by decide +kernel) ⟨Nat.le_of_ble_eq_true rfl, Nat.le_of_ble_eq_true rfl⟩) hK hN hM hP hD hS hA rfl hl.1 rfl (Nat.le_of_ble_eq_true rfl) dX5_mode_1 ⟨Nat.zero_le _, Nat.zero_le _⟩ (fun H locs hP hD hS => ?_)
  refine fr_ifeq_b (tgt := 19) hx hb dX5_mode_4 (by decide) (fun c_1 => ?_) (fun c_1 => ?_)
  · refine lv_iconst (v := (-1)) hx hb dX5_mode_19 (by decide) ?_
    exact fr_iret hx hb hr hlk hP hS (by first | rfl | (simp only [c_1, ↓reduceIte, Bool.false_eq_true, bI_true, bI_false, Bool.true_and, Bool.and_true, Bool.and_false, Bool.false_and, Bool.not_true, Bool.not_false, Bool.or_true, Bool.true_or, Bool.or_false, Bool.false_or] <;> rfl) | (simp [c_1, bI]; done)) rfl dX5_mode_20
  · have e_2 := iN_eq c_1
    have e_2b := iN_lt c_1 (by decide)
    refine lv_aload_n hx hb dX5_mode_7 rfl (lv_at hl 0 rfl) ?_
    refine va_get (D := D) (ci := 5) (v := .ref ((AD 0) 0)) (C := RX5) (T := TX5) (N := 5) hx hb hts hinX5 hown hK (hP.at 19 rfl) 0 rfl rfl 0 (by decide) w_10 (fun _ h9 => h9) rfl dX5_mode_8 ?_
    refine va_getN (D := D) (ci := 3) (v := .ref ((AD 0) 14)) (C := RX3) (T := TX3) (N := 10) hx hb hts hinX3 hown hK (hP.at 0 rfl) 0 rfl rfl 4 (by decide) n_167 (fun _ h9 => h9) rfl dX5_mode_11 ?_
    refine lv_iload_n hx hb dX5_mode_14 rfl (lv_at hl 1 rfl) ?_
    refine fr_val e_2 ?_
    refine fr_iald hx hb hK hP 14 (tn t) rfl (by omega) (by omega) dX5_mode_15 ?_
    refine lv_goto (tgt := 20) hx hb dX5_mode_16 (by decide) ?_
    exact fr_iret hx hb hr hlk hP hS (by first | rfl | (simp only [c_1, ↓reduceIte, Bool.false_eq_true, bI_true, bI_false, Bool.true_and, Bool.and_true, Bool.and_false, Bool.false_and, Bool.not_true, Bool.not_false, Bool.or_true, Bool.true_or, Bool.or_false, Bool.false_or] <;> rfl) | (simp [c_1, bI]; done)) rfl dX5_mode_20

set_option maxHeartbeats 8000000 in
set_option maxRecDepth 100000 in
theorem kX5_stopped (l : Launch) (D : va_G) (T : Nat → ClassId) (Z : ZZ) (AD : Nat → Nat → Nat) (ν : NS) (t : Int32)  : CtI l D T Z yX5_stopped wsX5_stopped ({ frames := 1, cells := 0, slots := 0, locals := 20 }) (stF T (AD 0) ν ++ [maF AD]) [.ref ((AD 8) 0), .int (t)] (if iN t 4 then bI (bz (ν 11 (tn t))) else -1) (stF T (AD 0) ν ++ [maF AD]) := by
  refine CtI.of (cc := cX5_stopped) (maxL := 2) (ret := (some .int)) (plainFor_of_name (by decide)) rfl rfl ?_
  intro pP eE s mM bW mE cC A hE hK hN hM hP hD hA
  obtain ⟨hx, hb, hr, hts, hown, hml, hlk⟩ := hE
  have hown : s.vm.findClass RX5 = some mM.cls := hown
  have hP : frP D [[(((AD 0) 0), .inr (3, [.ref ((AD 0) 1), .ref ((AD 0) 5), .ref ((AD 0) 9), .ref ((AD 0) 13), .ref ((AD 0) 14), .ref ((AD 0) 15), .ref ((AD 0) 16), .ref ((AD 0) 17), .int (ν 15 0), .int (ν 15 1)]))], [(((AD 0) 1), .inr (0, [.ref ((AD 0) 2), .ref ((AD 0) 3), .ref ((AD 0) 4)]))], [(((AD 0) 2), .inl (T 0, 32, .inl (ν 0)))], [(((AD 0) 3), .inl (T 0, 32, .inl (ν 1)))], [(((AD 0) 4), .inl (T 0, 32, .inl (ν 2)))], [(((AD 0) 5), .inr (0, [.ref ((AD 0) 6), .ref ((AD 0) 7), .ref ((AD 0) 8)]))], [(((AD 0) 6), .inl (T 0, 32, .inl (ν 3)))], [(((AD 0) 7), .inl (T 0, 32, .inl (ν 4)))], [(((AD 0) 8), .inl (T 0, 32, .inl (ν 5)))], [(((AD 0) 9), .inr (0, [.ref ((AD 0) 10), .ref ((AD 0) 11), .ref ((AD 0) 12)]))], [(((AD 0) 10), .inl (T 0, 16, .inl (ν 6)))], [(((AD 0) 11), .inl (T 0, 16, .inl (ν 7)))], [(((AD 0) 12), .inl (T 0, 16, .inl (ν 8)))], [(((AD 0) 13), .inl (T 1, 8, .inl (bf (ν 9))))], [(((AD 0) 14), .inl (T 0, 4, .inl (ν 10)))], [(((AD 0) 15), .inl (T 1, 4, .inl (bf (ν 11))))], [(((AD 0) 16), .inl (T 0, 20, .inl (ν 12)))], [(((AD 0) 17), .inr (1, [.ref ((AD 0) 18), .int (ν 14 0), .int (ν 14 1)]))], [(((AD 0) 18), .inl (T 0, 32, .inl (ν 13)))], [(((AD 8) 0), .inr (5, [.ref ((AD 0) 0), .ref ((AD 1) 0), .ref ((AD 8) 1), .ref ((AD 9) 0), .ref ((AD 7) 0)]))]] s.heap := hP
  have hD : va_D A ([[(((AD 0) 0), .inr (3, [.ref ((AD 0) 1), .ref ((AD 0) 5), .ref ((AD 0) 9), .ref ((AD 0) 13), .ref ((AD 0) 14), .ref ((AD 0) 15), .ref ((AD 0) 16), .ref ((AD 0) 17), .int (ν 15 0), .int (ν 15 1)]))], [(((AD 0) 1), .inr (0, [.ref ((AD 0) 2), .ref ((AD 0) 3), .ref ((AD 0) 4)]))], [(((AD 0) 2), .inl (T 0, 32, .inl (ν 0)))], [(((AD 0) 3), .inl (T 0, 32, .inl (ν 1)))], [(((AD 0) 4), .inl (T 0, 32, .inl (ν 2)))], [(((AD 0) 5), .inr (0, [.ref ((AD 0) 6), .ref ((AD 0) 7), .ref ((AD 0) 8)]))], [(((AD 0) 6), .inl (T 0, 32, .inl (ν 3)))], [(((AD 0) 7), .inl (T 0, 32, .inl (ν 4)))], [(((AD 0) 8), .inl (T 0, 32, .inl (ν 5)))], [(((AD 0) 9), .inr (0, [.ref ((AD 0) 10), .ref ((AD 0) 11), .ref ((AD 0) 12)]))], [(((AD 0) 10), .inl (T 0, 16, .inl (ν 6)))], [(((AD 0) 11), .inl (T 0, 16, .inl (ν 7)))], [(((AD 0) 12), .inl (T 0, 16, .inl (ν 8)))], [(((AD 0) 13), .inl (T 1, 8, .inl (bf (ν 9))))], [(((AD 0) 14), .inl (T 0, 4, .inl (ν 10)))], [(((AD 0) 15), .inl (T 1, 4, .inl (bf (ν 11))))], [(((AD 0) 16), .inl (T 0, 20, .inl (ν 12)))], [(((AD 0) 17), .inr (1, [.ref ((AD 0) 18), .int (ν 14 0), .int (ν 14 1)]))], [(((AD 0) 18), .inl (T 0, 32, .inl (ν 13)))], [(((AD 8) 0), .inr (5, [.ref ((AD 0) 0), .ref ((AD 1) 0), .ref ((AD 8) 1), .ref ((AD 9) 0), .ref ((AD 7) 0)]))]] : List va_W).flatten := hD
  have hS : va_S A s.heap s.heap [] := va_S.rf
  have hl := lv_entry ([.ref ((AD 8) 0), .int (t)]) (n := 2) (Nat.le_of_ble_eq_true rfl)
  rw [lg_entry_eq]
  generalize (lg_sl ([.ref ((AD 8) 0), .int (t)]) ++ List.replicate (2 - (lg_sl ([.ref ((AD 8) 0), .int (t)])).length) Slot.unset).toArray = ls at hl ⊢
  have hl : lv_has ls 2 [(0, .ref ((AD 8) 0)), (1, .int (t))] := hl
  have w_10 := hts (.fieldLink RX5 10 "PoisonedMemory" "state" "LPoisonedMemory$State;") (by decide +kernel)
  have hinX5 : ∀ w ∈ wsX50, w ∈ wsX5_stopped := by decide +kernel
  have n_170 := va_Nw.use (A := ([.ref ((AD 8) 0), .int (t)] : List Value).toArray) rfl (hN.1 _ (List.mem_of_getElem? (i := 7) rfl))
  have hinX3 : ∀ w ∈ wsX30, w ∈ wsX5_stopped := by decide +kernel
  refine lv_iload_n hx hb dX5_stopped_0 rfl (lv_at hl 1 rfl) ?_
  refine fr_S0 (As := [.int (t)]) (rest := []) ⟨hx, hb, hml, hown, hts⟩ (kX5_isTask l D T Z t) (va_cwS 1 hts gX5_stopped_X5_isTask rfl rfl rfl (by decide +kernel) ⟨Nat.le_of_ble_eq_true rfl, Nat.le_of_ble_eq_true rfl⟩) hK hN hM hP hD hS hA rfl hl.1 rfl (Nat.le_of_ble_eq_true rfl) dX5_stopped_1 ⟨Nat.zero_le _, Nat.zero_le _⟩ (fun H locs hP hD hS => ?_)
  refine fr_ifne_b (tgt := 9) hx hb dX5_stopped_4 (by decide) (fun c_1 => ?_) (fun c_1 => ?_)
  · have e_2 := iN_eq c_1
    have e_2b := iN_lt c_1 (by decide)
    refine lv_aload_n hx hb dX5_stopped_9 rfl (lv_at hl 0 rfl) ?_
    refine va_get (D := D) (ci := 5) (v := .ref ((AD 0) 0)) (C := RX5) (T := TX5) (N := 5) hx hb hts hinX5 hown hK (hP.at 19 rfl) 0 rfl rfl 0 (by decide) w_10 (fun _ h9 => h9) rfl dX5_stopped_10 ?_
    refine va_getN (D := D) (ci := 3) (v := .ref ((AD 0) 15)) (C := RX3) (T := TX3) (N := 10) hx hb hts hinX3 hown hK (hP.at 0 rfl) 0 rfl rfl 5 (by decide) n_170 (fun _ h9 => h9) rfl dX5_stopped_13 ?_
    refine lv_iload_n hx hb dX5_stopped_16 rfl (lv_at hl 1 rfl) ?_
    refine fr_val e_2 ?_
    refine fr_zald hx hb hK hP 15 (tn t) rfl (by omega) (by omega) dX5_stopped_17 ?_
    refine fr_val (show (bf (ν 11)) (tn t) = bI (bz (ν 11 (tn t))) from rfl) ?_
    refine fr_ifeq_b (tgt := 25) hx hb dX5_stopped_18 (by decide) (fun c_3 => ?_) (fun c_3 => ?_)
    · refine lv_iconst (v := nI 0) hx hb dX5_stopped_25 (by decide) ?_
      exact fr_iret hx hb hr hlk hP hS (by first | rfl | (simp only [c_1, c_3, ↓reduceIte, Bool.false_eq_true, bI_true, bI_false, Bool.true_and, Bool.and_true, Bool.and_false, Bool.false_and, Bool.not_true, Bool.not_false, Bool.or_true, Bool.true_or, Bool.or_false, Bool.false_or] <;> rfl) | (simp [c_1, c_3, bI]; done)) rfl dX5_stopped_26
    · refine lv_iconst (v := nI 1) hx hb dX5_stopped_21 (by decide) ?_
      refine lv_goto (tgt := 26) hx hb dX5_stopped_22 (by decide) ?_
      exact fr_iret hx hb hr hlk hP hS (by first | rfl | (simp only [c_1, c_3, ↓reduceIte, Bool.false_eq_true, bI_true, bI_false, Bool.true_and, Bool.and_true, Bool.and_false, Bool.false_and, Bool.not_true, Bool.not_false, Bool.or_true, Bool.true_or, Bool.or_false, Bool.false_or] <;> rfl) | (simp [c_1, c_3, bI]; done)) rfl dX5_stopped_26
  · refine lv_iconst (v := (-1)) hx hb dX5_stopped_7 (by decide) ?_
    exact fr_iret hx hb hr hlk hP hS (by first | rfl | (simp only [c_1, ↓reduceIte, Bool.false_eq_true, bI_true, bI_false, Bool.true_and, Bool.and_true, Bool.and_false, Bool.false_and, Bool.not_true, Bool.not_false, Bool.or_true, Bool.true_or, Bool.or_false, Bool.false_or] <;> rfl) | (simp [c_1, bI]; done)) rfl dX5_stopped_8

set_option maxHeartbeats 8000000 in
set_option maxRecDepth 100000 in
theorem kX5_injections (l : Launch) (D : va_G) (T : Nat → ClassId) (Z : ZZ) (AD : Nat → Nat → Nat) (ν : NS)  : CtI l D T Z yX5_injections wsX5_injections ({ frames := 0, cells := 0, slots := 0, locals := 0 }) (stF T (AD 0) ν ++ [maF AD]) [.ref ((AD 8) 0)] (ν 15 0) (stF T (AD 0) ν ++ [maF AD]) := by
  refine CtI.of (cc := cX5_injections) (maxL := 1) (ret := (some .int)) (plainFor_of_name (by decide)) rfl rfl ?_
  intro pP eE s mM bW mE cC A hE hK hN hM hP hD hA
  obtain ⟨hx, hb, hr, hts, hown, hml, hlk⟩ := hE
  have hown : s.vm.findClass RX5 = some mM.cls := hown
  have hP : frP D [[(((AD 0) 0), .inr (3, [.ref ((AD 0) 1), .ref ((AD 0) 5), .ref ((AD 0) 9), .ref ((AD 0) 13), .ref ((AD 0) 14), .ref ((AD 0) 15), .ref ((AD 0) 16), .ref ((AD 0) 17), .int (ν 15 0), .int (ν 15 1)]))], [(((AD 0) 1), .inr (0, [.ref ((AD 0) 2), .ref ((AD 0) 3), .ref ((AD 0) 4)]))], [(((AD 0) 2), .inl (T 0, 32, .inl (ν 0)))], [(((AD 0) 3), .inl (T 0, 32, .inl (ν 1)))], [(((AD 0) 4), .inl (T 0, 32, .inl (ν 2)))], [(((AD 0) 5), .inr (0, [.ref ((AD 0) 6), .ref ((AD 0) 7), .ref ((AD 0) 8)]))], [(((AD 0) 6), .inl (T 0, 32, .inl (ν 3)))], [(((AD 0) 7), .inl (T 0, 32, .inl (ν 4)))], [(((AD 0) 8), .inl (T 0, 32, .inl (ν 5)))], [(((AD 0) 9), .inr (0, [.ref ((AD 0) 10), .ref ((AD 0) 11), .ref ((AD 0) 12)]))], [(((AD 0) 10), .inl (T 0, 16, .inl (ν 6)))], [(((AD 0) 11), .inl (T 0, 16, .inl (ν 7)))], [(((AD 0) 12), .inl (T 0, 16, .inl (ν 8)))], [(((AD 0) 13), .inl (T 1, 8, .inl (bf (ν 9))))], [(((AD 0) 14), .inl (T 0, 4, .inl (ν 10)))], [(((AD 0) 15), .inl (T 1, 4, .inl (bf (ν 11))))], [(((AD 0) 16), .inl (T 0, 20, .inl (ν 12)))], [(((AD 0) 17), .inr (1, [.ref ((AD 0) 18), .int (ν 14 0), .int (ν 14 1)]))], [(((AD 0) 18), .inl (T 0, 32, .inl (ν 13)))], [(((AD 8) 0), .inr (5, [.ref ((AD 0) 0), .ref ((AD 1) 0), .ref ((AD 8) 1), .ref ((AD 9) 0), .ref ((AD 7) 0)]))]] s.heap := hP
  have hD : va_D A ([[(((AD 0) 0), .inr (3, [.ref ((AD 0) 1), .ref ((AD 0) 5), .ref ((AD 0) 9), .ref ((AD 0) 13), .ref ((AD 0) 14), .ref ((AD 0) 15), .ref ((AD 0) 16), .ref ((AD 0) 17), .int (ν 15 0), .int (ν 15 1)]))], [(((AD 0) 1), .inr (0, [.ref ((AD 0) 2), .ref ((AD 0) 3), .ref ((AD 0) 4)]))], [(((AD 0) 2), .inl (T 0, 32, .inl (ν 0)))], [(((AD 0) 3), .inl (T 0, 32, .inl (ν 1)))], [(((AD 0) 4), .inl (T 0, 32, .inl (ν 2)))], [(((AD 0) 5), .inr (0, [.ref ((AD 0) 6), .ref ((AD 0) 7), .ref ((AD 0) 8)]))], [(((AD 0) 6), .inl (T 0, 32, .inl (ν 3)))], [(((AD 0) 7), .inl (T 0, 32, .inl (ν 4)))], [(((AD 0) 8), .inl (T 0, 32, .inl (ν 5)))], [(((AD 0) 9), .inr (0, [.ref ((AD 0) 10), .ref ((AD 0) 11), .ref ((AD 0) 12)]))], [(((AD 0) 10), .inl (T 0, 16, .inl (ν 6)))], [(((AD 0) 11), .inl (T 0, 16, .inl (ν 7)))], [(((AD 0) 12), .inl (T 0, 16, .inl (ν 8)))], [(((AD 0) 13), .inl (T 1, 8, .inl (bf (ν 9))))], [(((AD 0) 14), .inl (T 0, 4, .inl (ν 10)))], [(((AD 0) 15), .inl (T 1, 4, .inl (bf (ν 11))))], [(((AD 0) 16), .inl (T 0, 20, .inl (ν 12)))], [(((AD 0) 17), .inr (1, [.ref ((AD 0) 18), .int (ν 14 0), .int (ν 14 1)]))], [(((AD 0) 18), .inl (T 0, 32, .inl (ν 13)))], [(((AD 8) 0), .inr (5, [.ref ((AD 0) 0), .ref ((AD 1) 0), .ref ((AD 8) 1), .ref ((AD 9) 0), .ref ((AD 7) 0)]))]] : List va_W).flatten := hD
  have hS : va_S A s.heap s.heap [] := va_S.rf
  have hl := lv_entry ([.ref ((AD 8) 0)]) (n := 1) (Nat.le_of_ble_eq_true rfl)
  rw [lg_entry_eq]
  generalize (lg_sl ([.ref ((AD 8) 0)]) ++ List.replicate (1 - (lg_sl ([.ref ((AD 8) 0)])).length) Slot.unset).toArray = ls at hl ⊢
  have hl : lv_has ls 1 [(0, .ref ((AD 8) 0))] := hl
  have w_10 := hts (.fieldLink RX5 10 "PoisonedMemory" "state" "LPoisonedMemory$State;") (by decide +kernel)
  have hinX5 : ∀ w ∈ wsX50, w ∈ wsX5_injections := by decide +kernel
  have n_174 := va_Nw.use (A := ([.ref ((AD 8) 0)] : List Value).toArray) rfl (hN.1 _ (List.mem_of_getElem? (i := 8) rfl))
  have hinX3 : ∀ w ∈ wsX30, w ∈ wsX5_injections := by decide +kernel
  refine lv_aload_n hx hb dX5_injections_0 rfl (lv_at hl 0 rfl) ?_
  refine va_get (D := D) (ci := 5) (v := .ref ((AD 0) 0)) (C := RX5) (T := TX5) (N := 5) hx hb hts hinX5 hown hK (hP.at 19 rfl) 0 rfl rfl 0 (by decide) w_10 (fun _ h9 => h9) rfl dX5_injections_1 ?_
  refine va_getN (D := D) (ci := 3) (v := .int (ν 15 0)) (C := RX3) (T := TX3) (N := 10) hx hb hts hinX3 hown hK (hP.at 0 rfl) 0 rfl rfl 8 (by decide) n_174 (fun _ h9 => h9) rfl dX5_injections_4 ?_
  exact fr_iret hx hb hr hlk hP hS rfl rfl dX5_injections_7

set_option maxHeartbeats 8000000 in
set_option maxRecDepth 100000 in
theorem kX5_faults (l : Launch) (D : va_G) (T : Nat → ClassId) (Z : ZZ) (AD : Nat → Nat → Nat) (ν : NS)  : CtI l D T Z yX5_faults wsX5_faults ({ frames := 0, cells := 0, slots := 0, locals := 0 }) (stF T (AD 0) ν ++ [maF AD]) [.ref ((AD 8) 0)] (ν 14 1) (stF T (AD 0) ν ++ [maF AD]) := by
  refine CtI.of (cc := cX5_faults) (maxL := 1) (ret := (some .int)) (plainFor_of_name (by decide)) rfl rfl ?_
  intro pP eE s mM bW mE cC A hE hK hN hM hP hD hA
  obtain ⟨hx, hb, hr, hts, hown, hml, hlk⟩ := hE
  have hown : s.vm.findClass RX5 = some mM.cls := hown
  have hP : frP D [[(((AD 0) 0), .inr (3, [.ref ((AD 0) 1), .ref ((AD 0) 5), .ref ((AD 0) 9), .ref ((AD 0) 13), .ref ((AD 0) 14), .ref ((AD 0) 15), .ref ((AD 0) 16), .ref ((AD 0) 17), .int (ν 15 0), .int (ν 15 1)]))], [(((AD 0) 1), .inr (0, [.ref ((AD 0) 2), .ref ((AD 0) 3), .ref ((AD 0) 4)]))], [(((AD 0) 2), .inl (T 0, 32, .inl (ν 0)))], [(((AD 0) 3), .inl (T 0, 32, .inl (ν 1)))], [(((AD 0) 4), .inl (T 0, 32, .inl (ν 2)))], [(((AD 0) 5), .inr (0, [.ref ((AD 0) 6), .ref ((AD 0) 7), .ref ((AD 0) 8)]))], [(((AD 0) 6), .inl (T 0, 32, .inl (ν 3)))], [(((AD 0) 7), .inl (T 0, 32, .inl (ν 4)))], [(((AD 0) 8), .inl (T 0, 32, .inl (ν 5)))], [(((AD 0) 9), .inr (0, [.ref ((AD 0) 10), .ref ((AD 0) 11), .ref ((AD 0) 12)]))], [(((AD 0) 10), .inl (T 0, 16, .inl (ν 6)))], [(((AD 0) 11), .inl (T 0, 16, .inl (ν 7)))], [(((AD 0) 12), .inl (T 0, 16, .inl (ν 8)))], [(((AD 0) 13), .inl (T 1, 8, .inl (bf (ν 9))))], [(((AD 0) 14), .inl (T 0, 4, .inl (ν 10)))], [(((AD 0) 15), .inl (T 1, 4, .inl (bf (ν 11))))], [(((AD 0) 16), .inl (T 0, 20, .inl (ν 12)))], [(((AD 0) 17), .inr (1, [.ref ((AD 0) 18), .int (ν 14 0), .int (ν 14 1)]))], [(((AD 0) 18), .inl (T 0, 32, .inl (ν 13)))], [(((AD 8) 0), .inr (5, [.ref ((AD 0) 0), .ref ((AD 1) 0), .ref ((AD 8) 1), .ref ((AD 9) 0), .ref ((AD 7) 0)]))]] s.heap := hP
  have hD : va_D A ([[(((AD 0) 0), .inr (3, [.ref ((AD 0) 1), .ref ((AD 0) 5), .ref ((AD 0) 9), .ref ((AD 0) 13), .ref ((AD 0) 14), .ref ((AD 0) 15), .ref ((AD 0) 16), .ref ((AD 0) 17), .int (ν 15 0), .int (ν 15 1)]))], [(((AD 0) 1), .inr (0, [.ref ((AD 0) 2), .ref ((AD 0) 3), .ref ((AD 0) 4)]))], [(((AD 0) 2), .inl (T 0, 32, .inl (ν 0)))], [(((AD 0) 3), .inl (T 0, 32, .inl (ν 1)))], [(((AD 0) 4), .inl (T 0, 32, .inl (ν 2)))], [(((AD 0) 5), .inr (0, [.ref ((AD 0) 6), .ref ((AD 0) 7), .ref ((AD 0) 8)]))], [(((AD 0) 6), .inl (T 0, 32, .inl (ν 3)))], [(((AD 0) 7), .inl (T 0, 32, .inl (ν 4)))], [(((AD 0) 8), .inl (T 0, 32, .inl (ν 5)))], [(((AD 0) 9), .inr (0, [.ref ((AD 0) 10), .ref ((AD 0) 11), .ref ((AD 0) 12)]))], [(((AD 0) 10), .inl (T 0, 16, .inl (ν 6)))], [(((AD 0) 11), .inl (T 0, 16, .inl (ν 7)))], [(((AD 0) 12), .inl (T 0, 16, .inl (ν 8)))], [(((AD 0) 13), .inl (T 1, 8, .inl (bf (ν 9))))], [(((AD 0) 14), .inl (T 0, 4, .inl (ν 10)))], [(((AD 0) 15), .inl (T 1, 4, .inl (bf (ν 11))))], [(((AD 0) 16), .inl (T 0, 20, .inl (ν 12)))], [(((AD 0) 17), .inr (1, [.ref ((AD 0) 18), .int (ν 14 0), .int (ν 14 1)]))], [(((AD 0) 18), .inl (T 0, 32, .inl (ν 13)))], [(((AD 8) 0), .inr (5, [.ref ((AD 0) 0), .ref ((AD 1) 0), .ref ((AD 8) 1), .ref ((AD 9) 0), .ref ((AD 7) 0)]))]] : List va_W).flatten := hD
  have hS : va_S A s.heap s.heap [] := va_S.rf
  have hl := lv_entry ([.ref ((AD 8) 0)]) (n := 1) (Nat.le_of_ble_eq_true rfl)
  rw [lg_entry_eq]
  generalize (lg_sl ([.ref ((AD 8) 0)]) ++ List.replicate (1 - (lg_sl ([.ref ((AD 8) 0)])).length) Slot.unset).toArray = ls at hl ⊢
  have hl : lv_has ls 1 [(0, .ref ((AD 8) 0))] := hl
  have w_10 := hts (.fieldLink RX5 10 "PoisonedMemory" "state" "LPoisonedMemory$State;") (by decide +kernel)
  have hinX5 : ∀ w ∈ wsX50, w ∈ wsX5_faults := by decide +kernel
  have n_184 := va_Nw.use (A := ([.ref ((AD 8) 0)] : List Value).toArray) rfl (hN.1 _ (List.mem_of_getElem? (i := 10) rfl))
  have hinX3 : ∀ w ∈ wsX30, w ∈ wsX5_faults := by decide +kernel
  have n_188 := va_Nw.use (A := ([.ref ((AD 8) 0)] : List Value).toArray) rfl (hN.1 _ (List.mem_of_getElem? (i := 11) rfl))
  have hinX1 : ∀ w ∈ wsX10, w ∈ wsX5_faults := by decide +kernel
  refine lv_aload_n hx hb dX5_faults_0 rfl (lv_at hl 0 rfl) ?_
  refine va_get (D := D) (ci := 5) (v := .ref ((AD 0) 0)) (C := RX5) (T := TX5) (N := 5) hx hb hts hinX5 hown hK (hP.at 19 rfl) 0 rfl rfl 0 (by decide) w_10 (fun _ h9 => h9) rfl dX5_faults_1 ?_
  refine va_getN (D := D) (ci := 3) (v := .ref ((AD 0) 17)) (C := RX3) (T := TX3) (N := 10) hx hb hts hinX3 hown hK (hP.at 0 rfl) 0 rfl rfl 7 (by decide) n_184 (fun _ h9 => h9) rfl dX5_faults_4 ?_
  refine va_getN (D := D) (ci := 1) (v := .int (ν 14 1)) (C := RX1) (T := TX1) (N := 3) hx hb hts hinX1 hown hK (hP.at 17 rfl) 0 rfl rfl 2 (by decide) n_188 (fun _ h9 => h9) rfl dX5_faults_7 ?_
  exact fr_iret hx hb hr hlk hP hS rfl rfl dX5_faults_10

set_option maxHeartbeats 8000000 in
set_option maxRecDepth 100000 in
theorem kX5_healed (l : Launch) (D : va_G) (T : Nat → ClassId) (Z : ZZ) (AD : Nat → Nat → Nat) (ν : NS)  : CtI l D T Z yX5_healed wsX5_healed ({ frames := 0, cells := 0, slots := 0, locals := 0 }) (stF T (AD 0) ν ++ [maF AD]) [.ref ((AD 8) 0)] (ν 15 1) (stF T (AD 0) ν ++ [maF AD]) := by
  refine CtI.of (cc := cX5_healed) (maxL := 1) (ret := (some .int)) (plainFor_of_name (by decide)) rfl rfl ?_
  intro pP eE s mM bW mE cC A hE hK hN hM hP hD hA
  obtain ⟨hx, hb, hr, hts, hown, hml, hlk⟩ := hE
  have hown : s.vm.findClass RX5 = some mM.cls := hown
  have hP : frP D [[(((AD 0) 0), .inr (3, [.ref ((AD 0) 1), .ref ((AD 0) 5), .ref ((AD 0) 9), .ref ((AD 0) 13), .ref ((AD 0) 14), .ref ((AD 0) 15), .ref ((AD 0) 16), .ref ((AD 0) 17), .int (ν 15 0), .int (ν 15 1)]))], [(((AD 0) 1), .inr (0, [.ref ((AD 0) 2), .ref ((AD 0) 3), .ref ((AD 0) 4)]))], [(((AD 0) 2), .inl (T 0, 32, .inl (ν 0)))], [(((AD 0) 3), .inl (T 0, 32, .inl (ν 1)))], [(((AD 0) 4), .inl (T 0, 32, .inl (ν 2)))], [(((AD 0) 5), .inr (0, [.ref ((AD 0) 6), .ref ((AD 0) 7), .ref ((AD 0) 8)]))], [(((AD 0) 6), .inl (T 0, 32, .inl (ν 3)))], [(((AD 0) 7), .inl (T 0, 32, .inl (ν 4)))], [(((AD 0) 8), .inl (T 0, 32, .inl (ν 5)))], [(((AD 0) 9), .inr (0, [.ref ((AD 0) 10), .ref ((AD 0) 11), .ref ((AD 0) 12)]))], [(((AD 0) 10), .inl (T 0, 16, .inl (ν 6)))], [(((AD 0) 11), .inl (T 0, 16, .inl (ν 7)))], [(((AD 0) 12), .inl (T 0, 16, .inl (ν 8)))], [(((AD 0) 13), .inl (T 1, 8, .inl (bf (ν 9))))], [(((AD 0) 14), .inl (T 0, 4, .inl (ν 10)))], [(((AD 0) 15), .inl (T 1, 4, .inl (bf (ν 11))))], [(((AD 0) 16), .inl (T 0, 20, .inl (ν 12)))], [(((AD 0) 17), .inr (1, [.ref ((AD 0) 18), .int (ν 14 0), .int (ν 14 1)]))], [(((AD 0) 18), .inl (T 0, 32, .inl (ν 13)))], [(((AD 8) 0), .inr (5, [.ref ((AD 0) 0), .ref ((AD 1) 0), .ref ((AD 8) 1), .ref ((AD 9) 0), .ref ((AD 7) 0)]))]] s.heap := hP
  have hD : va_D A ([[(((AD 0) 0), .inr (3, [.ref ((AD 0) 1), .ref ((AD 0) 5), .ref ((AD 0) 9), .ref ((AD 0) 13), .ref ((AD 0) 14), .ref ((AD 0) 15), .ref ((AD 0) 16), .ref ((AD 0) 17), .int (ν 15 0), .int (ν 15 1)]))], [(((AD 0) 1), .inr (0, [.ref ((AD 0) 2), .ref ((AD 0) 3), .ref ((AD 0) 4)]))], [(((AD 0) 2), .inl (T 0, 32, .inl (ν 0)))], [(((AD 0) 3), .inl (T 0, 32, .inl (ν 1)))], [(((AD 0) 4), .inl (T 0, 32, .inl (ν 2)))], [(((AD 0) 5), .inr (0, [.ref ((AD 0) 6), .ref ((AD 0) 7), .ref ((AD 0) 8)]))], [(((AD 0) 6), .inl (T 0, 32, .inl (ν 3)))], [(((AD 0) 7), .inl (T 0, 32, .inl (ν 4)))], [(((AD 0) 8), .inl (T 0, 32, .inl (ν 5)))], [(((AD 0) 9), .inr (0, [.ref ((AD 0) 10), .ref ((AD 0) 11), .ref ((AD 0) 12)]))], [(((AD 0) 10), .inl (T 0, 16, .inl (ν 6)))], [(((AD 0) 11), .inl (T 0, 16, .inl (ν 7)))], [(((AD 0) 12), .inl (T 0, 16, .inl (ν 8)))], [(((AD 0) 13), .inl (T 1, 8, .inl (bf (ν 9))))], [(((AD 0) 14), .inl (T 0, 4, .inl (ν 10)))], [(((AD 0) 15), .inl (T 1, 4, .inl (bf (ν 11))))], [(((AD 0) 16), .inl (T 0, 20, .inl (ν 12)))], [(((AD 0) 17), .inr (1, [.ref ((AD 0) 18), .int (ν 14 0), .int (ν 14 1)]))], [(((AD 0) 18), .inl (T 0, 32, .inl (ν 13)))], [(((AD 8) 0), .inr (5, [.ref ((AD 0) 0), .ref ((AD 1) 0), .ref ((AD 8) 1), .ref ((AD 9) 0), .ref ((AD 7) 0)]))]] : List va_W).flatten := hD
  have hS : va_S A s.heap s.heap [] := va_S.rf
  have hl := lv_entry ([.ref ((AD 8) 0)]) (n := 1) (Nat.le_of_ble_eq_true rfl)
  rw [lg_entry_eq]
  generalize (lg_sl ([.ref ((AD 8) 0)]) ++ List.replicate (1 - (lg_sl ([.ref ((AD 8) 0)])).length) Slot.unset).toArray = ls at hl ⊢
  have hl : lv_has ls 1 [(0, .ref ((AD 8) 0))] := hl
  have w_10 := hts (.fieldLink RX5 10 "PoisonedMemory" "state" "LPoisonedMemory$State;") (by decide +kernel)
  have hinX5 : ∀ w ∈ wsX50, w ∈ wsX5_healed := by decide +kernel
  have n_199 := va_Nw.use (A := ([.ref ((AD 8) 0)] : List Value).toArray) rfl (hN.1 _ (List.mem_of_getElem? (i := 14) rfl))
  have hinX3 : ∀ w ∈ wsX30, w ∈ wsX5_healed := by decide +kernel
  refine lv_aload_n hx hb dX5_healed_0 rfl (lv_at hl 0 rfl) ?_
  refine va_get (D := D) (ci := 5) (v := .ref ((AD 0) 0)) (C := RX5) (T := TX5) (N := 5) hx hb hts hinX5 hown hK (hP.at 19 rfl) 0 rfl rfl 0 (by decide) w_10 (fun _ h9 => h9) rfl dX5_healed_1 ?_
  refine va_getN (D := D) (ci := 3) (v := .int (ν 15 1)) (C := RX3) (T := TX3) (N := 10) hx hb hts hinX3 hown hK (hP.at 0 rfl) 0 rfl rfl 9 (by decide) n_199 (fun _ h9 => h9) rfl dX5_healed_4 ?_
  exact fr_iret hx hb hr hlk hP hS rfl rfl dX5_healed_7

set_option maxHeartbeats 8000000 in
set_option maxRecDepth 100000 in
theorem kX5_source (l : Launch) (D : va_G) (T : Nat → ClassId) (Z : ZZ) (AD : Nat → Nat → Nat) (ν : NS) (x : Int32) (hi : WH (ν 15 0) 20) : CtI l D T Z yX5_source wsX5_source ({ frames := 1, cells := 0, slots := 0, locals := 21 }) (stF T (AD 0) ν ++ [maF AD]) [.ref ((AD 8) 0), .int (x)] (if iN x (tn (ν 15 0)) then ν 12 (tn x) else -1) (stF T (AD 0) ν ++ [maF AD]) := by
  have hi2 := hi.2
  refine CtI.of (cc := cX5_source) (maxL := 2) (ret := (some .int)) (plainFor_of_name (by decide)) rfl rfl ?_
  intro pP eE s mM bW mE cC A hE hK hN hM hP hD hA
  obtain ⟨hx, hb, hr, hts, hown, hml, hlk⟩ := hE
  have hown : s.vm.findClass RX5 = some mM.cls := hown
  have hP : frP D [[(((AD 0) 0), .inr (3, [.ref ((AD 0) 1), .ref ((AD 0) 5), .ref ((AD 0) 9), .ref ((AD 0) 13), .ref ((AD 0) 14), .ref ((AD 0) 15), .ref ((AD 0) 16), .ref ((AD 0) 17), .int (ν 15 0), .int (ν 15 1)]))], [(((AD 0) 1), .inr (0, [.ref ((AD 0) 2), .ref ((AD 0) 3), .ref ((AD 0) 4)]))], [(((AD 0) 2), .inl (T 0, 32, .inl (ν 0)))], [(((AD 0) 3), .inl (T 0, 32, .inl (ν 1)))], [(((AD 0) 4), .inl (T 0, 32, .inl (ν 2)))], [(((AD 0) 5), .inr (0, [.ref ((AD 0) 6), .ref ((AD 0) 7), .ref ((AD 0) 8)]))], [(((AD 0) 6), .inl (T 0, 32, .inl (ν 3)))], [(((AD 0) 7), .inl (T 0, 32, .inl (ν 4)))], [(((AD 0) 8), .inl (T 0, 32, .inl (ν 5)))], [(((AD 0) 9), .inr (0, [.ref ((AD 0) 10), .ref ((AD 0) 11), .ref ((AD 0) 12)]))], [(((AD 0) 10), .inl (T 0, 16, .inl (ν 6)))], [(((AD 0) 11), .inl (T 0, 16, .inl (ν 7)))], [(((AD 0) 12), .inl (T 0, 16, .inl (ν 8)))], [(((AD 0) 13), .inl (T 1, 8, .inl (bf (ν 9))))], [(((AD 0) 14), .inl (T 0, 4, .inl (ν 10)))], [(((AD 0) 15), .inl (T 1, 4, .inl (bf (ν 11))))], [(((AD 0) 16), .inl (T 0, 20, .inl (ν 12)))], [(((AD 0) 17), .inr (1, [.ref ((AD 0) 18), .int (ν 14 0), .int (ν 14 1)]))], [(((AD 0) 18), .inl (T 0, 32, .inl (ν 13)))], [(((AD 8) 0), .inr (5, [.ref ((AD 0) 0), .ref ((AD 1) 0), .ref ((AD 8) 1), .ref ((AD 9) 0), .ref ((AD 7) 0)]))]] s.heap := hP
  have hD : va_D A ([[(((AD 0) 0), .inr (3, [.ref ((AD 0) 1), .ref ((AD 0) 5), .ref ((AD 0) 9), .ref ((AD 0) 13), .ref ((AD 0) 14), .ref ((AD 0) 15), .ref ((AD 0) 16), .ref ((AD 0) 17), .int (ν 15 0), .int (ν 15 1)]))], [(((AD 0) 1), .inr (0, [.ref ((AD 0) 2), .ref ((AD 0) 3), .ref ((AD 0) 4)]))], [(((AD 0) 2), .inl (T 0, 32, .inl (ν 0)))], [(((AD 0) 3), .inl (T 0, 32, .inl (ν 1)))], [(((AD 0) 4), .inl (T 0, 32, .inl (ν 2)))], [(((AD 0) 5), .inr (0, [.ref ((AD 0) 6), .ref ((AD 0) 7), .ref ((AD 0) 8)]))], [(((AD 0) 6), .inl (T 0, 32, .inl (ν 3)))], [(((AD 0) 7), .inl (T 0, 32, .inl (ν 4)))], [(((AD 0) 8), .inl (T 0, 32, .inl (ν 5)))], [(((AD 0) 9), .inr (0, [.ref ((AD 0) 10), .ref ((AD 0) 11), .ref ((AD 0) 12)]))], [(((AD 0) 10), .inl (T 0, 16, .inl (ν 6)))], [(((AD 0) 11), .inl (T 0, 16, .inl (ν 7)))], [(((AD 0) 12), .inl (T 0, 16, .inl (ν 8)))], [(((AD 0) 13), .inl (T 1, 8, .inl (bf (ν 9))))], [(((AD 0) 14), .inl (T 0, 4, .inl (ν 10)))], [(((AD 0) 15), .inl (T 1, 4, .inl (bf (ν 11))))], [(((AD 0) 16), .inl (T 0, 20, .inl (ν 12)))], [(((AD 0) 17), .inr (1, [.ref ((AD 0) 18), .int (ν 14 0), .int (ν 14 1)]))], [(((AD 0) 18), .inl (T 0, 32, .inl (ν 13)))], [(((AD 8) 0), .inr (5, [.ref ((AD 0) 0), .ref ((AD 1) 0), .ref ((AD 8) 1), .ref ((AD 9) 0), .ref ((AD 7) 0)]))]] : List va_W).flatten := hD
  have hS : va_S A s.heap s.heap [] := va_S.rf
  have hl := lv_entry ([.ref ((AD 8) 0), .int (x)]) (n := 2) (Nat.le_of_ble_eq_true rfl)
  rw [lg_entry_eq]
  generalize (lg_sl ([.ref ((AD 8) 0), .int (x)]) ++ List.replicate (2 - (lg_sl ([.ref ((AD 8) 0), .int (x)])).length) Slot.unset).toArray = ls at hl ⊢
  have hl : lv_has ls 2 [(0, .ref ((AD 8) 0)), (1, .int (x))] := hl
  have w_10 := hts (.fieldLink RX5 10 "PoisonedMemory" "state" "LPoisonedMemory$State;") (by decide +kernel)
  have hinX5 : ∀ w ∈ wsX50, w ∈ wsX5_source := by decide +kernel
  have n_178 := hN.2 _ (List.mem_of_getElem? (i := 3) rfl)
  have w_iniX3 := hts (.initialized RX3) (by decide +kernel)
  have w_im178 := hts (.instanceMethod yX3_isOrigin) (by decide +kernel)
  have w_se178 := hts (.selects RX3 yX3_isOrigin yX3_isOrigin) (by decide +kernel)
  have n_181 := va_Nw.use (A := ([.ref ((AD 8) 0), .int (x)] : List Value).toArray) rfl (hN.1 _ (List.mem_of_getElem? (i := 9) rfl))
  have hinX3 : ∀ w ∈ wsX30, w ∈ wsX5_source := by decide +kernel
  refine lv_aload_n hx hb dX5_source_0 rfl (lv_at hl 0 rfl) ?_
  refine va_get (D := D) (ci := 5) (v := .ref ((AD 0) 0)) (C := RX5) (T := TX5) (N := 5) hx hb hts hinX5 hown hK (hP.at 19 rfl) 0 rfl rfl 0 (by decide) w_10 (fun _ h9 => h9) rfl dX5_source_1 ?_
  refine lv_iload_n hx hb dX5_source_4 rfl (lv_at hl 1 rfl) ?_
  have hPc : frP D ((stF T (AD 0) ν) ++ [[(((AD 8) 0), .inr (5, [.ref ((AD 0) 0), .ref ((AD 1) 0), .ref ((AD 8) 1), .ref ((AD 9) 0), .ref ((AD 7) 0)]))]]) _ := hP
  have hDc : va_D A ((stF T (AD 0) ν) ++ ([[(((AD 8) 0), .inr (5, [.ref ((AD 0) 0), .ref ((AD 1) 0), .ref ((AD 8) 1), .ref ((AD 9) 0), .ref ((AD 7) 0)]))]] : List va_W)).flatten := hD
  refine fr_VNiP (As := [.int (x)]) (rest := []) (cs := (stF T (AD 0) ν)) (tl2 := [[(((AD 8) 0), .inr (5, [.ref ((AD 0) 0), .ref ((AD 1) 0), .ref ((AD 8) 1), .ref ((AD 9) 0), .ref ((AD 7) 0)]))]]) (ci := 3) (q0 := (RX3, TX3, 10)) (i0 := 0) ⟨hx, hb, hml, hown, hts⟩ (kX3_isOrigin l D T Z (AD 0) ν x hi) ⟨va_cnB 1 hts ggX5_source_X3_isOrigin rfl rfl rfl n_178 w_iniX3 (by decide +kernel) ⟨Nat.le_of_ble_eq_true rfl, Nat.le_of_ble_eq_true rfl⟩, w_im178, w_se178⟩ hK hN hM hPc hDc hS hA rfl rfl rfl hl.1 rfl (Nat.le_of_ble_eq_true rfl) dX5_source_5 ⟨Nat.zero_le _, Nat.zero_le _⟩ (fun H locs hP hD hS => ?_)
  have hP : frP D [[(((AD 0) 0), .inr (3, [.ref ((AD 0) 1), .ref ((AD 0) 5), .ref ((AD 0) 9), .ref ((AD 0) 13), .ref ((AD 0) 14), .ref ((AD 0) 15), .ref ((AD 0) 16), .ref ((AD 0) 17), .int (ν 15 0), .int (ν 15 1)]))], [(((AD 0) 1), .inr (0, [.ref ((AD 0) 2), .ref ((AD 0) 3), .ref ((AD 0) 4)]))], [(((AD 0) 2), .inl (T 0, 32, .inl (ν 0)))], [(((AD 0) 3), .inl (T 0, 32, .inl (ν 1)))], [(((AD 0) 4), .inl (T 0, 32, .inl (ν 2)))], [(((AD 0) 5), .inr (0, [.ref ((AD 0) 6), .ref ((AD 0) 7), .ref ((AD 0) 8)]))], [(((AD 0) 6), .inl (T 0, 32, .inl (ν 3)))], [(((AD 0) 7), .inl (T 0, 32, .inl (ν 4)))], [(((AD 0) 8), .inl (T 0, 32, .inl (ν 5)))], [(((AD 0) 9), .inr (0, [.ref ((AD 0) 10), .ref ((AD 0) 11), .ref ((AD 0) 12)]))], [(((AD 0) 10), .inl (T 0, 16, .inl (ν 6)))], [(((AD 0) 11), .inl (T 0, 16, .inl (ν 7)))], [(((AD 0) 12), .inl (T 0, 16, .inl (ν 8)))], [(((AD 0) 13), .inl (T 1, 8, .inl (bf (ν 9))))], [(((AD 0) 14), .inl (T 0, 4, .inl (ν 10)))], [(((AD 0) 15), .inl (T 1, 4, .inl (bf (ν 11))))], [(((AD 0) 16), .inl (T 0, 20, .inl (ν 12)))], [(((AD 0) 17), .inr (1, [.ref ((AD 0) 18), .int (ν 14 0), .int (ν 14 1)]))], [(((AD 0) 18), .inl (T 0, 32, .inl (ν 13)))], [(((AD 8) 0), .inr (5, [.ref ((AD 0) 0), .ref ((AD 1) 0), .ref ((AD 8) 1), .ref ((AD 9) 0), .ref ((AD 7) 0)]))]] H := hP
  have hD : va_D A ([[(((AD 0) 0), .inr (3, [.ref ((AD 0) 1), .ref ((AD 0) 5), .ref ((AD 0) 9), .ref ((AD 0) 13), .ref ((AD 0) 14), .ref ((AD 0) 15), .ref ((AD 0) 16), .ref ((AD 0) 17), .int (ν 15 0), .int (ν 15 1)]))], [(((AD 0) 1), .inr (0, [.ref ((AD 0) 2), .ref ((AD 0) 3), .ref ((AD 0) 4)]))], [(((AD 0) 2), .inl (T 0, 32, .inl (ν 0)))], [(((AD 0) 3), .inl (T 0, 32, .inl (ν 1)))], [(((AD 0) 4), .inl (T 0, 32, .inl (ν 2)))], [(((AD 0) 5), .inr (0, [.ref ((AD 0) 6), .ref ((AD 0) 7), .ref ((AD 0) 8)]))], [(((AD 0) 6), .inl (T 0, 32, .inl (ν 3)))], [(((AD 0) 7), .inl (T 0, 32, .inl (ν 4)))], [(((AD 0) 8), .inl (T 0, 32, .inl (ν 5)))], [(((AD 0) 9), .inr (0, [.ref ((AD 0) 10), .ref ((AD 0) 11), .ref ((AD 0) 12)]))], [(((AD 0) 10), .inl (T 0, 16, .inl (ν 6)))], [(((AD 0) 11), .inl (T 0, 16, .inl (ν 7)))], [(((AD 0) 12), .inl (T 0, 16, .inl (ν 8)))], [(((AD 0) 13), .inl (T 1, 8, .inl (bf (ν 9))))], [(((AD 0) 14), .inl (T 0, 4, .inl (ν 10)))], [(((AD 0) 15), .inl (T 1, 4, .inl (bf (ν 11))))], [(((AD 0) 16), .inl (T 0, 20, .inl (ν 12)))], [(((AD 0) 17), .inr (1, [.ref ((AD 0) 18), .int (ν 14 0), .int (ν 14 1)]))], [(((AD 0) 18), .inl (T 0, 32, .inl (ν 13)))], [(((AD 8) 0), .inr (5, [.ref ((AD 0) 0), .ref ((AD 1) 0), .ref ((AD 8) 1), .ref ((AD 9) 0), .ref ((AD 7) 0)]))]] : List va_W).flatten := hD
  refine fr_ifeq_b (tgt := 23) hx hb dX5_source_8 (by decide) (fun c_1 => ?_) (fun c_1 => ?_)
  · refine lv_iconst (v := (-1)) hx hb dX5_source_23 (by decide) ?_
    exact fr_iret hx hb hr hlk hP hS (by first | rfl | (simp only [c_1, ↓reduceIte, Bool.false_eq_true, bI_true, bI_false, Bool.true_and, Bool.and_true, Bool.and_false, Bool.false_and, Bool.not_true, Bool.not_false, Bool.or_true, Bool.true_or, Bool.or_false, Bool.false_or] <;> rfl) | (simp [c_1, bI]; done)) rfl dX5_source_24
  · have e_2 := iN_eq c_1
    have e_2b := iN_lt c_1 (by omega)
    refine lv_aload_n hx hb dX5_source_11 rfl (lv_at hl 0 rfl) ?_
    refine va_get (D := D) (ci := 5) (v := .ref ((AD 0) 0)) (C := RX5) (T := TX5) (N := 5) hx hb hts hinX5 hown hK (hP.at 19 rfl) 0 rfl rfl 0 (by decide) w_10 (fun _ h9 => h9) rfl dX5_source_12 ?_
    refine va_getN (D := D) (ci := 3) (v := .ref ((AD 0) 16)) (C := RX3) (T := TX3) (N := 10) hx hb hts hinX3 hown hK (hP.at 0 rfl) 0 rfl rfl 6 (by decide) n_181 (fun _ h9 => h9) rfl dX5_source_15 ?_
    refine lv_iload_n hx hb dX5_source_18 rfl (lv_at hl 1 rfl) ?_
    refine fr_val e_2 ?_
    refine fr_iald hx hb hK hP 16 (tn x) rfl (by omega) (by omega) dX5_source_19 ?_
    refine lv_goto (tgt := 24) hx hb dX5_source_20 (by decide) ?_
    exact fr_iret hx hb hr hlk hP hS (by first | rfl | (simp only [c_1, ↓reduceIte, Bool.false_eq_true, bI_true, bI_false, Bool.true_and, Bool.and_true, Bool.and_false, Bool.false_and, Bool.not_true, Bool.not_false, Bool.or_true, Bool.true_or, Bool.or_false, Bool.false_or] <;> rfl) | (simp [c_1, bI]; done)) rfl dX5_source_24

set_option maxHeartbeats 8000000 in
set_option maxRecDepth 100000 in
theorem kX5_log (l : Launch) (D : va_G) (T : Nat → ClassId) (Z : ZZ) (AD : Nat → Nat → Nat) (ν : NS) (x : Int32) (y : Int32) (hh : WH (ν 14 0) 8) : CtI l D T Z yX5_log wsX5_log ({ frames := 0, cells := 0, slots := 0, locals := 0 }) (stF T (AD 0) ν ++ [maF AD]) [.ref ((AD 8) 0), .int (x), .int (y)] (if x < 0 then -2 else if iN y 4 then (if iN x (tn (ν 14 0)) then ν 13 (tn x * 4 + tn y) else -6) else -2) (stF T (AD 0) ν ++ [maF AD]) := by
  have hh2 := hh.2
  refine CtI.of (cc := cX5_log) (maxL := 3) (ret := (some .int)) (plainFor_of_name (by decide)) rfl rfl ?_
  intro pP eE s mM bW mE cC A hE hK hN hM hP hD hA
  obtain ⟨hx, hb, hr, hts, hown, hml, hlk⟩ := hE
  have hown : s.vm.findClass RX5 = some mM.cls := hown
  have hP : frP D [[(((AD 0) 0), .inr (3, [.ref ((AD 0) 1), .ref ((AD 0) 5), .ref ((AD 0) 9), .ref ((AD 0) 13), .ref ((AD 0) 14), .ref ((AD 0) 15), .ref ((AD 0) 16), .ref ((AD 0) 17), .int (ν 15 0), .int (ν 15 1)]))], [(((AD 0) 1), .inr (0, [.ref ((AD 0) 2), .ref ((AD 0) 3), .ref ((AD 0) 4)]))], [(((AD 0) 2), .inl (T 0, 32, .inl (ν 0)))], [(((AD 0) 3), .inl (T 0, 32, .inl (ν 1)))], [(((AD 0) 4), .inl (T 0, 32, .inl (ν 2)))], [(((AD 0) 5), .inr (0, [.ref ((AD 0) 6), .ref ((AD 0) 7), .ref ((AD 0) 8)]))], [(((AD 0) 6), .inl (T 0, 32, .inl (ν 3)))], [(((AD 0) 7), .inl (T 0, 32, .inl (ν 4)))], [(((AD 0) 8), .inl (T 0, 32, .inl (ν 5)))], [(((AD 0) 9), .inr (0, [.ref ((AD 0) 10), .ref ((AD 0) 11), .ref ((AD 0) 12)]))], [(((AD 0) 10), .inl (T 0, 16, .inl (ν 6)))], [(((AD 0) 11), .inl (T 0, 16, .inl (ν 7)))], [(((AD 0) 12), .inl (T 0, 16, .inl (ν 8)))], [(((AD 0) 13), .inl (T 1, 8, .inl (bf (ν 9))))], [(((AD 0) 14), .inl (T 0, 4, .inl (ν 10)))], [(((AD 0) 15), .inl (T 1, 4, .inl (bf (ν 11))))], [(((AD 0) 16), .inl (T 0, 20, .inl (ν 12)))], [(((AD 0) 17), .inr (1, [.ref ((AD 0) 18), .int (ν 14 0), .int (ν 14 1)]))], [(((AD 0) 18), .inl (T 0, 32, .inl (ν 13)))], [(((AD 8) 0), .inr (5, [.ref ((AD 0) 0), .ref ((AD 1) 0), .ref ((AD 8) 1), .ref ((AD 9) 0), .ref ((AD 7) 0)]))]] s.heap := hP
  have hD : va_D A ([[(((AD 0) 0), .inr (3, [.ref ((AD 0) 1), .ref ((AD 0) 5), .ref ((AD 0) 9), .ref ((AD 0) 13), .ref ((AD 0) 14), .ref ((AD 0) 15), .ref ((AD 0) 16), .ref ((AD 0) 17), .int (ν 15 0), .int (ν 15 1)]))], [(((AD 0) 1), .inr (0, [.ref ((AD 0) 2), .ref ((AD 0) 3), .ref ((AD 0) 4)]))], [(((AD 0) 2), .inl (T 0, 32, .inl (ν 0)))], [(((AD 0) 3), .inl (T 0, 32, .inl (ν 1)))], [(((AD 0) 4), .inl (T 0, 32, .inl (ν 2)))], [(((AD 0) 5), .inr (0, [.ref ((AD 0) 6), .ref ((AD 0) 7), .ref ((AD 0) 8)]))], [(((AD 0) 6), .inl (T 0, 32, .inl (ν 3)))], [(((AD 0) 7), .inl (T 0, 32, .inl (ν 4)))], [(((AD 0) 8), .inl (T 0, 32, .inl (ν 5)))], [(((AD 0) 9), .inr (0, [.ref ((AD 0) 10), .ref ((AD 0) 11), .ref ((AD 0) 12)]))], [(((AD 0) 10), .inl (T 0, 16, .inl (ν 6)))], [(((AD 0) 11), .inl (T 0, 16, .inl (ν 7)))], [(((AD 0) 12), .inl (T 0, 16, .inl (ν 8)))], [(((AD 0) 13), .inl (T 1, 8, .inl (bf (ν 9))))], [(((AD 0) 14), .inl (T 0, 4, .inl (ν 10)))], [(((AD 0) 15), .inl (T 1, 4, .inl (bf (ν 11))))], [(((AD 0) 16), .inl (T 0, 20, .inl (ν 12)))], [(((AD 0) 17), .inr (1, [.ref ((AD 0) 18), .int (ν 14 0), .int (ν 14 1)]))], [(((AD 0) 18), .inl (T 0, 32, .inl (ν 13)))], [(((AD 8) 0), .inr (5, [.ref ((AD 0) 0), .ref ((AD 1) 0), .ref ((AD 8) 1), .ref ((AD 9) 0), .ref ((AD 7) 0)]))]] : List va_W).flatten := hD
  have hS : va_S A s.heap s.heap [] := va_S.rf
  have hl := lv_entry ([.ref ((AD 8) 0), .int (x), .int (y)]) (n := 3) (Nat.le_of_ble_eq_true rfl)
  rw [lg_entry_eq]
  generalize (lg_sl ([.ref ((AD 8) 0), .int (x), .int (y)]) ++ List.replicate (3 - (lg_sl ([.ref ((AD 8) 0), .int (x), .int (y)])).length) Slot.unset).toArray = ls at hl ⊢
  have hl : lv_has ls 3 [(0, .ref ((AD 8) 0)), (1, .int (x)), (2, .int (y))] := hl
  have w_10 := hts (.fieldLink RX5 10 "PoisonedMemory" "state" "LPoisonedMemory$State;") (by decide +kernel)
  have hinX5 : ∀ w ∈ wsX50, w ∈ wsX5_log := by decide +kernel
  have n_184 := va_Nw.use (A := ([.ref ((AD 8) 0), .int (x), .int (y)] : List Value).toArray) rfl (hN.1 _ (List.mem_of_getElem? (i := 10) rfl))
  have hinX3 : ∀ w ∈ wsX30, w ∈ wsX5_log := by decide +kernel
  have n_193 := va_Nw.use (A := ([.ref ((AD 8) 0), .int (x), .int (y)] : List Value).toArray) rfl (hN.1 _ (List.mem_of_getElem? (i := 12) rfl))
  have hinX1 : ∀ w ∈ wsX10, w ∈ wsX5_log := by decide +kernel
  have n_196 := va_Nw.use (A := ([.ref ((AD 8) 0), .int (x), .int (y)] : List Value).toArray) rfl (hN.1 _ (List.mem_of_getElem? (i := 13) rfl))
  refine lv_iload_n hx hb dX5_log_0 rfl (lv_at hl 1 rfl) ?_
  refine lv_if_lt (tgt := 13) hx hb dX5_log_1 (by decide) (fun c_1 => ?_) (fun c_1 => ?_)
  · have c_1' := Int32.not_le.mpr c_1
    refine lv_bipush (v := (-2)) hx hb dX5_log_13 (by decide) ?_
    exact fr_iret hx hb hr hlk hP hS (by first | rfl | (simp only [c_1, c_1', ↓reduceIte, Bool.false_eq_true, bI_true, bI_false, Bool.true_and, Bool.and_true, Bool.and_false, Bool.false_and, Bool.not_true, Bool.not_false, Bool.or_true, Bool.true_or, Bool.or_false, Bool.false_or] <;> rfl) | (simp [c_1, c_1', bI]; done)) rfl dX5_log_15
  · have c_1' := Int32.not_lt.mp c_1
    refine lv_iload_n hx hb dX5_log_4 rfl (lv_at hl 2 rfl) ?_
    refine lv_if_lt (tgt := 13) hx hb dX5_log_5 (by decide) (fun c_2 => ?_) (fun c_2 => ?_)
    · have c_2' := Int32.not_le.mpr c_2
      have e_3r : iN y 4 = false := Bool.eq_false_iff.mpr (fun z => (iN_iff.mp z).1 c_2)
      refine lv_bipush (v := (-2)) hx hb dX5_log_13 (by decide) ?_
      exact fr_iret hx hb hr hlk hP hS (by first | rfl | (simp only [c_1, c_1', c_2, c_2', e_3r, ↓reduceIte, Bool.false_eq_true, bI_true, bI_false, Bool.true_and, Bool.and_true, Bool.and_false, Bool.false_and, Bool.not_true, Bool.not_false, Bool.or_true, Bool.true_or, Bool.or_false, Bool.false_or] <;> rfl) | (simp [c_1, c_1', c_2, c_2', e_3r, bI]; done)) rfl dX5_log_15
    · have c_2' := Int32.not_lt.mp c_2
      refine lv_iload_n hx hb dX5_log_8 rfl (lv_at hl 2 rfl) ?_
      refine lv_iconst (v := nI 4) hx hb dX5_log_9 (by decide) ?_
      refine lv_icmp_lt (tgt := 16) hx hb dX5_log_10 (by decide) (fun c_4 => ?_) (fun c_4 => ?_)
      · have c_4' := Int32.not_le.mpr c_4
        have e_5r : iN y 4 = true := iN_iff.mpr ⟨c_2, Int32.not_le.mpr c_4⟩
        have e_5 := iN_eq e_5r
        have e_5b := iN_lt e_5r (by decide)
        refine lv_iload_n hx hb dX5_log_16 rfl (lv_at hl 1 rfl) ?_
        refine lv_aload_n hx hb dX5_log_17 rfl (lv_at hl 0 rfl) ?_
        refine va_get (D := D) (ci := 5) (v := .ref ((AD 0) 0)) (C := RX5) (T := TX5) (N := 5) hx hb hts hinX5 hown hK (hP.at 19 rfl) 0 rfl rfl 0 (by decide) w_10 (fun _ h9 => h9) rfl dX5_log_18 ?_
        refine va_getN (D := D) (ci := 3) (v := .ref ((AD 0) 17)) (C := RX3) (T := TX3) (N := 10) hx hb hts hinX3 hown hK (hP.at 0 rfl) 0 rfl rfl 7 (by decide) n_184 (fun _ h9 => h9) rfl dX5_log_21 ?_
        refine va_getN (D := D) (ci := 1) (v := .int (ν 14 0)) (C := RX1) (T := TX1) (N := 3) hx hb hts hinX1 hown hK (hP.at 17 rfl) 0 rfl rfl 1 (by decide) n_193 (fun _ h9 => h9) rfl dX5_log_24 ?_
        refine fr_val hh.1 ?_
        refine lv_icmp_ge (tgt := 49) hx hb dX5_log_27 (by decide) (fun c_6 => ?_) (fun c_6 => ?_)
        · have c_6' := Int32.not_lt.mpr c_6
          have e_7r : iN x (tn (ν 14 0)) = false := by unfold iN; simp [c_6]
          refine lv_bipush (v := (-6)) hx hb dX5_log_49 (by decide) ?_
          exact fr_iret hx hb hr hlk hP hS (by first | rfl | (simp only [c_1, c_1', c_2, c_2', c_4, c_4', e_5r, c_6, c_6', e_7r, ↓reduceIte, Bool.false_eq_true, bI_true, bI_false, Bool.true_and, Bool.and_true, Bool.and_false, Bool.false_and, Bool.not_true, Bool.not_false, Bool.or_true, Bool.true_or, Bool.or_false, Bool.false_or] <;> rfl) | (simp [c_1, c_1', c_2, c_2', c_4, c_4', e_5r, c_6, c_6', e_7r, bI]; done)) rfl dX5_log_51
        · have c_6' := Int32.not_le.mp c_6
          have e_8r : iN x (tn (ν 14 0)) = true := iN_iff.mpr ⟨c_1, c_6⟩
          have e_8 := iN_eq e_8r
          have e_8b := iN_lt e_8r (by omega)
          refine lv_aload_n hx hb dX5_log_30 rfl (lv_at hl 0 rfl) ?_
          refine va_get (D := D) (ci := 5) (v := .ref ((AD 0) 0)) (C := RX5) (T := TX5) (N := 5) hx hb hts hinX5 hown hK (hP.at 19 rfl) 0 rfl rfl 0 (by decide) w_10 (fun _ h9 => h9) rfl dX5_log_31 ?_
          refine va_getN (D := D) (ci := 3) (v := .ref ((AD 0) 17)) (C := RX3) (T := TX3) (N := 10) hx hb hts hinX3 hown hK (hP.at 0 rfl) 0 rfl rfl 7 (by decide) n_184 (fun _ h9 => h9) rfl dX5_log_34 ?_
          refine va_getN (D := D) (ci := 1) (v := .ref ((AD 0) 18)) (C := RX1) (T := TX1) (N := 3) hx hb hts hinX1 hown hK (hP.at 17 rfl) 0 rfl rfl 0 (by decide) n_196 (fun _ h9 => h9) rfl dX5_log_37 ?_
          refine lv_iload_n hx hb dX5_log_40 rfl (lv_at hl 1 rfl) ?_
          refine fr_val e_8 ?_
          refine lv_iconst (v := nI 4) hx hb dX5_log_41 (by decide) ?_
          refine fr_imul (tn x) (4) hx hb dX5_log_42 ?_
          refine lv_iload_n hx hb dX5_log_43 rfl (lv_at hl 2 rfl) ?_
          refine fr_val e_5 ?_
          refine fr_iadd ((tn x * 4)) (tn y) hx hb dX5_log_44 ?_
          refine fr_iald hx hb hK hP 18 (((tn x * 4) + tn y)) rfl (by omega) (by omega) dX5_log_45 ?_
          refine lv_goto (tgt := 51) hx hb dX5_log_46 (by decide) ?_
          exact fr_iret hx hb hr hlk hP hS (by first | rfl | (simp only [c_1, c_1', c_2, c_2', c_4, c_4', e_5r, c_6, c_6', e_8r, ↓reduceIte, Bool.false_eq_true, bI_true, bI_false, Bool.true_and, Bool.and_true, Bool.and_false, Bool.false_and, Bool.not_true, Bool.not_false, Bool.or_true, Bool.true_or, Bool.or_false, Bool.false_or] <;> rfl) | (simp [c_1, c_1', c_2, c_2', c_4, c_4', e_5r, c_6, c_6', e_8r, bI]; done)) rfl dX5_log_51
      · have c_4' := Int32.not_lt.mp c_4
        have e_9r : iN y 4 = false := Bool.eq_false_iff.mpr (fun z => (iN_iff.mp z).2 (Int32.not_lt.mp c_4))
        refine lv_bipush (v := (-2)) hx hb dX5_log_13 (by decide) ?_
        exact fr_iret hx hb hr hlk hP hS (by first | rfl | (simp only [c_1, c_1', c_2, c_2', c_4, c_4', e_9r, ↓reduceIte, Bool.false_eq_true, bI_true, bI_false, Bool.true_and, Bool.and_true, Bool.and_false, Bool.false_and, Bool.not_true, Bool.not_false, Bool.or_true, Bool.true_or, Bool.or_false, Bool.false_or] <;> rfl) | (simp [c_1, c_1', c_2, c_2', c_4, c_4', e_9r, bI]; done)) rfl dX5_log_15
