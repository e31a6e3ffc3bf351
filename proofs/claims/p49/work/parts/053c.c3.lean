
set_option maxHeartbeats 8000000 in
set_option maxRecDepth 100000 in
theorem kX3_injectWord (l : Launch) (D : va_G) (T : Nat → ClassId) (Z : ZZ) (ad : Nat → Nat) (ν : NS) (x : Int32) (hi : WH (ν 15 0) 20) : CtI l D T Z yX3_injectWord wsX3_injectWord ({ frames := 1, cells := 0, slots := 0, locals := 23 }) (stF T ad ν) [.ref (ad 0), .int (x)] (r_inj ν x) (stF T ad (s_inj ν x)) := by
  have hi2 := hi.2
  refine CtI.of (cc := cX3_injectWord) (maxL := 3) (ret := (some .int)) (plainFor_of_name (by decide)) rfl rfl ?_
  intro pP eE s mM bW mE cC A hE hK hN hM hP hD hA
  obtain ⟨hx, hb, hr, hts, hown, hml, hlk⟩ := hE
  have hown : s.vm.findClass RX3 = some mM.cls := hown
  have hP : frP D [[((ad 0), .inr (3, [.ref (ad 1), .ref (ad 5), .ref (ad 9), .ref (ad 13), .ref (ad 14), .ref (ad 15), .ref (ad 16), .ref (ad 17), .int (ν 15 0), .int (ν 15 1)]))], [((ad 1), .inr (0, [.ref (ad 2), .ref (ad 3), .ref (ad 4)]))], [((ad 2), .inl (T 0, 32, .inl (ν 0)))], [((ad 3), .inl (T 0, 32, .inl (ν 1)))], [((ad 4), .inl (T 0, 32, .inl (ν 2)))], [((ad 5), .inr (0, [.ref (ad 6), .ref (ad 7), .ref (ad 8)]))], [((ad 6), .inl (T 0, 32, .inl (ν 3)))], [((ad 7), .inl (T 0, 32, .inl (ν 4)))], [((ad 8), .inl (T 0, 32, .inl (ν 5)))], [((ad 9), .inr (0, [.ref (ad 10), .ref (ad 11), .ref (ad 12)]))], [((ad 10), .inl (T 0, 16, .inl (ν 6)))], [((ad 11), .inl (T 0, 16, .inl (ν 7)))], [((ad 12), .inl (T 0, 16, .inl (ν 8)))], [((ad 13), .inl (T 1, 8, .inl (bf (ν 9))))], [((ad 14), .inl (T 0, 4, .inl (ν 10)))], [((ad 15), .inl (T 1, 4, .inl (bf (ν 11))))], [((ad 16), .inl (T 0, 20, .inl (ν 12)))], [((ad 17), .inr (1, [.ref (ad 18), .int (ν 14 0), .int (ν 14 1)]))], [((ad 18), .inl (T 0, 32, .inl (ν 13)))]] s.heap := hP
  have hD : va_D A ([[((ad 0), .inr (3, [.ref (ad 1), .ref (ad 5), .ref (ad 9), .ref (ad 13), .ref (ad 14), .ref (ad 15), .ref (ad 16), .ref (ad 17), .int (ν 15 0), .int (ν 15 1)]))], [((ad 1), .inr (0, [.ref (ad 2), .ref (ad 3), .ref (ad 4)]))], [((ad 2), .inl (T 0, 32, .inl (ν 0)))], [((ad 3), .inl (T 0, 32, .inl (ν 1)))], [((ad 4), .inl (T 0, 32, .inl (ν 2)))], [((ad 5), .inr (0, [.ref (ad 6), .ref (ad 7), .ref (ad 8)]))], [((ad 6), .inl (T 0, 32, .inl (ν 3)))], [((ad 7), .inl (T 0, 32, .inl (ν 4)))], [((ad 8), .inl (T 0, 32, .inl (ν 5)))], [((ad 9), .inr (0, [.ref (ad 10), .ref (ad 11), .ref (ad 12)]))], [((ad 10), .inl (T 0, 16, .inl (ν 6)))], [((ad 11), .inl (T 0, 16, .inl (ν 7)))], [((ad 12), .inl (T 0, 16, .inl (ν 8)))], [((ad 13), .inl (T 1, 8, .inl (bf (ν 9))))], [((ad 14), .inl (T 0, 4, .inl (ν 10)))], [((ad 15), .inl (T 1, 4, .inl (bf (ν 11))))], [((ad 16), .inl (T 0, 20, .inl (ν 12)))], [((ad 17), .inr (1, [.ref (ad 18), .int (ν 14 0), .int (ν 14 1)]))], [((ad 18), .inl (T 0, 32, .inl (ν 13)))]] : List va_W).flatten := hD
  have hS : va_S A s.heap s.heap [] := va_S.rf
  have hl := lv_entry ([.ref (ad 0), .int (x)]) (n := 3) (Nat.le_of_ble_eq_true rfl)
  rw [lg_entry_eq]
  generalize (lg_sl ([.ref (ad 0), .int (x)]) ++ List.replicate (3 - (lg_sl ([.ref (ad 0), .int (x)])).length) Slot.unset).toArray = ls at hl ⊢
  have hl : lv_has ls 3 [(0, .ref (ad 0)), (1, .int (x))] := hl
  have n_71 := hN.2 _ (List.mem_of_getElem? (i := 9) rfl)
  have w_iniX5 := hts (.initialized RX5) (by decide +kernel)
  have w_st71 := hts (.static yX5_isWord) (by decide +kernel)
  have w_64 := hts (.fieldLink RX3 64 "PoisonedMemory$State" "injections" "I") (by decide +kernel)
  have hinX3 : ∀ w ∈ wsX30, w ∈ wsX3_injectWord := by decide +kernel
  have w_37 := hts (.fieldLink RX3 37 "PoisonedMemory$State" "sources" "[I") (by decide +kernel)
  have w_14 := hts (.fieldLink RX3 14 "PoisonedMemory$State" "words" "LPoisonedMemory$Cells;") (by decide +kernel)
  refine lv_iload_n hx hb dX3_injectWord_0 rfl (lv_at hl 1 rfl) ?_
  refine fr_SN0 (As := [.int (x)]) (rest := []) ⟨hx, hb, hml, hown, hts⟩ (kX5_isWord l D T Z x) ⟨va_cnB 1 hts ggX3_injectWord_X5_isWord rfl rfl rfl n_71 w_iniX5 (by decide +kernel) ⟨Nat.le_of_ble_eq_true rfl, Nat.le_of_ble_eq_true rfl⟩, w_st71, trivial⟩ hK hN hM hP hD hS hA rfl hl.1 rfl (Nat.le_of_ble_eq_true rfl) dX3_injectWord_1 ⟨Nat.zero_le _, Nat.zero_le _⟩ (fun H locs hP hD hS => ?_)
  refine fr_ifne_b (tgt := 9) hx hb dX3_injectWord_4 (by decide) (fun c_1 => ?_) (fun c_1 => ?_)
  · have e_2 := iN_eq c_1
    have e_2b := iN_lt c_1 (by decide)
    refine lv_aload_n hx hb dX3_injectWord_9 rfl (lv_at hl 0 rfl) ?_
    refine va_get (D := D) (ci := 3) (v := .int (ν 15 0)) (C := RX3) (T := TX3) (N := 10) hx hb hts hinX3 hown hK (hP.at 0 rfl) 0 rfl rfl 8 (by decide) w_64 (fun _ h9 => h9) rfl dX3_injectWord_10 ?_
    refine fr_val hi.1 ?_
    refine lv_bipush (v := nI 20) hx hb dX3_injectWord_13 (by decide) ?_
    refine fr_icmp_lt (tn (ν 15 0)) (20) (by omega) (by decide) (tgt := 21) hx hb dX3_injectWord_15 (by decide) (fun c_3 => ?_) (fun c_3 => ?_)
    · have c_3' := Nat.not_le.mpr c_3
      refine lv_aload_n hx hb dX3_injectWord_21 rfl (lv_at hl 0 rfl) ?_
      refine va_get (D := D) (ci := 3) (v := .int (ν 15 0)) (C := RX3) (T := TX3) (N := 10) hx hb hts hinX3 hown hK (hP.at 0 rfl) 0 rfl rfl 8 (by decide) w_64 (fun _ h9 => h9) rfl dX3_injectWord_22 ?_
      refine fr_val hi.1 ?_
      refine lv_istore_n (lv' := [(2, .int (nI (tn (ν 15 0)))), (0, .ref (ad 0)), (1, .int (x))]) hx hb dX3_injectWord_25 rfl hl (by decide) rfl (fun ls hl => ?_)
      refine lv_aload_n hx hb dX3_injectWord_26 rfl (lv_at hl 1 rfl) ?_
      refine va_get (D := D) (ci := 3) (v := .ref (ad 16)) (C := RX3) (T := TX3) (N := 10) hx hb hts hinX3 hown hK (hP.at 0 rfl) 0 rfl rfl 6 (by decide) w_37 (fun _ h9 => h9) rfl dX3_injectWord_27 ?_
      refine lv_iload_n hx hb dX3_injectWord_30 rfl (lv_at hl 0 rfl) ?_
      refine lv_iload_n hx hb dX3_injectWord_31 rfl (lv_at hl 2 rfl) ?_
      refine fr_val e_2 ?_
      refine fr_iast (fs' := [[((ad 0), .inr (3, [.ref (ad 1), .ref (ad 5), .ref (ad 9), .ref (ad 13), .ref (ad 14), .ref (ad 15), .ref (ad 16), .ref (ad 17), .int (ν 15 0), .int (ν 15 1)]))], [((ad 1), .inr (0, [.ref (ad 2), .ref (ad 3), .ref (ad 4)]))], [((ad 2), .inl (T 0, 32, .inl (ν 0)))], [((ad 3), .inl (T 0, 32, .inl (ν 1)))], [((ad 4), .inl (T 0, 32, .inl (ν 2)))], [((ad 5), .inr (0, [.ref (ad 6), .ref (ad 7), .ref (ad 8)]))], [((ad 6), .inl (T 0, 32, .inl (ν 3)))], [((ad 7), .inl (T 0, 32, .inl (ν 4)))], [((ad 8), .inl (T 0, 32, .inl (ν 5)))], [((ad 9), .inr (0, [.ref (ad 10), .ref (ad 11), .ref (ad 12)]))], [((ad 10), .inl (T 0, 16, .inl (ν 6)))], [((ad 11), .inl (T 0, 16, .inl (ν 7)))], [((ad 12), .inl (T 0, 16, .inl (ν 8)))], [((ad 13), .inl (T 1, 8, .inl (bf (ν 9))))], [((ad 14), .inl (T 0, 4, .inl (ν 10)))], [((ad 15), .inl (T 1, 4, .inl (bf (ν 11))))], [((ad 16), .inl (T 0, 20, .inl (upd (ν 12) (tn (ν 15 0)) (nI (tn x)))))], [((ad 17), .inr (1, [.ref (ad 18), .int (ν 14 0), .int (ν 14 1)]))], [((ad 18), .inl (T 0, 32, .inl (ν 13)))]]) hx hb hK hP hD hS 16 (tn (ν 15 0)) rfl rfl (by omega) (by omega) dX3_injectWord_32 (fun H locs hP hD hS => ?_)
      refine lv_aload_n hx hb dX3_injectWord_33 rfl (lv_at hl 1 rfl) ?_
      refine lv_dup hx hb dX3_injectWord_34 rfl ?_
      refine va_get (D := D) (ci := 3) (v := .int (ν 15 0)) (C := RX3) (T := TX3) (N := 10) hx hb hts hinX3 hown hK (hP.at 0 rfl) 0 rfl rfl 8 (by decide) w_64 (fun _ h9 => h9) rfl dX3_injectWord_35 ?_
      refine fr_val hi.1 ?_
      refine lv_iconst (v := nI 1) hx hb dX3_injectWord_38 (by decide) ?_
      refine fr_iadd (tn (ν 15 0)) (1) hx hb dX3_injectWord_39 ?_
      refine fr_put (T := T) (C := RX3) (TT := TX3) (N := 10) (ci := 3) (v := .int (nI ((tn (ν 15 0) + 1)))) (fs' := [[((ad 0), .inr (3, [.ref (ad 1), .ref (ad 5), .ref (ad 9), .ref (ad 13), .ref (ad 14), .ref (ad 15), .ref (ad 16), .ref (ad 17), .int (nI ((tn (ν 15 0) + 1))), .int (ν 15 1)]))], [((ad 1), .inr (0, [.ref (ad 2), .ref (ad 3), .ref (ad 4)]))], [((ad 2), .inl (T 0, 32, .inl (ν 0)))], [((ad 3), .inl (T 0, 32, .inl (ν 1)))], [((ad 4), .inl (T 0, 32, .inl (ν 2)))], [((ad 5), .inr (0, [.ref (ad 6), .ref (ad 7), .ref (ad 8)]))], [((ad 6), .inl (T 0, 32, .inl (ν 3)))], [((ad 7), .inl (T 0, 32, .inl (ν 4)))], [((ad 8), .inl (T 0, 32, .inl (ν 5)))], [((ad 9), .inr (0, [.ref (ad 10), .ref (ad 11), .ref (ad 12)]))], [((ad 10), .inl (T 0, 16, .inl (ν 6)))], [((ad 11), .inl (T 0, 16, .inl (ν 7)))], [((ad 12), .inl (T 0, 16, .inl (ν 8)))], [((ad 13), .inl (T 1, 8, .inl (bf (ν 9))))], [((ad 14), .inl (T 0, 4, .inl (ν 10)))], [((ad 15), .inl (T 1, 4, .inl (bf (ν 11))))], [((ad 16), .inl (T 0, 20, .inl (upd (ν 12) (tn (ν 15 0)) (nI (tn x)))))], [((ad 17), .inr (1, [.ref (ad 18), .int (ν 14 0), .int (ν 14 1)]))], [((ad 18), .inl (T 0, 32, .inl (ν 13)))]]) (ty := .int) hx hb hts hinX3 tyX3 tyX3_ok nmX3 hown hK hP hD hS 0 rfl rfl 8 (by decide) rfl w_64 rfl rfl (by decide +kernel) rfl rfl (Nat.le_of_ble_eq_true rfl) dX3_injectWord_40 (fun H locs hP hD hS => ?_)
      refine lv_aload_n hx hb dX3_injectWord_43 rfl (lv_at hl 1 rfl) ?_
      refine va_get (D := D) (ci := 3) (v := .ref (ad 1)) (C := RX3) (T := TX3) (N := 10) hx hb hts hinX3 hown hK (hP.at 0 rfl) 0 rfl rfl 0 (by decide) w_14 (fun _ h9 => h9) rfl dX3_injectWord_44 ?_
      refine lv_iload_n hx hb dX3_injectWord_47 rfl (lv_at hl 2 rfl) ?_
      refine fr_val e_2 ?_
      refine lv_iload_n hx hb dX3_injectWord_48 rfl (lv_at hl 0 rfl) ?_
      refine lv_iconst (v := nI 0) hx hb dX3_injectWord_49 (by decide) ?_
      refine fr_Vv (As := [.int (nI (tn x)), .int (nI (tn (ν 15 0))), .int (nI 0)]) (rest := []) (fs' := [[((ad 0), .inr (3, [.ref (ad 1), .ref (ad 5), .ref (ad 9), .ref (ad 13), .ref (ad 14), .ref (ad 15), .ref (ad 16), .ref (ad 17), .int (nI ((tn (ν 15 0) + 1))), .int (ν 15 1)]))], [((ad 1), .inr (0, [.ref (ad 2), .ref (ad 3), .ref (ad 4)]))], [((ad 2), .inl (T 0, 32, .inl (ν 0)))], [((ad 3), .inl (T 0, 32, .inl (upd (ν 1) (tn x) (nI (tn (ν 15 0))))))], [((ad 4), .inl (T 0, 32, .inl (upd (ν 2) (tn x) (nI 0))))], [((ad 5), .inr (0, [.ref (ad 6), .ref (ad 7), .ref (ad 8)]))], [((ad 6), .inl (T 0, 32, .inl (ν 3)))], [((ad 7), .inl (T 0, 32, .inl (ν 4)))], [((ad 8), .inl (T 0, 32, .inl (ν 5)))], [((ad 9), .inr (0, [.ref (ad 10), .ref (ad 11), .ref (ad 12)]))], [((ad 10), .inl (T 0, 16, .inl (ν 6)))], [((ad 11), .inl (T 0, 16, .inl (ν 7)))], [((ad 12), .inl (T 0, 16, .inl (ν 8)))], [((ad 13), .inl (T 1, 8, .inl (bf (ν 9))))], [((ad 14), .inl (T 0, 4, .inl (ν 10)))], [((ad 15), .inl (T 1, 4, .inl (bf (ν 11))))], [((ad 16), .inl (T 0, 20, .inl (upd (ν 12) (tn (ν 15 0)) (nI (tn x)))))], [((ad 17), .inr (1, [.ref (ad 18), .int (ν 14 0), .int (ν 14 1)]))], [((ad 18), .inl (T 0, 32, .inl (ν 13)))]]) (ci := 0) (q0 := (RX0, TX0, 3)) (i0 := 1) ⟨hx, hb, hml, hown, hts⟩ (kX0_setMark l D T Z (ad 1) (ad 2) (ad 3) (ad 4) 32 (ν 0) (ν 1) (ν 2) (tn x) (nI (tn (ν 15 0))) (nI 0) (by omega) (by decide)) (cwV 3 hts gX3_injectWord_X0_setMark rfl rfl rfl (by decide +kernel) ⟨Nat.le_of_ble_eq_true rfl, Nat.le_of_ble_eq_true rfl⟩) hK hN hM hP hD hS hA [1, 2, 3, 4] rfl rfl rfl rfl rfl rfl hl.1 rfl (Nat.le_of_ble_eq_true rfl) dX3_injectWord_50 ⟨Nat.zero_le _, Nat.zero_le _⟩ (fun H locs hP hD hS => ?_)
      refine lv_iload_n hx hb dX3_injectWord_53 rfl (lv_at hl 0 rfl) ?_
      exact fr_iret hx hb hr hlk hP hS (by first | rfl | (simp only [r_inj, s_inj, c_1, c_3, c_3', ↓reduceIte, Bool.false_eq_true, bI_true, bI_false, Bool.true_and, Bool.and_true, Bool.and_false, Bool.false_and, Bool.not_true, Bool.not_false, Bool.or_true, Bool.true_or, Bool.or_false, Bool.false_or] <;> rfl) | (simp [r_inj, s_inj, c_1, c_3, c_3', bI]; done)) (congrArg (stF T ad) (show (up2 (up2 (up2 (up2 ν 1 (upd (ν 1) (tn x) (nI (tn (ν 15 0))))) 2 (upd (ν 2) (tn x) (nI 0))) 12 (upd (ν 12) (tn (ν 15 0)) (nI (tn x)))) 15 (upd (ν 15) 0 (nI ((tn (ν 15 0) + 1)))) : NS) = s_inj ν x from (by first | rfl | (simp only [r_inj, s_inj, c_1, c_3, c_3', ↓reduceIte, Bool.false_eq_true, bI_true, bI_false, Bool.true_and, Bool.and_true, Bool.and_false, Bool.false_and, Bool.not_true, Bool.not_false, Bool.or_true, Bool.true_or, Bool.or_false, Bool.false_or] <;> rfl) | (simp [r_inj, s_inj, c_1, c_3, c_3', bI]; done)))) dX3_injectWord_54
    · have c_3' := Nat.not_lt.mpr c_3
      refine lv_bipush (v := (-4)) hx hb dX3_injectWord_18 (by decide) ?_
      exact fr_iret hx hb hr hlk hP hS (by first | rfl | (simp only [r_inj, s_inj, c_1, c_3, c_3', ↓reduceIte, Bool.false_eq_true, bI_true, bI_false, Bool.true_and, Bool.and_true, Bool.and_false, Bool.false_and, Bool.not_true, Bool.not_false, Bool.or_true, Bool.true_or, Bool.or_false, Bool.false_or] <;> rfl) | (simp [r_inj, s_inj, c_1, c_3, c_3', bI]; done)) (congrArg (stF T ad) (show (ν : NS) = s_inj ν x from (by first | rfl | (simp only [r_inj, s_inj, c_1, c_3, c_3', ↓reduceIte, Bool.false_eq_true, bI_true, bI_false, Bool.true_and, Bool.and_true, Bool.and_false, Bool.false_and, Bool.not_true, Bool.not_false, Bool.or_true, Bool.true_or, Bool.or_false, Bool.false_or] <;> rfl) | (simp [r_inj, s_inj, c_1, c_3, c_3', bI]; done)))) dX3_injectWord_20
  · refine lv_iconst (v := (-1)) hx hb dX3_injectWord_7 (by decide) ?_
    exact fr_iret hx hb hr hlk hP hS (by first | rfl | (simp only [r_inj, s_inj, c_1, ↓reduceIte, Bool.false_eq_true, bI_true, bI_false, Bool.true_and, Bool.and_true, Bool.and_false, Bool.false_and, Bool.not_true, Bool.not_false, Bool.or_true, Bool.true_or, Bool.or_false, Bool.false_or] <;> rfl) | (simp [r_inj, s_inj, c_1, bI]; done)) (congrArg (stF T ad) (show (ν : NS) = s_inj ν x from (by first | rfl | (simp only [r_inj, s_inj, c_1, ↓reduceIte, Bool.false_eq_true, bI_true, bI_false, Bool.true_and, Bool.and_true, Bool.and_false, Bool.false_and, Bool.not_true, Bool.not_false, Bool.or_true, Bool.true_or, Bool.or_false, Bool.false_or] <;> rfl) | (simp [r_inj, s_inj, c_1, bI]; done)))) dX3_injectWord_8

set_option maxHeartbeats 8000000 in
set_option maxRecDepth 100000 in
theorem kX3_calculate (l : Launch) (D : va_G) (T : Nat → ClassId) (Z : ZZ) (q : Nat) (x : Int32) (y : Int32) (hq : q < 4) : CtI l D T Z yX3_calculate wsX3_calculate ({ frames := 0, cells := 0, slots := 0, locals := 0 }) ([] : List va_W) [.int (nI (q)), .int (x), .int (y)] (calq q x y) ([] : List va_W) := by
  refine CtI.of (cc := cX3_calculate) (maxL := 3) (ret := (some .int)) (plainFor_of_name (by decide)) rfl rfl ?_
  intro pP eE s mM bW mE cC A hE hK hN hM hP hD hA
  obtain ⟨hx, hb, hr, hts, hown, hml, hlk⟩ := hE
  have hown : s.vm.findClass RX3 = some mM.cls := hown
  have hS : va_S A s.heap s.heap [] := va_S.rf
  have hl := lv_entry ([.int (nI (q)), .int (x), .int (y)]) (n := 3) (Nat.le_of_ble_eq_true rfl)
  rw [lg_entry_eq]
  generalize (lg_sl ([.int (nI (q)), .int (x), .int (y)]) ++ List.replicate (3 - (lg_sl ([.int (nI (q)), .int (x), .int (y)])).length) Slot.unset).toArray = ls at hl ⊢
  have hl : lv_has ls 3 [(0, .int (nI (q))), (1, .int (x)), (2, .int (y))] := hl
  have w_170 := hts (.constant RX3 170 (65535)) (by decide +kernel)
  refine lv_iload_n hx hb dX3_calculate_0 rfl (lv_at hl 0 rfl) ?_
  rcases (show q = 0 ∨ q = 1 ∨ q = 2 ∨ q = 3 by omega) with rfl | rfl | rfl | rfl
  · refine lv_tableIn (off := 27) (tgt := 28) hx hb dX3_calculate_1 (by decide) (by decide) rfl (by decide) ?_
    refine lv_iload_n hx hb dX3_calculate_28 rfl (lv_at hl 1 rfl) ?_
    refine lv_iload_n hx hb dX3_calculate_29 rfl (lv_at hl 2 rfl) ?_
    refine lv_iadd hx hb dX3_calculate_30 ?_
    refine lv_ldc hx hb hown w_170 dX3_calculate_31 ?_
    refine fr_val (show (65535 : Int32) = nI 65535 from rfl) ?_
    refine lv_iand hx hb dX3_calculate_33 ?_
    exact fr_iret hx hb hr hlk hP hS rfl rfl dX3_calculate_34
  · refine lv_tableIn (off := 34) (tgt := 35) hx hb dX3_calculate_1 (by decide) (by decide) rfl (by decide) ?_
    refine lv_iload_n hx hb dX3_calculate_35 rfl (lv_at hl 1 rfl) ?_
    refine lv_iload_n hx hb dX3_calculate_36 rfl (lv_at hl 2 rfl) ?_
    refine lv_isub hx hb dX3_calculate_37 ?_
    refine lv_ldc hx hb hown w_170 dX3_calculate_38 ?_
    refine fr_val (show (65535 : Int32) = nI 65535 from rfl) ?_
    refine lv_iand hx hb dX3_calculate_40 ?_
    exact fr_iret hx hb hr hlk hP hS rfl rfl dX3_calculate_41
  · refine lv_tableIn (off := 41) (tgt := 42) hx hb dX3_calculate_1 (by decide) (by decide) rfl (by decide) ?_
    refine lv_iload_n hx hb dX3_calculate_42 rfl (lv_at hl 1 rfl) ?_
    refine lv_iload_n hx hb dX3_calculate_43 rfl (lv_at hl 2 rfl) ?_
    refine lv_ixor hx hb dX3_calculate_44 ?_
    exact fr_iret hx hb hr hlk hP hS rfl rfl dX3_calculate_45
  · refine lv_tableOut (tgt := 46) hx hb dX3_calculate_1 (by decide) (by decide) ?_
    refine lv_iload_n hx hb dX3_calculate_46 rfl (lv_at hl 1 rfl) ?_
    refine lv_iload_n hx hb dX3_calculate_47 rfl (lv_at hl 2 rfl) ?_
    refine lv_imul hx hb dX3_calculate_48 ?_
    refine lv_ldc hx hb hown w_170 dX3_calculate_49 ?_
    refine fr_val (show (65535 : Int32) = nI 65535 from rfl) ?_
    refine lv_iand hx hb dX3_calculate_51 ?_
    exact fr_iret hx hb hr hlk hP hS rfl rfl dX3_calculate_52

set_option maxHeartbeats 8000000 in
set_option maxRecDepth 100000 in
theorem kX3_clearPoisoned (l : Launch) (D : va_G) (T : Nat → ClassId) (Z : ZZ) (ad : Nat → Nat) (ν : NS) (k : Nat) (hk : k < 16) : CtV l D T Z yX3_clearPoisoned wsX3_clearPoisoned ({ frames := 2, cells := 0, slots := 0, locals := 45 }) (stF T ad ν) [.ref (ad 0), .int (nI (k))] (stF T ad (c_clp ν k)) := by
  refine CtV.of (cc := cX3_clearPoisoned) (maxL := 2) (ret := none) (plainFor_of_name (by decide)) rfl rfl ?_
  intro pP eE s mM bW mE cC A hE hK hN hM hP hD hA
  obtain ⟨hx, hb, hr, hts, hown, hml, hlk⟩ := hE
  have hown : s.vm.findClass RX3 = some mM.cls := hown
  have hP : frP D [[((ad 0), .inr (3, [.ref (ad 1), .ref (ad 5), .ref (ad 9), .ref (ad 13), .ref (ad 14), .ref (ad 15), .ref (ad 16), .ref (ad 17), .int (ν 15 0), .int (ν 15 1)]))], [((ad 1), .inr (0, [.ref (ad 2), .ref (ad 3), .ref (ad 4)]))], [((ad 2), .inl (T 0, 32, .inl (ν 0)))], [((ad 3), .inl (T 0, 32, .inl (ν 1)))], [((ad 4), .inl (T 0, 32, .inl (ν 2)))], [((ad 5), .inr (0, [.ref (ad 6), .ref (ad 7), .ref (ad 8)]))], [((ad 6), .inl (T 0, 32, .inl (ν 3)))], [((ad 7), .inl (T 0, 32, .inl (ν 4)))], [((ad 8), .inl (T 0, 32, .inl (ν 5)))], [((ad 9), .inr (0, [.ref (ad 10), .ref (ad 11), .ref (ad 12)]))], [((ad 10), .inl (T 0, 16, .inl (ν 6)))], [((ad 11), .inl (T 0, 16, .inl (ν 7)))], [((ad 12), .inl (T 0, 16, .inl (ν 8)))], [((ad 13), .inl (T 1, 8, .inl (bf (ν 9))))], [((ad 14), .inl (T 0, 4, .inl (ν 10)))], [((ad 15), .inl (T 1, 4, .inl (bf (ν 11))))], [((ad 16), .inl (T 0, 20, .inl (ν 12)))], [((ad 17), .inr (1, [.ref (ad 18), .int (ν 14 0), .int (ν 14 1)]))], [((ad 18), .inl (T 0, 32, .inl (ν 13)))]] s.heap := hP
  have hD : va_D A ([[((ad 0), .inr (3, [.ref (ad 1), .ref (ad 5), .ref (ad 9), .ref (ad 13), .ref (ad 14), .ref (ad 15), .ref (ad 16), .ref (ad 17), .int (ν 15 0), .int (ν 15 1)]))], [((ad 1), .inr (0, [.ref (ad 2), .ref (ad 3), .ref (ad 4)]))], [((ad 2), .inl (T 0, 32, .inl (ν 0)))], [((ad 3), .inl (T 0, 32, .inl (ν 1)))], [((ad 4), .inl (T 0, 32, .inl (ν 2)))], [((ad 5), .inr (0, [.ref (ad 6), .ref (ad 7), .ref (ad 8)]))], [((ad 6), .inl (T 0, 32, .inl (ν 3)))], [((ad 7), .inl (T 0, 32, .inl (ν 4)))], [((ad 8), .inl (T 0, 32, .inl (ν 5)))], [((ad 9), .inr (0, [.ref (ad 10), .ref (ad 11), .ref (ad 12)]))], [((ad 10), .inl (T 0, 16, .inl (ν 6)))], [((ad 11), .inl (T 0, 16, .inl (ν 7)))], [((ad 12), .inl (T 0, 16, .inl (ν 8)))], [((ad 13), .inl (T 1, 8, .inl (bf (ν 9))))], [((ad 14), .inl (T 0, 4, .inl (ν 10)))], [((ad 15), .inl (T 1, 4, .inl (bf (ν 11))))], [((ad 16), .inl (T 0, 20, .inl (ν 12)))], [((ad 17), .inr (1, [.ref (ad 18), .int (ν 14 0), .int (ν 14 1)]))], [((ad 18), .inl (T 0, 32, .inl (ν 13)))]] : List va_W).flatten := hD
  have hS : va_S A s.heap s.heap [] := va_S.rf
  have hl := lv_entry ([.ref (ad 0), .int (nI (k))]) (n := 2) (Nat.le_of_ble_eq_true rfl)
  rw [lg_entry_eq]
  generalize (lg_sl ([.ref (ad 0), .int (nI (k))]) ++ List.replicate (2 - (lg_sl ([.ref (ad 0), .int (nI (k))])).length) Slot.unset).toArray = ls at hl ⊢
  have hl : lv_has ls 2 [(0, .ref (ad 0)), (1, .int (nI (k)))] := hl
  have w_23 := hts (.fieldLink RX3 23 "PoisonedMemory$State" "registers" "LPoisonedMemory$Cells;") (by decide +kernel)
  have hinX3 : ∀ w ∈ wsX30, w ∈ wsX3_clearPoisoned := by decide +kernel
  refine lv_aload_n hx hb dX3_clearPoisoned_0 rfl (lv_at hl 0 rfl) ?_
  refine va_get (D := D) (ci := 3) (v := .ref (ad 9)) (C := RX3) (T := TX3) (N := 10) hx hb hts hinX3 hown hK (hP.at 0 rfl) 0 rfl rfl 2 (by decide) w_23 (fun _ h9 => h9) rfl dX3_clearPoisoned_1 ?_
  refine lv_iload_n hx hb dX3_clearPoisoned_4 rfl (lv_at hl 1 rfl) ?_
  refine fr_Vi (As := [.int (nI (k))]) (rest := []) (fs' := [[((ad 0), .inr (3, [.ref (ad 1), .ref (ad 5), .ref (ad 9), .ref (ad 13), .ref (ad 14), .ref (ad 15), .ref (ad 16), .ref (ad 17), .int (ν 15 0), .int (ν 15 1)]))], [((ad 1), .inr (0, [.ref (ad 2), .ref (ad 3), .ref (ad 4)]))], [((ad 2), .inl (T 0, 32, .inl (ν 0)))], [((ad 3), .inl (T 0, 32, .inl (ν 1)))], [((ad 4), .inl (T 0, 32, .inl (ν 2)))], [((ad 5), .inr (0, [.ref (ad 6), .ref (ad 7), .ref (ad 8)]))], [((ad 6), .inl (T 0, 32, .inl (ν 3)))], [((ad 7), .inl (T 0, 32, .inl (ν 4)))], [((ad 8), .inl (T 0, 32, .inl (ν 5)))], [((ad 9), .inr (0, [.ref (ad 10), .ref (ad 11), .ref (ad 12)]))], [((ad 10), .inl (T 0, 16, .inl (ν 6)))], [((ad 11), .inl (T 0, 16, .inl (ν 7)))], [((ad 12), .inl (T 0, 16, .inl (ν 8)))], [((ad 13), .inl (T 1, 8, .inl (bf (ν 9))))], [((ad 14), .inl (T 0, 4, .inl (ν 10)))], [((ad 15), .inl (T 1, 4, .inl (bf (ν 11))))], [((ad 16), .inl (T 0, 20, .inl (ν 12)))], [((ad 17), .inr (1, [.ref (ad 18), .int (ν 14 0), .int (ν 14 1)]))], [((ad 18), .inl (T 0, 32, .inl (ν 13)))]]) (ci := 0) (q0 := (RX0, TX0, 3)) (i0 := 9) ⟨hx, hb, hml, hown, hts⟩ (kX0_isPoisoned l D T Z (ad 9) (ad 10) (ad 11) (ad 12) 16 (ν 6) (ν 7) (ν 8) k (by omega) (by decide)) (cwV 1 hts gX3_clearPoisoned_X0_isPoisoned rfl rfl rfl (by decide +kernel) ⟨Nat.le_of_ble_eq_true rfl, Nat.le_of_ble_eq_true rfl⟩) hK hN hM hP hD hS hA [9, 10, 11, 12] rfl rfl rfl rfl rfl rfl hl.1 rfl (Nat.le_of_ble_eq_true rfl) dX3_clearPoisoned_5 ⟨Nat.zero_le _, Nat.zero_le _⟩ (fun H locs hP hD hS => ?_)
  refine fr_ifeq_b (tgt := 20) hx hb dX3_clearPoisoned_8 (by decide) (fun c_1 => ?_) (fun c_1 => ?_)
  · exact fr_vret hx hb hr hlk hP hS (congrArg (stF T ad) (show (ν : NS) = c_clp ν k from (by first | rfl | (simp only [c_clp, c_cleanR, c_1, ↓reduceIte, Bool.false_eq_true, bI_true, bI_false, Bool.true_and, Bool.and_true, Bool.and_false, Bool.false_and, Bool.not_true, Bool.not_false, Bool.or_true, Bool.true_or, Bool.or_false, Bool.false_or] <;> rfl) | (simp [c_clp, c_cleanR, c_1, bI]; done)))) dX3_clearPoisoned_20
  · refine lv_aload_n hx hb dX3_clearPoisoned_11 rfl (lv_at hl 0 rfl) ?_
    refine va_get (D := D) (ci := 3) (v := .ref (ad 9)) (C := RX3) (T := TX3) (N := 10) hx hb hts hinX3 hown hK (hP.at 0 rfl) 0 rfl rfl 2 (by decide) w_23 (fun _ h9 => h9) rfl dX3_clearPoisoned_12 ?_
    refine lv_iload_n hx hb dX3_clearPoisoned_15 rfl (lv_at hl 1 rfl) ?_
    refine lv_iconst (v := nI 0) hx hb dX3_clearPoisoned_16 (by decide) ?_
    refine fr_Vv (As := [.int (nI (k)), .int (nI 0)]) (rest := []) (fs' := [[((ad 0), .inr (3, [.ref (ad 1), .ref (ad 5), .ref (ad 9), .ref (ad 13), .ref (ad 14), .ref (ad 15), .ref (ad 16), .ref (ad 17), .int (ν 15 0), .int (ν 15 1)]))], [((ad 1), .inr (0, [.ref (ad 2), .ref (ad 3), .ref (ad 4)]))], [((ad 2), .inl (T 0, 32, .inl (ν 0)))], [((ad 3), .inl (T 0, 32, .inl (ν 1)))], [((ad 4), .inl (T 0, 32, .inl (ν 2)))], [((ad 5), .inr (0, [.ref (ad 6), .ref (ad 7), .ref (ad 8)]))], [((ad 6), .inl (T 0, 32, .inl (ν 3)))], [((ad 7), .inl (T 0, 32, .inl (ν 4)))], [((ad 8), .inl (T 0, 32, .inl (ν 5)))], [((ad 9), .inr (0, [.ref (ad 10), .ref (ad 11), .ref (ad 12)]))], [((ad 10), .inl (T 0, 16, .inl (upd (ν 6) k (nI 0))))], [((ad 11), .inl (T 0, 16, .inl (upd (ν 7) k (-6))))], [((ad 12), .inl (T 0, 16, .inl (upd (ν 8) k (-6))))], [((ad 13), .inl (T 1, 8, .inl (bf (ν 9))))], [((ad 14), .inl (T 0, 4, .inl (ν 10)))], [((ad 15), .inl (T 1, 4, .inl (bf (ν 11))))], [((ad 16), .inl (T 0, 20, .inl (ν 12)))], [((ad 17), .inr (1, [.ref (ad 18), .int (ν 14 0), .int (ν 14 1)]))], [((ad 18), .inl (T 0, 32, .inl (ν 13)))]]) (ci := 0) (q0 := (RX0, TX0, 3)) (i0 := 9) ⟨hx, hb, hml, hown, hts⟩ (kX0_setClean l D T Z (ad 9) (ad 10) (ad 11) (ad 12) 16 (ν 6) (ν 7) (ν 8) k (nI 0) (by omega) (by decide)) (cwV 2 hts gX3_clearPoisoned_X0_setClean rfl rfl rfl (by decide +kernel) ⟨Nat.le_of_ble_eq_true rfl, Nat.le_of_ble_eq_true rfl⟩) hK hN hM hP hD hS hA [9, 10, 11, 12] rfl rfl rfl rfl rfl rfl hl.1 rfl (Nat.le_of_ble_eq_true rfl) dX3_clearPoisoned_17 ⟨Nat.zero_le _, Nat.zero_le _⟩ (fun H locs hP hD hS => ?_)
    exact fr_vret hx hb hr hlk hP hS (congrArg (stF T ad) (show (up2 (up2 (up2 ν 6 (upd (ν 6) k (nI 0))) 7 (upd (ν 7) k (-6))) 8 (upd (ν 8) k (-6)) : NS) = c_clp ν k from (by first | rfl | (simp only [c_clp, c_cleanR, c_1, ↓reduceIte, Bool.false_eq_true, bI_true, bI_false, Bool.true_and, Bool.and_true, Bool.and_false, Bool.false_and, Bool.not_true, Bool.not_false, Bool.or_true, Bool.true_or, Bool.or_false, Bool.false_or] <;> rfl) | (simp [c_clp, c_cleanR, c_1, bI]; done)))) dX3_clearPoisoned_20
