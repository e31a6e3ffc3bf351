
set_option maxHeartbeats 8000000 in
set_option maxRecDepth 100000 in
theorem kX1_add (l : Launch) (D : va_G) (T : Nat → ClassId) (Z : ZZ) (a0 : Nat) (a1 : Nat) (hd : Int32) (f : Int32) (rw : Nat → Int32) (x : Int32) (y : Int32) (z : Int32) (w : Int32) (hhd : WH hd 8) : CtV l D T Z yX1_add wsX1_add ({ frames := 1, cells := 0, slots := 0, locals := 18 }) [[(a0, .inr (1, [.ref a1, .int (hd), .int (f)]))], [(a1, .inl (T 0, 32, .inl (rw)))]] [.ref a0, .int (x), .int (y), .int (z), .int (w)] [[(a0, .inr (1, [.ref a1, .int (nI (min (tn hd + 1) 8)), .int (f + nI 1)]))], [(a1, .inl (T 0, 32, .inl (rowsAdd rw x y z w)))]] := by
  have hhd2 := hhd.2
  refine CtV.of (cc := cX1_add) (maxL := 5) (ret := none) (plainFor_of_name (by decide)) rfl rfl ?_
  intro pP eE s mM bW mE cC A hE hK hN hM hP hD hA
  obtain ⟨hx, hb, hr, hts, hown, hml, hlk⟩ := hE
  have hown : s.vm.findClass RX1 = some mM.cls := hown
  have hS : va_S A s.heap s.heap [] := va_S.rf
  have hl := lv_entry ([.ref a0, .int (x), .int (y), .int (z), .int (w)]) (n := 5) (Nat.le_of_ble_eq_true rfl)
  rw [lg_entry_eq]
  generalize (lg_sl ([.ref a0, .int (x), .int (y), .int (z), .int (w)]) ++ List.replicate (5 - (lg_sl ([.ref a0, .int (x), .int (y), .int (z), .int (w)])).length) Slot.unset).toArray = ls at hl ⊢
  have hl : lv_has ls 5 [(0, .ref a0), (1, .int (x)), (2, .int (y)), (3, .int (z)), (4, .int (w))] := hl
  have w_9 := hts (.fieldLink RX1 9 "PoisonedMemory$FaultLog" "rows" "[I") (by decide +kernel)
  have hinX1 : ∀ w ∈ wsX10, w ∈ wsX1_add := by decide +kernel
  have w_15 := hts (.methodLink RX1 15 arraycopyName) (by decide +kernel)
  have w_acn := hts (.native arraycopyName) (by decide +kernel)
  have w_acs := hts (.static arraycopyName) (by decide +kernel)
  have w_sysini := hts (.initialized "java/lang/System") (by decide +kernel)
  have w_21 := hts (.fieldLink RX1 21 "PoisonedMemory$FaultLog" "held" "I") (by decide +kernel)
  have w_25 := hts (.methodLink RX1 25 Lib.Math.min.name) (by decide +kernel)
  have w_25st := hts (.static Lib.Math.min.name) (by decide +kernel)
  have w_mathini := hts (.initialized "java/lang/Math") (by decide +kernel)
  have w_25co := hts (.code Lib.Math.min.name Lib.Math.min.code 2 (some .int)) (by decide +kernel)
  have w_31 := hts (.fieldLink RX1 31 "PoisonedMemory$FaultLog" "faults" "I") (by decide +kernel)
  refine lv_aload_n hx hb dX1_add_0 rfl (lv_at hl 0 rfl) ?_
  refine va_get (D := D) (ci := 1) (v := .ref a1) (C := RX1) (T := TX1) (N := 3) hx hb hts hinX1 hown hK (hP.at 0 rfl) 0 rfl rfl 0 (by decide) w_9 (fun _ h9 => h9) rfl dX1_add_1 ?_
  refine lv_iconst (v := nI 0) hx hb dX1_add_4 (by decide) ?_
  refine lv_aload_n hx hb dX1_add_5 rfl (lv_at hl 0 rfl) ?_
  refine va_get (D := D) (ci := 1) (v := .ref a1) (C := RX1) (T := TX1) (N := 3) hx hb hts hinX1 hown hK (hP.at 0 rfl) 0 rfl rfl 0 (by decide) w_9 (fun _ h9 => h9) rfl dX1_add_6 ?_
  refine lv_iconst (v := nI 4) hx hb dX1_add_9 (by decide) ?_
  refine lv_aload_n hx hb dX1_add_10 rfl (lv_at hl 0 rfl) ?_
  refine va_get (D := D) (ci := 1) (v := .ref a1) (C := RX1) (T := TX1) (N := 3) hx hb hts hinX1 hown hK (hP.at 0 rfl) 0 rfl rfl 0 (by decide) w_9 (fun _ h9 => h9) rfl dX1_add_11 ?_
  refine va_alen (v := nI (32)) hx hb hK (hP.at 1 rfl) 0 0 rfl rfl rfl dX1_add_14 ?_
  refine lv_iconst (v := nI 4) hx hb dX1_add_15 (by decide) ?_
  refine fr_isub (32) (4) (by omega) hx hb dX1_add_16 ?_
  refine fr_pcopy (fs' := [[(a0, .inr (1, [.ref a1, .int (hd), .int (f)]))], [(a1, .inl (T 0, 32, .inl (va_cpy rw rw 0 4 28)))]]) hx hb (hml.trans hl.1.symm) hown w_15 w_acn w_acs w_sysini hK hP hD hS 1 1 0 4 28 rfl rfl rfl (by omega) (by omega) (by omega) (by omega) (by omega) (Nat.le_of_ble_eq_true rfl) (by decide) dX1_add_17 (fun H locs hP hD hS => ?_)
  refine lv_aload_n hx hb dX1_add_20 rfl (lv_at hl 0 rfl) ?_
  refine va_get (D := D) (ci := 1) (v := .ref a1) (C := RX1) (T := TX1) (N := 3) hx hb hts hinX1 hown hK (hP.at 0 rfl) 0 rfl rfl 0 (by decide) w_9 (fun _ h9 => h9) rfl dX1_add_21 ?_
  refine lv_iconst (v := nI 0) hx hb dX1_add_24 (by decide) ?_
  refine lv_iload_n hx hb dX1_add_25 rfl (lv_at hl 1 rfl) ?_
  refine fr_iast (fs' := [[(a0, .inr (1, [.ref a1, .int (hd), .int (f)]))], [(a1, .inl (T 0, 32, .inl (upd (va_cpy rw rw 0 4 28) 0 x)))]]) hx hb hK hP hD hS 1 (0) rfl rfl (by decide) (by decide) dX1_add_26 (fun H locs hP hD hS => ?_)
  refine lv_aload_n hx hb dX1_add_27 rfl (lv_at hl 0 rfl) ?_
  refine va_get (D := D) (ci := 1) (v := .ref a1) (C := RX1) (T := TX1) (N := 3) hx hb hts hinX1 hown hK (hP.at 0 rfl) 0 rfl rfl 0 (by decide) w_9 (fun _ h9 => h9) rfl dX1_add_28 ?_
  refine lv_iconst (v := nI 1) hx hb dX1_add_31 (by decide) ?_
  refine lv_iload_n hx hb dX1_add_32 rfl (lv_at hl 2 rfl) ?_
  refine fr_iast (fs' := [[(a0, .inr (1, [.ref a1, .int (hd), .int (f)]))], [(a1, .inl (T 0, 32, .inl (upd (upd (va_cpy rw rw 0 4 28) 0 x) 1 y)))]]) hx hb hK hP hD hS 1 (1) rfl rfl (by decide) (by decide) dX1_add_33 (fun H locs hP hD hS => ?_)
  refine lv_aload_n hx hb dX1_add_34 rfl (lv_at hl 0 rfl) ?_
  refine va_get (D := D) (ci := 1) (v := .ref a1) (C := RX1) (T := TX1) (N := 3) hx hb hts hinX1 hown hK (hP.at 0 rfl) 0 rfl rfl 0 (by decide) w_9 (fun _ h9 => h9) rfl dX1_add_35 ?_
  refine lv_iconst (v := nI 2) hx hb dX1_add_38 (by decide) ?_
  refine lv_iload_n hx hb dX1_add_39 rfl (lv_at hl 3 rfl) ?_
  refine fr_iast (fs' := [[(a0, .inr (1, [.ref a1, .int (hd), .int (f)]))], [(a1, .inl (T 0, 32, .inl (upd (upd (upd (va_cpy rw rw 0 4 28) 0 x) 1 y) 2 z)))]]) hx hb hK hP hD hS 1 (2) rfl rfl (by decide) (by decide) dX1_add_40 (fun H locs hP hD hS => ?_)
  refine lv_aload_n hx hb dX1_add_41 rfl (lv_at hl 0 rfl) ?_
  refine va_get (D := D) (ci := 1) (v := .ref a1) (C := RX1) (T := TX1) (N := 3) hx hb hts hinX1 hown hK (hP.at 0 rfl) 0 rfl rfl 0 (by decide) w_9 (fun _ h9 => h9) rfl dX1_add_42 ?_
  refine lv_iconst (v := nI 3) hx hb dX1_add_45 (by decide) ?_
  refine lv_iload hx hb dX1_add_46 (lv_at hl 4 rfl) ?_
  refine fr_iast (fs' := [[(a0, .inr (1, [.ref a1, .int (hd), .int (f)]))], [(a1, .inl (T 0, 32, .inl (upd (upd (upd (upd (va_cpy rw rw 0 4 28) 0 x) 1 y) 2 z) 3 w)))]]) hx hb hK hP hD hS 1 (3) rfl rfl (by decide) (by decide) dX1_add_48 (fun H locs hP hD hS => ?_)
  refine lv_aload_n hx hb dX1_add_49 rfl (lv_at hl 0 rfl) ?_
  refine lv_aload_n hx hb dX1_add_50 rfl (lv_at hl 0 rfl) ?_
  refine va_get (D := D) (ci := 1) (v := .int (hd)) (C := RX1) (T := TX1) (N := 3) hx hb hts hinX1 hown hK (hP.at 0 rfl) 0 rfl rfl 1 (by decide) w_21 (fun _ h9 => h9) rfl dX1_add_51 ?_
  refine fr_val hhd.1 ?_
  refine lv_iconst (v := nI 1) hx hb dX1_add_54 (by decide) ?_
  refine fr_iadd (tn hd) (1) hx hb dX1_add_55 ?_
  refine lv_bipush (v := nI 8) hx hb dX1_add_56 (by decide) ?_
  refine va_mmin hx hb (hml.trans hl.1.symm) hown w_25 w_25st w_mathini w_25co (Nat.le_of_ble_eq_true rfl) (Nat.le_of_ble_eq_true rfl) (Nat.zero_le _) (Nat.zero_le _) dX1_add_58 ?_
  refine fr_val (mm_nI (by omega) (by decide)) ?_
  refine fr_put (T := T) (C := RX1) (TT := TX1) (N := 3) (ci := 1) (v := .int (nI (min (tn hd + 1) 8))) (fs' := [[(a0, .inr (1, [.ref a1, .int (nI (min (tn hd + 1) 8)), .int (f)]))], [(a1, .inl (T 0, 32, .inl (upd (upd (upd (upd (va_cpy rw rw 0 4 28) 0 x) 1 y) 2 z) 3 w)))]]) (ty := .int) hx hb hts hinX1 tyX1 tyX1_ok nmX1 hown hK hP hD hS 0 rfl rfl 1 (by decide) rfl w_21 rfl rfl (by decide +kernel) rfl rfl (Nat.le_of_ble_eq_true rfl) dX1_add_61 (fun H locs hP hD hS => ?_)
  refine lv_aload_n hx hb dX1_add_64 rfl (lv_at hl 0 rfl) ?_
  refine lv_dup hx hb dX1_add_65 rfl ?_
  refine va_get (D := D) (ci := 1) (v := .int (f)) (C := RX1) (T := TX1) (N := 3) hx hb hts hinX1 hown hK (hP.at 0 rfl) 0 rfl rfl 2 (by decide) w_31 (fun _ h9 => h9) rfl dX1_add_66 ?_
  refine lv_iconst (v := nI 1) hx hb dX1_add_69 (by decide) ?_
  refine lv_iadd hx hb dX1_add_70 ?_
  refine fr_put (T := T) (C := RX1) (TT := TX1) (N := 3) (ci := 1) (v := .int (f + (nI 1))) (fs' := [[(a0, .inr (1, [.ref a1, .int (nI (min (tn hd + 1) 8)), .int (f + (nI 1))]))], [(a1, .inl (T 0, 32, .inl (upd (upd (upd (upd (va_cpy rw rw 0 4 28) 0 x) 1 y) 2 z) 3 w)))]]) (ty := .int) hx hb hts hinX1 tyX1 tyX1_ok nmX1 hown hK hP hD hS 0 rfl rfl 2 (by decide) rfl w_31 rfl rfl (by decide +kernel) rfl rfl (Nat.le_of_ble_eq_true rfl) dX1_add_71 (fun H locs hP hD hS => ?_)
  exact fr_vret hx hb hr hlk hP hS (by first | rfl | (simp only [↓reduceIte, Bool.false_eq_true, bI_true, bI_false, Bool.true_and, Bool.and_true, Bool.and_false, Bool.false_and, Bool.not_true, Bool.not_false, Bool.or_true, Bool.true_or, Bool.or_false, Bool.false_or] <;> rfl) | (simp [bI]; done)) dX1_add_74

set_option maxHeartbeats 8000000 in
set_option maxRecDepth 100000 in
theorem kX1_become (l : Launch) (D : va_G) (T : Nat → ClassId) (Z : ZZ) (a0 : Nat) (a1 : Nat) (hd : Int32) (f : Int32) (rw : Nat → Int32) (b0 : Nat) (b1 : Nat) (hd2 : Int32) (f2 : Int32) (rw2 : Nat → Int32)  : CtV l D T Z yX1_become wsX1_become ({ frames := 1, cells := 0, slots := 0, locals := 18 }) [[(a0, .inr (1, [.ref a1, .int (hd), .int (f)]))], [(a1, .inl (T 0, 32, .inl (rw)))], [(b0, .inr (1, [.ref b1, .int (hd2), .int (f2)]))], [(b1, .inl (T 0, 32, .inl (rw2)))]] [.ref a0, .ref b0] [[(a0, .inr (1, [.ref a1, .int (hd2), .int (f2)]))], [(a1, .inl (T 0, 32, .inl (rw2)))], [(b0, .inr (1, [.ref b1, .int (hd2), .int (f2)]))], [(b1, .inl (T 0, 32, .inl (rw2)))]] := by
  refine CtV.of (cc := cX1_become) (maxL := 2) (ret := none) (plainFor_of_name (by decide)) rfl rfl ?_
  intro pP eE s mM bW mE cC A hE hK hN hM hP hD hA
  obtain ⟨hx, hb, hr, hts, hown, hml, hlk⟩ := hE
  have hown : s.vm.findClass RX1 = some mM.cls := hown
  have hS : va_S A s.heap s.heap [] := va_S.rf
  have hl := lv_entry ([.ref a0, .ref b0]) (n := 2) (Nat.le_of_ble_eq_true rfl)
  rw [lg_entry_eq]
  generalize (lg_sl ([.ref a0, .ref b0]) ++ List.replicate (2 - (lg_sl ([.ref a0, .ref b0])).length) Slot.unset).toArray = ls at hl ⊢
  have hl : lv_has ls 2 [(0, .ref a0), (1, .ref b0)] := hl
  have w_9 := hts (.fieldLink RX1 9 "PoisonedMemory$FaultLog" "rows" "[I") (by decide +kernel)
  have hinX1 : ∀ w ∈ wsX10, w ∈ wsX1_become := by decide +kernel
  have w_15 := hts (.methodLink RX1 15 arraycopyName) (by decide +kernel)
  have w_acn := hts (.native arraycopyName) (by decide +kernel)
  have w_acs := hts (.static arraycopyName) (by decide +kernel)
  have w_sysini := hts (.initialized "java/lang/System") (by decide +kernel)
  have w_21 := hts (.fieldLink RX1 21 "PoisonedMemory$FaultLog" "held" "I") (by decide +kernel)
  have w_31 := hts (.fieldLink RX1 31 "PoisonedMemory$FaultLog" "faults" "I") (by decide +kernel)
  refine lv_aload_n hx hb dX1_become_0 rfl (lv_at hl 1 rfl) ?_
  refine va_get (D := D) (ci := 1) (v := .ref b1) (C := RX1) (T := TX1) (N := 3) hx hb hts hinX1 hown hK (hP.at 2 rfl) 0 rfl rfl 0 (by decide) w_9 (fun _ h9 => h9) rfl dX1_become_1 ?_
  refine lv_iconst (v := nI 0) hx hb dX1_become_4 (by decide) ?_
  refine lv_aload_n hx hb dX1_become_5 rfl (lv_at hl 0 rfl) ?_
  refine va_get (D := D) (ci := 1) (v := .ref a1) (C := RX1) (T := TX1) (N := 3) hx hb hts hinX1 hown hK (hP.at 0 rfl) 0 rfl rfl 0 (by decide) w_9 (fun _ h9 => h9) rfl dX1_become_6 ?_
  refine lv_iconst (v := nI 0) hx hb dX1_become_9 (by decide) ?_
  refine lv_aload_n hx hb dX1_become_10 rfl (lv_at hl 0 rfl) ?_
  refine va_get (D := D) (ci := 1) (v := .ref a1) (C := RX1) (T := TX1) (N := 3) hx hb hts hinX1 hown hK (hP.at 0 rfl) 0 rfl rfl 0 (by decide) w_9 (fun _ h9 => h9) rfl dX1_become_11 ?_
  refine va_alen (v := nI (32)) hx hb hK (hP.at 1 rfl) 0 0 rfl rfl rfl dX1_become_14 ?_
  refine fr_acopy (fs' := [[(a0, .inr (1, [.ref a1, .int (hd), .int (f)]))], [(a1, .inl (T 0, 32, .inl (rw2)))], [(b0, .inr (1, [.ref b1, .int (hd2), .int (f2)]))], [(b1, .inl (T 0, 32, .inl (rw2)))]]) (ty := .int) hx hb (hml.trans hl.1.symm) hown w_15 w_acn w_acs w_sysini hK hP hD hS 3 1 0 32 rfl rfl rfl rfl (fun _ _ => rfl) (by omega) (by decide) (Nat.le_of_ble_eq_true rfl) (by decide) dX1_become_15 (fun H locs hP hD hS => ?_)
  refine lv_aload_n hx hb dX1_become_18 rfl (lv_at hl 0 rfl) ?_
  refine lv_aload_n hx hb dX1_become_19 rfl (lv_at hl 1 rfl) ?_
  refine va_get (D := D) (ci := 1) (v := .int (hd2)) (C := RX1) (T := TX1) (N := 3) hx hb hts hinX1 hown hK (hP.at 2 rfl) 0 rfl rfl 1 (by decide) w_21 (fun _ h9 => h9) rfl dX1_become_20 ?_
  refine fr_put (T := T) (C := RX1) (TT := TX1) (N := 3) (ci := 1) (v := .int (hd2)) (fs' := [[(a0, .inr (1, [.ref a1, .int (hd2), .int (f)]))], [(a1, .inl (T 0, 32, .inl (rw2)))], [(b0, .inr (1, [.ref b1, .int (hd2), .int (f2)]))], [(b1, .inl (T 0, 32, .inl (rw2)))]]) (ty := .int) hx hb hts hinX1 tyX1 tyX1_ok nmX1 hown hK hP hD hS 0 rfl rfl 1 (by decide) rfl w_21 rfl rfl (by decide +kernel) rfl rfl (Nat.le_of_ble_eq_true rfl) dX1_become_23 (fun H locs hP hD hS => ?_)
  refine lv_aload_n hx hb dX1_become_26 rfl (lv_at hl 0 rfl) ?_
  refine lv_aload_n hx hb dX1_become_27 rfl (lv_at hl 1 rfl) ?_
  refine va_get (D := D) (ci := 1) (v := .int (f2)) (C := RX1) (T := TX1) (N := 3) hx hb hts hinX1 hown hK (hP.at 2 rfl) 0 rfl rfl 2 (by decide) w_31 (fun _ h9 => h9) rfl dX1_become_28 ?_
  refine fr_put (T := T) (C := RX1) (TT := TX1) (N := 3) (ci := 1) (v := .int (f2)) (fs' := [[(a0, .inr (1, [.ref a1, .int (hd2), .int (f2)]))], [(a1, .inl (T 0, 32, .inl (rw2)))], [(b0, .inr (1, [.ref b1, .int (hd2), .int (f2)]))], [(b1, .inl (T 0, 32, .inl (rw2)))]]) (ty := .int) hx hb hts hinX1 tyX1 tyX1_ok nmX1 hown hK hP hD hS 0 rfl rfl 2 (by decide) rfl w_31 rfl rfl (by decide +kernel) rfl rfl (Nat.le_of_ble_eq_true rfl) dX1_become_31 (fun H locs hP hD hS => ?_)
  exact fr_vret hx hb hr hlk hP hS rfl dX1_become_34
