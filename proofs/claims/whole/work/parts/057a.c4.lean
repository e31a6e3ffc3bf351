
set_option maxHeartbeats 8000000 in
set_option maxRecDepth 100000 in
theorem kX4_rewind (l : Launch) (D : va_G) (T : Nat → ClassId) (Z : ZZ) (td : Nat → Nat) (ch : Nat → Nat) (len : Nat) (kd : Nat) (q : Q4)  : CtV l D T Z yX4_rewind wsX4_rewind ({ frames := 0, cells := 0, slots := 0, locals := 0 }) (teF T td ch len kd q) [.ref (td 0)] (teF T td ch len kd (0, q.2)) := by
  refine CtV.of (cc := cX4_rewind) (maxL := 1) (ret := none) (plainFor_of_name (by decide)) rfl rfl ?_
  intro pP eE s mM bW mE cC A hE hK hN hM hP hD hA
  obtain ⟨hx, hb, hr, hts, hown, hml, hlk⟩ := hE
  have hown : s.vm.findClass RX4 = some mM.cls := hown
  have hP : frP D [[((td 0), .inr (4, [.ref (td 1), .int (nI (len)), .int (nI (q.1)), .int (nI (kd)), .ref (td 2), .int (nI (q.2.2))]))], [((td 1), .inl (T 2, 90, .inl (nf ch)))], [((td 2), .inl (T 0, 5, .inl (nf q.2.1)))]] s.heap := hP
  have hD : va_D A ([[((td 0), .inr (4, [.ref (td 1), .int (nI (len)), .int (nI (q.1)), .int (nI (kd)), .ref (td 2), .int (nI (q.2.2))]))], [((td 1), .inl (T 2, 90, .inl (nf ch)))], [((td 2), .inl (T 0, 5, .inl (nf q.2.1)))]] : List va_W).flatten := hD
  have hS : va_S A s.heap s.heap [] := va_S.rf
  have hl := lv_entry ([.ref (td 0)]) (n := 1) (Nat.le_of_ble_eq_true rfl)
  rw [lg_entry_eq]
  generalize (lg_sl ([.ref (td 0)]) ++ List.replicate (1 - (lg_sl ([.ref (td 0)])).length) Slot.unset).toArray = ls at hl ⊢
  have hl : lv_has ls 1 [(0, .ref (td 0))] := hl
  have w_23 := hts (.fieldLink RX4 23 "PoisonedMemory$Text" "position" "I") (by decide +kernel)
  have hinX4 : ∀ w ∈ wsX40, w ∈ wsX4_rewind := by decide +kernel
  refine lv_aload_n hx hb dX4_rewind_0 rfl (lv_at hl 0 rfl) ?_
  refine lv_iconst (v := nI 0) hx hb dX4_rewind_1 (by decide) ?_
  refine fr_put (T := T) (C := RX4) (TT := TX4) (N := 6) (ci := 4) (v := .int (nI 0)) (fs' := [[((td 0), .inr (4, [.ref (td 1), .int (nI (len)), .int (nI 0), .int (nI (kd)), .ref (td 2), .int (nI (q.2.2))]))], [((td 1), .inl (T 2, 90, .inl (nf ch)))], [((td 2), .inl (T 0, 5, .inl (nf q.2.1)))]]) (ty := .int) hx hb hts hinX4 tyX4 tyX4_ok nmX4 hown hK hP hD hS 0 rfl rfl 2 (by decide) rfl w_23 rfl rfl (by decide +kernel) rfl rfl (Nat.le_of_ble_eq_true rfl) dX4_rewind_2 (fun H locs hP hD hS => ?_)
  exact fr_vret hx hb hr hlk hP hS (by first | rfl | (simp only [↓reduceIte, Bool.false_eq_true, bI_true, bI_false, Bool.true_and, Bool.and_true, Bool.and_false, Bool.false_and, Bool.not_true, Bool.not_false, Bool.or_true, Bool.true_or, Bool.or_false, Bool.false_or] <;> rfl) | (simp [bI]; done)) dX4_rewind_5

set_option maxHeartbeats 8000000 in
set_option maxRecDepth 100000 in
theorem kX4_empty (l : Launch) (D : va_G) (T : Nat → ClassId) (Z : ZZ) (td : Nat → Nat) (ch : Nat → Nat) (len : Nat) (kd : Nat) (q : Q4)  : CtI l D T Z yX4_empty wsX4_empty ({ frames := 0, cells := 0, slots := 0, locals := 0 }) (teF T td ch len kd q) [.ref (td 0)] (nI (len)) (teF T td ch 0 kd q) := by
  refine CtI.of (cc := cX4_empty) (maxL := 2) (ret := (some .int)) (plainFor_of_name (by decide)) rfl rfl ?_
  intro pP eE s mM bW mE cC A hE hK hN hM hP hD hA
  obtain ⟨hx, hb, hr, hts, hown, hml, hlk⟩ := hE
  have hown : s.vm.findClass RX4 = some mM.cls := hown
  have hP : frP D [[((td 0), .inr (4, [.ref (td 1), .int (nI (len)), .int (nI (q.1)), .int (nI (kd)), .ref (td 2), .int (nI (q.2.2))]))], [((td 1), .inl (T 2, 90, .inl (nf ch)))], [((td 2), .inl (T 0, 5, .inl (nf q.2.1)))]] s.heap := hP
  have hD : va_D A ([[((td 0), .inr (4, [.ref (td 1), .int (nI (len)), .int (nI (q.1)), .int (nI (kd)), .ref (td 2), .int (nI (q.2.2))]))], [((td 1), .inl (T 2, 90, .inl (nf ch)))], [((td 2), .inl (T 0, 5, .inl (nf q.2.1)))]] : List va_W).flatten := hD
  have hS : va_S A s.heap s.heap [] := va_S.rf
  have hl := lv_entry ([.ref (td 0)]) (n := 2) (Nat.le_of_ble_eq_true rfl)
  rw [lg_entry_eq]
  generalize (lg_sl ([.ref (td 0)]) ++ List.replicate (2 - (lg_sl ([.ref (td 0)])).length) Slot.unset).toArray = ls at hl ⊢
  have hl : lv_has ls 2 [(0, .ref (td 0))] := hl
  have w_19 := hts (.fieldLink RX4 19 "PoisonedMemory$Text" "length" "I") (by decide +kernel)
  have hinX4 : ∀ w ∈ wsX40, w ∈ wsX4_empty := by decide +kernel
  refine lv_aload_n hx hb dX4_empty_0 rfl (lv_at hl 0 rfl) ?_
  refine va_get (D := D) (ci := 4) (v := .int (nI (len))) (C := RX4) (T := TX4) (N := 6) hx hb hts hinX4 hown hK (hP.at 0 rfl) 0 rfl rfl 1 (by decide) w_19 (fun _ h9 => h9) rfl dX4_empty_1 ?_
  refine lv_istore_n (lv' := [(1, .int (nI (len))), (0, .ref (td 0))]) hx hb dX4_empty_4 rfl hl (by decide) rfl (fun ls hl => ?_)
  refine lv_aload_n hx hb dX4_empty_5 rfl (lv_at hl 1 rfl) ?_
  refine lv_iconst (v := nI 0) hx hb dX4_empty_6 (by decide) ?_
  refine fr_put (T := T) (C := RX4) (TT := TX4) (N := 6) (ci := 4) (v := .int (nI 0)) (fs' := [[((td 0), .inr (4, [.ref (td 1), .int (nI 0), .int (nI (q.1)), .int (nI (kd)), .ref (td 2), .int (nI (q.2.2))]))], [((td 1), .inl (T 2, 90, .inl (nf ch)))], [((td 2), .inl (T 0, 5, .inl (nf q.2.1)))]]) (ty := .int) hx hb hts hinX4 tyX4 tyX4_ok nmX4 hown hK hP hD hS 0 rfl rfl 1 (by decide) rfl w_19 rfl rfl (by decide +kernel) rfl rfl (Nat.le_of_ble_eq_true rfl) dX4_empty_7 (fun H locs hP hD hS => ?_)
  refine lv_iload_n hx hb dX4_empty_10 rfl (lv_at hl 0 rfl) ?_
  exact fr_iret hx hb hr hlk hP hS rfl rfl dX4_empty_11

set_option maxHeartbeats 8000000 in
set_option maxRecDepth 100000 in
theorem kX4_add (l : Launch) (D : va_G) (T : Nat → ClassId) (Z : ZZ) (td : Nat → Nat) (ch : Nat → Nat) (len : Nat) (kd : Nat) (q : Q4) (x : Nat) (hlen : len ≤ 90) (hx9 : x < 128) : CtI l D T Z yX4_add wsX4_add ({ frames := 0, cells := 0, slots := 0, locals := 0 }) (teF T td ch len kd q) [.ref (td 0), .int (nI (x))] (if len < 90 then nI (len + 1) else -4) (teF T td (if len < 90 then updN ch len x else ch) (if len < 90 then len + 1 else len) kd q) := by
  refine CtI.of (cc := cX4_add) (maxL := 2) (ret := (some .int)) (plainFor_of_name (by decide)) rfl rfl ?_
  intro pP eE s mM bW mE cC A hE hK hN hM hP hD hA
  obtain ⟨hx, hb, hr, hts, hown, hml, hlk⟩ := hE
  have hown : s.vm.findClass RX4 = some mM.cls := hown
  have hP : frP D [[((td 0), .inr (4, [.ref (td 1), .int (nI (len)), .int (nI (q.1)), .int (nI (kd)), .ref (td 2), .int (nI (q.2.2))]))], [((td 1), .inl (T 2, 90, .inl (nf ch)))], [((td 2), .inl (T 0, 5, .inl (nf q.2.1)))]] s.heap := hP
  have hD : va_D A ([[((td 0), .inr (4, [.ref (td 1), .int (nI (len)), .int (nI (q.1)), .int (nI (kd)), .ref (td 2), .int (nI (q.2.2))]))], [((td 1), .inl (T 2, 90, .inl (nf ch)))], [((td 2), .inl (T 0, 5, .inl (nf q.2.1)))]] : List va_W).flatten := hD
  have hS : va_S A s.heap s.heap [] := va_S.rf
  have hl := lv_entry ([.ref (td 0), .int (nI (x))]) (n := 2) (Nat.le_of_ble_eq_true rfl)
  rw [lg_entry_eq]
  generalize (lg_sl ([.ref (td 0), .int (nI (x))]) ++ List.replicate (2 - (lg_sl ([.ref (td 0), .int (nI (x))])).length) Slot.unset).toArray = ls at hl ⊢
  have hl : lv_has ls 2 [(0, .ref (td 0)), (1, .int (nI (x)))] := hl
  have w_19 := hts (.fieldLink RX4 19 "PoisonedMemory$Text" "length" "I") (by decide +kernel)
  have hinX4 : ∀ w ∈ wsX40, w ∈ wsX4_add := by decide +kernel
  have w_9 := hts (.fieldLink RX4 9 "PoisonedMemory$Text" "characters" "[C") (by decide +kernel)
  refine lv_aload_n hx hb dX4_add_0 rfl (lv_at hl 0 rfl) ?_
  refine va_get (D := D) (ci := 4) (v := .int (nI (len))) (C := RX4) (T := TX4) (N := 6) hx hb hts hinX4 hown hK (hP.at 0 rfl) 0 rfl rfl 1 (by decide) w_19 (fun _ h9 => h9) rfl dX4_add_1 ?_
  refine lv_bipush (v := nI 90) hx hb dX4_add_4 (by decide) ?_
  refine fr_icmp_lt (len) (90) (by omega) (by decide) (tgt := 12) hx hb dX4_add_6 (by decide) (fun c_1 => ?_) (fun c_1 => ?_)
  · have c_1' := Nat.not_le.mpr c_1
    refine lv_aload_n hx hb dX4_add_12 rfl (lv_at hl 0 rfl) ?_
    refine va_get (D := D) (ci := 4) (v := .ref (td 1)) (C := RX4) (T := TX4) (N := 6) hx hb hts hinX4 hown hK (hP.at 0 rfl) 0 rfl rfl 0 (by decide) w_9 (fun _ h9 => h9) rfl dX4_add_13 ?_
    refine lv_aload_n hx hb dX4_add_16 rfl (lv_at hl 0 rfl) ?_
    refine va_get (D := D) (ci := 4) (v := .int (nI (len))) (C := RX4) (T := TX4) (N := 6) hx hb hts hinX4 hown hK (hP.at 0 rfl) 0 rfl rfl 1 (by decide) w_19 (fun _ h9 => h9) rfl dX4_add_17 ?_
    refine lv_iload_n hx hb dX4_add_20 rfl (lv_at hl 1 rfl) ?_
    refine fr_castn (g := ch) (fs' := [[((td 0), .inr (4, [.ref (td 1), .int (nI (len)), .int (nI (q.1)), .int (nI (kd)), .ref (td 2), .int (nI (q.2.2))]))], [((td 1), .inl (T 2, 90, .inl (nf (updN ch len x))))], [((td 2), .inl (T 0, 5, .inl (nf q.2.1)))]]) (by omega) hx hb hK hP hD hS 1 (len) rfl rfl (by omega) (by omega) dX4_add_21 (fun H locs hP hD hS => ?_)
    refine lv_aload_n hx hb dX4_add_22 rfl (lv_at hl 0 rfl) ?_
    refine lv_dup hx hb dX4_add_23 rfl ?_
    refine va_get (D := D) (ci := 4) (v := .int (nI (len))) (C := RX4) (T := TX4) (N := 6) hx hb hts hinX4 hown hK (hP.at 0 rfl) 0 rfl rfl 1 (by decide) w_19 (fun _ h9 => h9) rfl dX4_add_24 ?_
    refine lv_iconst (v := nI 1) hx hb dX4_add_27 (by decide) ?_
    refine fr_iadd (len) (1) hx hb dX4_add_28 ?_
    refine fr_put (T := T) (C := RX4) (TT := TX4) (N := 6) (ci := 4) (v := .int (nI ((len + 1)))) (fs' := [[((td 0), .inr (4, [.ref (td 1), .int (nI ((len + 1))), .int (nI (q.1)), .int (nI (kd)), .ref (td 2), .int (nI (q.2.2))]))], [((td 1), .inl (T 2, 90, .inl (nf (updN ch len x))))], [((td 2), .inl (T 0, 5, .inl (nf q.2.1)))]]) (ty := .int) hx hb hts hinX4 tyX4 tyX4_ok nmX4 hown hK hP hD hS 0 rfl rfl 1 (by decide) rfl w_19 rfl rfl (by decide +kernel) rfl rfl (Nat.le_of_ble_eq_true rfl) dX4_add_29 (fun H locs hP hD hS => ?_)
    refine lv_aload_n hx hb dX4_add_32 rfl (lv_at hl 0 rfl) ?_
    refine va_get (D := D) (ci := 4) (v := .int (nI ((len + 1)))) (C := RX4) (T := TX4) (N := 6) hx hb hts hinX4 hown hK (hP.at 0 rfl) 0 rfl rfl 1 (by decide) w_19 (fun _ h9 => h9) rfl dX4_add_33 ?_
    exact fr_iret hx hb hr hlk hP hS (by simp only [c_1, c_1', ↓reduceIte, Bool.false_eq_true, bI_true, bI_false, Bool.true_and, Bool.and_true, Bool.and_false, Bool.false_and, Bool.not_true, Bool.not_false, Bool.or_true, Bool.true_or, Bool.or_false, Bool.false_or] <;> rfl) (by simp only [c_1, c_1', ↓reduceIte, Bool.false_eq_true, bI_true, bI_false, Bool.true_and, Bool.and_true, Bool.and_false, Bool.false_and, Bool.not_true, Bool.not_false, Bool.or_true, Bool.true_or, Bool.or_false, Bool.false_or] <;> rfl) dX4_add_36
  · have c_1' := Nat.not_lt.mpr c_1
    refine lv_bipush (v := (-4)) hx hb dX4_add_9 (by decide) ?_
    exact fr_iret hx hb hr hlk hP hS (by simp only [c_1, c_1', ↓reduceIte, Bool.false_eq_true, bI_true, bI_false, Bool.true_and, Bool.and_true, Bool.and_false, Bool.false_and, Bool.not_true, Bool.not_false, Bool.or_true, Bool.true_or, Bool.or_false, Bool.false_or] <;> rfl) (by simp only [c_1, c_1', ↓reduceIte, Bool.false_eq_true, bI_true, bI_false, Bool.true_and, Bool.and_true, Bool.and_false, Bool.false_and, Bool.not_true, Bool.not_false, Bool.or_true, Bool.true_or, Bool.or_false, Bool.false_or] <;> rfl) dX4_add_11

set_option maxHeartbeats 8000000 in
set_option maxRecDepth 100000 in
theorem kX4_addPart (l : Launch) (D : va_G) (T : Nat → ClassId) (Z : ZZ) (td : Nat → Nat) (ch : Nat → Nat) (len : Nat) (kd : Nat) (q : Q4) (x : Nat) (hpc : q.2.2 ≤ 5) : CtV l D T Z yX4_addPart wsX4_addPart ({ frames := 0, cells := 0, slots := 0, locals := 0 }) (teF T td ch len kd q) [.ref (td 0), .int (nI (x))] (teF T td ch len kd (addQ q q.1 x)) := by
  refine CtV.of (cc := cX4_addPart) (maxL := 2) (ret := none) (plainFor_of_name (by decide)) rfl rfl ?_
  intro pP eE s mM bW mE cC A hE hK hN hM hP hD hA
  obtain ⟨hx, hb, hr, hts, hown, hml, hlk⟩ := hE
  have hown : s.vm.findClass RX4 = some mM.cls := hown
  have hP : frP D [[((td 0), .inr (4, [.ref (td 1), .int (nI (len)), .int (nI (q.1)), .int (nI (kd)), .ref (td 2), .int (nI (q.2.2))]))], [((td 1), .inl (T 2, 90, .inl (nf ch)))], [((td 2), .inl (T 0, 5, .inl (nf q.2.1)))]] s.heap := hP
  have hD : va_D A ([[((td 0), .inr (4, [.ref (td 1), .int (nI (len)), .int (nI (q.1)), .int (nI (kd)), .ref (td 2), .int (nI (q.2.2))]))], [((td 1), .inl (T 2, 90, .inl (nf ch)))], [((td 2), .inl (T 0, 5, .inl (nf q.2.1)))]] : List va_W).flatten := hD
  have hS : va_S A s.heap s.heap [] := va_S.rf
  have hl := lv_entry ([.ref (td 0), .int (nI (x))]) (n := 2) (Nat.le_of_ble_eq_true rfl)
  rw [lg_entry_eq]
  generalize (lg_sl ([.ref (td 0), .int (nI (x))]) ++ List.replicate (2 - (lg_sl ([.ref (td 0), .int (nI (x))])).length) Slot.unset).toArray = ls at hl ⊢
  have hl : lv_has ls 2 [(0, .ref (td 0)), (1, .int (nI (x)))] := hl
  have w_49 := hts (.fieldLink RX4 49 "PoisonedMemory$Text" "partCount" "I") (by decide +kernel)
  have hinX4 : ∀ w ∈ wsX40, w ∈ wsX4_addPart := by decide +kernel
  have w_15 := hts (.fieldLink RX4 15 "PoisonedMemory$Text" "parts" "[I") (by decide +kernel)
  refine lv_aload_n hx hb dX4_addPart_0 rfl (lv_at hl 0 rfl) ?_
  refine va_get (D := D) (ci := 4) (v := .int (nI (q.2.2))) (C := RX4) (T := TX4) (N := 6) hx hb hts hinX4 hown hK (hP.at 0 rfl) 0 rfl rfl 5 (by decide) w_49 (fun _ h9 => h9) rfl dX4_addPart_1 ?_
  refine lv_iconst (v := nI 5) hx hb dX4_addPart_4 (by decide) ?_
  refine fr_icmp_ge (q.2.2) (5) (by omega) (by decide) (tgt := 28) hx hb dX4_addPart_5 (by decide) (fun c_1 => ?_) (fun c_1 => ?_)
  · have c_1' := Nat.not_lt.mpr c_1
    exact fr_vret hx hb hr hlk hP hS (by unfold addQ ptA pcA; simp only [c_1, c_1', ↓reduceIte, Bool.false_eq_true, bI_true, bI_false, Bool.true_and, Bool.and_true, Bool.and_false, Bool.false_and, Bool.not_true, Bool.not_false, Bool.or_true, Bool.true_or, Bool.or_false, Bool.false_or] <;> rfl) dX4_addPart_28
  · have c_1' := Nat.not_le.mpr c_1
    refine lv_aload_n hx hb dX4_addPart_8 rfl (lv_at hl 0 rfl) ?_
    refine va_get (D := D) (ci := 4) (v := .ref (td 2)) (C := RX4) (T := TX4) (N := 6) hx hb hts hinX4 hown hK (hP.at 0 rfl) 0 rfl rfl 4 (by decide) w_15 (fun _ h9 => h9) rfl dX4_addPart_9 ?_
    refine lv_aload_n hx hb dX4_addPart_12 rfl (lv_at hl 0 rfl) ?_
    refine va_get (D := D) (ci := 4) (v := .int (nI (q.2.2))) (C := RX4) (T := TX4) (N := 6) hx hb hts hinX4 hown hK (hP.at 0 rfl) 0 rfl rfl 5 (by decide) w_49 (fun _ h9 => h9) rfl dX4_addPart_13 ?_
    refine lv_iload_n hx hb dX4_addPart_16 rfl (lv_at hl 1 rfl) ?_
    refine fr_iastn (g := q.2.1) (fs' := [[((td 0), .inr (4, [.ref (td 1), .int (nI (len)), .int (nI (q.1)), .int (nI (kd)), .ref (td 2), .int (nI (q.2.2))]))], [((td 1), .inl (T 2, 90, .inl (nf ch)))], [((td 2), .inl (T 0, 5, .inl (nf (updN q.2.1 q.2.2 x))))]]) hx hb hK hP hD hS 2 (q.2.2) rfl rfl (by omega) (by omega) dX4_addPart_17 (fun H locs hP hD hS => ?_)
    refine lv_aload_n hx hb dX4_addPart_18 rfl (lv_at hl 0 rfl) ?_
    refine lv_dup hx hb dX4_addPart_19 rfl ?_
    refine va_get (D := D) (ci := 4) (v := .int (nI (q.2.2))) (C := RX4) (T := TX4) (N := 6) hx hb hts hinX4 hown hK (hP.at 0 rfl) 0 rfl rfl 5 (by decide) w_49 (fun _ h9 => h9) rfl dX4_addPart_20 ?_
    refine lv_iconst (v := nI 1) hx hb dX4_addPart_23 (by decide) ?_
    refine fr_iadd (q.2.2) (1) hx hb dX4_addPart_24 ?_
    refine fr_put (T := T) (C := RX4) (TT := TX4) (N := 6) (ci := 4) (v := .int (nI ((q.2.2 + 1)))) (fs' := [[((td 0), .inr (4, [.ref (td 1), .int (nI (len)), .int (nI (q.1)), .int (nI (kd)), .ref (td 2), .int (nI ((q.2.2 + 1)))]))], [((td 1), .inl (T 2, 90, .inl (nf ch)))], [((td 2), .inl (T 0, 5, .inl (nf (updN q.2.1 q.2.2 x))))]]) (ty := .int) hx hb hts hinX4 tyX4 tyX4_ok nmX4 hown hK hP hD hS 0 rfl rfl 5 (by decide) rfl w_49 rfl rfl (by decide +kernel) rfl rfl (Nat.le_of_ble_eq_true rfl) dX4_addPart_25 (fun H locs hP hD hS => ?_)
    exact fr_vret hx hb hr hlk hP hS (by unfold addQ ptA pcA; simp only [c_1, c_1', ↓reduceIte, Bool.false_eq_true, bI_true, bI_false, Bool.true_and, Bool.and_true, Bool.and_false, Bool.false_and, Bool.not_true, Bool.not_false, Bool.or_true, Bool.true_or, Bool.or_false, Bool.false_or] <;> rfl) dX4_addPart_28

set_option maxHeartbeats 8000000 in
set_option maxRecDepth 100000 in
theorem kX4_digitHere (l : Launch) (D : va_G) (T : Nat → ClassId) (Z : ZZ) (td : Nat → Nat) (ch : Nat → Nat) (len : Nat) (kd : Nat) (q : Q4) (hch : ∀ k, ch k < 128) (hlen : len ≤ 90) (hq : q.1 ≤ 90) : CtI l D T Z yX4_digitHere wsX4_digitHere ({ frames := 0, cells := 0, slots := 0, locals := 0 }) (teF T td ch len kd q) [.ref (td 0)] (dh ch len q.1) (teF T td ch len kd q) := by
  have hc9 := hch q.1
  refine CtI.of (cc := cX4_digitHere) (maxL := 2) (ret := (some .int)) (plainFor_of_name (by decide)) rfl rfl ?_
  intro pP eE s mM bW mE cC A hE hK hN hM hP hD hA
  obtain ⟨hx, hb, hr, hts, hown, hml, hlk⟩ := hE
  have hown : s.vm.findClass RX4 = some mM.cls := hown
  have hP : frP D [[((td 0), .inr (4, [.ref (td 1), .int (nI (len)), .int (nI (q.1)), .int (nI (kd)), .ref (td 2), .int (nI (q.2.2))]))], [((td 1), .inl (T 2, 90, .inl (nf ch)))], [((td 2), .inl (T 0, 5, .inl (nf q.2.1)))]] s.heap := hP
  have hD : va_D A ([[((td 0), .inr (4, [.ref (td 1), .int (nI (len)), .int (nI (q.1)), .int (nI (kd)), .ref (td 2), .int (nI (q.2.2))]))], [((td 1), .inl (T 2, 90, .inl (nf ch)))], [((td 2), .inl (T 0, 5, .inl (nf q.2.1)))]] : List va_W).flatten := hD
  have hS : va_S A s.heap s.heap [] := va_S.rf
  have hl := lv_entry ([.ref (td 0)]) (n := 2) (Nat.le_of_ble_eq_true rfl)
  rw [lg_entry_eq]
  generalize (lg_sl ([.ref (td 0)]) ++ List.replicate (2 - (lg_sl ([.ref (td 0)])).length) Slot.unset).toArray = ls at hl ⊢
  have hl : lv_has ls 2 [(0, .ref (td 0))] := hl
  have w_23 := hts (.fieldLink RX4 23 "PoisonedMemory$Text" "position" "I") (by decide +kernel)
  have hinX4 : ∀ w ∈ wsX40, w ∈ wsX4_digitHere := by decide +kernel
  have w_19 := hts (.fieldLink RX4 19 "PoisonedMemory$Text" "length" "I") (by decide +kernel)
  have w_9 := hts (.fieldLink RX4 9 "PoisonedMemory$Text" "characters" "[C") (by decide +kernel)
  refine lv_aload_n hx hb dX4_digitHere_0 rfl (lv_at hl 0 rfl) ?_
  refine va_get (D := D) (ci := 4) (v := .int (nI (q.1))) (C := RX4) (T := TX4) (N := 6) hx hb hts hinX4 hown hK (hP.at 0 rfl) 0 rfl rfl 2 (by decide) w_23 (fun _ h9 => h9) rfl dX4_digitHere_1 ?_
  refine lv_aload_n hx hb dX4_digitHere_4 rfl (lv_at hl 0 rfl) ?_
  refine va_get (D := D) (ci := 4) (v := .int (nI (len))) (C := RX4) (T := TX4) (N := 6) hx hb hts hinX4 hown hK (hP.at 0 rfl) 0 rfl rfl 1 (by decide) w_19 (fun _ h9 => h9) rfl dX4_digitHere_5 ?_
  refine fr_icmp_lt (q.1) (len) (by omega) (by omega) (tgt := 14) hx hb dX4_digitHere_8 (by decide) (fun c_1 => ?_) (fun c_1 => ?_)
  · have c_1' := Nat.not_le.mpr c_1
    refine lv_aload_n hx hb dX4_digitHere_14 rfl (lv_at hl 0 rfl) ?_
    refine va_get (D := D) (ci := 4) (v := .ref (td 1)) (C := RX4) (T := TX4) (N := 6) hx hb hts hinX4 hown hK (hP.at 0 rfl) 0 rfl rfl 0 (by decide) w_9 (fun _ h9 => h9) rfl dX4_digitHere_15 ?_
    refine lv_aload_n hx hb dX4_digitHere_18 rfl (lv_at hl 0 rfl) ?_
    refine va_get (D := D) (ci := 4) (v := .int (nI (q.1))) (C := RX4) (T := TX4) (N := 6) hx hb hts hinX4 hown hK (hP.at 0 rfl) 0 rfl rfl 2 (by decide) w_23 (fun _ h9 => h9) rfl dX4_digitHere_19 ?_
    refine fr_cald hx hb hK hP 1 (q.1) rfl (by omega) (by omega) dX4_digitHere_22 ?_
    refine fr_val (show (nf ch) q.1 = nI (ch q.1) from rfl) ?_
    refine lv_istore_n (lv' := [(1, .int (nI ((ch q.1)))), (0, .ref (td 0))]) hx hb dX4_digitHere_23 rfl hl (by decide) rfl (fun ls hl => ?_)
    refine lv_iload_n hx hb dX4_digitHere_24 rfl (lv_at hl 0 rfl) ?_
    refine lv_bipush (v := nI 48) hx hb dX4_digitHere_25 (by decide) ?_
    refine fr_icmp_lt ((ch q.1)) (48) (by omega) (by decide) (tgt := 43) hx hb dX4_digitHere_27 (by decide) (fun c_2 => ?_) (fun c_2 => ?_)
    · have c_2' := Nat.not_le.mpr c_2
      refine lv_bipush (v := (-6)) hx hb dX4_digitHere_43 (by decide) ?_
      exact fr_iret hx hb hr hlk hP hS (by first | rfl | (simp only [dh, isd, decide_true, decide_false, c_1, c_1', c_2, c_2', ↓reduceIte, Bool.false_eq_true, bI_true, bI_false, Bool.true_and, Bool.and_true, Bool.and_false, Bool.false_and, Bool.not_true, Bool.not_false, Bool.or_true, Bool.true_or, Bool.or_false, Bool.false_or] <;> rfl) | (simp [dh, isd, decide_true, decide_false, c_1, c_1', c_2, c_2', bI]; done)) rfl dX4_digitHere_45
    · have c_2' := Nat.not_lt.mpr c_2
      refine lv_iload_n hx hb dX4_digitHere_30 rfl (lv_at hl 0 rfl) ?_
      refine lv_bipush (v := nI 57) hx hb dX4_digitHere_31 (by decide) ?_
      refine fr_icmp_gt ((ch q.1)) (57) (by omega) (by decide) (tgt := 43) hx hb dX4_digitHere_33 (by decide) (fun c_3 => ?_) (fun c_3 => ?_)
      · have c_3' := Nat.not_le.mpr c_3
        refine lv_bipush (v := (-6)) hx hb dX4_digitHere_43 (by decide) ?_
        exact fr_iret hx hb hr hlk hP hS (by first | rfl | (simp only [dh, isd, decide_true, decide_false, c_1, c_1', c_2, c_2', c_3, c_3', ↓reduceIte, Bool.false_eq_true, bI_true, bI_false, Bool.true_and, Bool.and_true, Bool.and_false, Bool.false_and, Bool.not_true, Bool.not_false, Bool.or_true, Bool.true_or, Bool.or_false, Bool.false_or] <;> rfl) | (simp [dh, isd, decide_true, decide_false, c_1, c_1', c_2, c_2', c_3, c_3', bI]; done)) rfl dX4_digitHere_45
      · have c_3' := Nat.not_lt.mpr c_3
        refine lv_iload_n hx hb dX4_digitHere_36 rfl (lv_at hl 0 rfl) ?_
        refine lv_bipush (v := nI 48) hx hb dX4_digitHere_37 (by decide) ?_
        refine fr_isub ((ch q.1)) (48) (by omega) hx hb dX4_digitHere_39 ?_
        refine lv_goto (tgt := 45) hx hb dX4_digitHere_40 (by decide) ?_
        exact fr_iret hx hb hr hlk hP hS (by first | rfl | (simp only [dh, isd, decide_true, decide_false, c_1, c_1', c_2, c_2', c_3, c_3', ↓reduceIte, Bool.false_eq_true, bI_true, bI_false, Bool.true_and, Bool.and_true, Bool.and_false, Bool.false_and, Bool.not_true, Bool.not_false, Bool.or_true, Bool.true_or, Bool.or_false, Bool.false_or] <;> rfl) | (simp [dh, isd, decide_true, decide_false, c_1, c_1', c_2, c_2', c_3, c_3', bI]; done)) rfl dX4_digitHere_45
  · have c_1' := Nat.not_lt.mpr c_1
    refine lv_bipush (v := (-6)) hx hb dX4_digitHere_11 (by decide) ?_
    exact fr_iret hx hb hr hlk hP hS (by first | rfl | (simp only [dh, isd, decide_true, decide_false, c_1, c_1', ↓reduceIte, Bool.false_eq_true, bI_true, bI_false, Bool.true_and, Bool.and_true, Bool.and_false, Bool.false_and, Bool.not_true, Bool.not_false, Bool.or_true, Bool.true_or, Bool.or_false, Bool.false_or] <;> rfl) | (simp [dh, isd, decide_true, decide_false, c_1, c_1', bI]; done)) rfl dX4_digitHere_13

set_option maxHeartbeats 8000000 in
set_option maxRecDepth 100000 in
theorem kX4_readDigit (l : Launch) (D : va_G) (T : Nat → ClassId) (Z : ZZ) (td : Nat → Nat) (ch : Nat → Nat) (len : Nat) (kd : Nat) (q : Q4) (hch : ∀ k, ch k < 128) (hlen : len ≤ 90) (hq : q.1 ≤ 90) (hpc : q.2.2 ≤ 5) : CtI l D T Z yX4_readDigit wsX4_readDigit ({ frames := 1, cells := 0, slots := 0, locals := 21 }) (teF T td ch len kd q) [.ref (td 0)] (bI (dOk ch len q.1)) (teF T td ch len kd (rD ch len q)) := by
  have hc9 := hch q.1
  refine CtI.of (cc := cX4_readDigit) (maxL := 2) (ret := (some .boolean)) (plainFor_of_name (by decide)) rfl rfl ?_
  intro pP eE s mM bW mE cC A hE hK hN hM hP hD hA
  obtain ⟨hx, hb, hr, hts, hown, hml, hlk⟩ := hE
  have hown : s.vm.findClass RX4 = some mM.cls := hown
  have hP : frP D [[((td 0), .inr (4, [.ref (td 1), .int (nI (len)), .int (nI (q.1)), .int (nI (kd)), .ref (td 2), .int (nI (q.2.2))]))], [((td 1), .inl (T 2, 90, .inl (nf ch)))], [((td 2), .inl (T 0, 5, .inl (nf q.2.1)))]] s.heap := hP
  have hD : va_D A ([[((td 0), .inr (4, [.ref (td 1), .int (nI (len)), .int (nI (q.1)), .int (nI (kd)), .ref (td 2), .int (nI (q.2.2))]))], [((td 1), .inl (T 2, 90, .inl (nf ch)))], [((td 2), .inl (T 0, 5, .inl (nf q.2.1)))]] : List va_W).flatten := hD
  have hS : va_S A s.heap s.heap [] := va_S.rf
  have hl := lv_entry ([.ref (td 0)]) (n := 2) (Nat.le_of_ble_eq_true rfl)
  rw [lg_entry_eq]
  generalize (lg_sl ([.ref (td 0)]) ++ List.replicate (2 - (lg_sl ([.ref (td 0)])).length) Slot.unset).toArray = ls at hl ⊢
  have hl : lv_has ls 2 [(0, .ref (td 0))] := hl
  have w_23 := hts (.fieldLink RX4 23 "PoisonedMemory$Text" "position" "I") (by decide +kernel)
  have hinX4 : ∀ w ∈ wsX40, w ∈ wsX4_readDigit := by decide +kernel
  refine lv_aload_n hx hb dX4_readDigit_0 rfl (lv_at hl 0 rfl) ?_
  refine fr_Vi (As := []) (rest := []) (fs' := [[((td 0), .inr (4, [.ref (td 1), .int (nI (len)), .int (nI (q.1)), .int (nI (kd)), .ref (td 2), .int (nI (q.2.2))]))], [((td 1), .inl (T 2, 90, .inl (nf ch)))], [((td 2), .inl (T 0, 5, .inl (nf q.2.1)))]]) (ci := 4) (q0 := (RX4, TX4, 6)) (i0 := 0) ⟨hx, hb, hml, hown, hts⟩ (kX4_digitHere l D T Z td ch len kd q hch hlen (by first | omega | (dsimp only; omega))) (cwV 0 hts gX4_readDigit_X4_digitHere rfl rfl rfl (by decide +kernel) ⟨Nat.le_of_ble_eq_true rfl, Nat.le_of_ble_eq_true rfl⟩) hK hN hM hP hD hS hA [0, 1, 2] rfl rfl rfl rfl rfl rfl hl.1 rfl (Nat.le_of_ble_eq_true rfl) dX4_readDigit_1 ⟨Nat.zero_le _, Nat.zero_le _⟩ (fun H locs hP hD hS => ?_)
  rcases Bool.eq_false_or_eq_true (isd ch len q.1) with c_1 | c_1
  · refine fr_val (dh_t c_1) ?_
    have c_1d := isd_t c_1
    refine lv_istore_n (lv' := [(1, .int (nI ((ch q.1 - 48)))), (0, .ref (td 0))]) hx hb dX4_readDigit_4 rfl hl (by decide) rfl (fun ls hl => ?_)
    refine lv_iload_n hx hb dX4_readDigit_5 rfl (lv_at hl 0 rfl) ?_
    refine lv_if_lt (tgt := 14) hx hb dX4_readDigit_6 (by decide) (fun z => absurd z (nI_pos (by omega))) (fun _ => ?_)
    refine lv_iload_n hx hb dX4_readDigit_9 rfl (lv_at hl 0 rfl) ?_
    refine lv_iconst (v := nI 4) hx hb dX4_readDigit_10 (by decide) ?_
    refine fr_icmp_lt ((ch q.1 - 48)) (4) (by omega) (by decide) (tgt := 16) hx hb dX4_readDigit_11 (by decide) (fun c_2 => ?_) (fun c_2 => ?_)
    · have c_2' := Nat.not_le.mpr c_2
      refine lv_aload_n hx hb dX4_readDigit_16 rfl (lv_at hl 1 rfl) ?_
      refine lv_dup hx hb dX4_readDigit_17 rfl ?_
      refine va_get (D := D) (ci := 4) (v := .int (nI (q.1))) (C := RX4) (T := TX4) (N := 6) hx hb hts hinX4 hown hK (hP.at 0 rfl) 0 rfl rfl 2 (by decide) w_23 (fun _ h9 => h9) rfl dX4_readDigit_18 ?_
      refine lv_iconst (v := nI 1) hx hb dX4_readDigit_21 (by decide) ?_
      refine fr_iadd (q.1) (1) hx hb dX4_readDigit_22 ?_
      refine fr_put (T := T) (C := RX4) (TT := TX4) (N := 6) (ci := 4) (v := .int (nI ((q.1 + 1)))) (fs' := [[((td 0), .inr (4, [.ref (td 1), .int (nI (len)), .int (nI ((q.1 + 1))), .int (nI (kd)), .ref (td 2), .int (nI (q.2.2))]))], [((td 1), .inl (T 2, 90, .inl (nf ch)))], [((td 2), .inl (T 0, 5, .inl (nf q.2.1)))]]) (ty := .int) hx hb hts hinX4 tyX4 tyX4_ok nmX4 hown hK hP hD hS 0 rfl rfl 2 (by decide) rfl w_23 rfl rfl (by decide +kernel) rfl rfl (Nat.le_of_ble_eq_true rfl) dX4_readDigit_23 (fun H locs hP hD hS => ?_)
      refine lv_aload_n hx hb dX4_readDigit_26 rfl (lv_at hl 1 rfl) ?_
      refine lv_iload_n hx hb dX4_readDigit_27 rfl (lv_at hl 0 rfl) ?_
      refine fr_Vv (As := [.int (nI ((ch q.1 - 48)))]) (rest := []) (fs' := [[((td 0), .inr (4, [.ref (td 1), .int (nI (len)), .int (nI ((addQ (q.1 + 1, q.2.1, q.2.2) (q.1 + 1, q.2.1, q.2.2).1 (ch q.1 - 48)).1)), .int (nI (kd)), .ref (td 2), .int (nI ((addQ (q.1 + 1, q.2.1, q.2.2) (q.1 + 1, q.2.1, q.2.2).1 (ch q.1 - 48)).2.2))]))], [((td 1), .inl (T 2, 90, .inl (nf ch)))], [((td 2), .inl (T 0, 5, .inl (nf (addQ (q.1 + 1, q.2.1, q.2.2) (q.1 + 1, q.2.1, q.2.2).1 (ch q.1 - 48)).2.1)))]]) (ci := 4) (q0 := (RX4, TX4, 6)) (i0 := 0) ⟨hx, hb, hml, hown, hts⟩ (kX4_addPart l D T Z td ch len kd (q.1 + 1, q.2.1, q.2.2) (ch q.1 - 48) (by first | omega | (dsimp only; omega))) (cwV 1 hts gX4_readDigit_X4_addPart rfl rfl rfl (by decide +kernel) ⟨Nat.le_of_ble_eq_true rfl, Nat.le_of_ble_eq_true rfl⟩) hK hN hM hP hD hS hA [0, 1, 2] rfl rfl rfl rfl rfl rfl hl.1 rfl (Nat.le_of_ble_eq_true rfl) dX4_readDigit_28 ⟨Nat.zero_le _, Nat.zero_le _⟩ (fun H locs hP hD hS => ?_)
      refine lv_iconst (v := nI 1) hx hb dX4_readDigit_31 (by decide) ?_
      exact fr_zret hx hb hr hlk hP hS (by first | rfl | (simp only [dOk, rD, decide_true, decide_false, c_1, c_2, c_2', ↓reduceIte, Bool.false_eq_true, bI_true, bI_false, Bool.true_and, Bool.and_true, Bool.and_false, Bool.false_and, Bool.not_true, Bool.not_false, Bool.or_true, Bool.true_or, Bool.or_false, Bool.false_or] <;> rfl) | (simp [dOk, rD, decide_true, decide_false, c_1, c_2, c_2', bI]; done)) (by first | rfl | (simp only [dOk, rD, decide_true, decide_false, c_1, c_2, c_2', ↓reduceIte, Bool.false_eq_true, bI_true, bI_false, Bool.true_and, Bool.and_true, Bool.and_false, Bool.false_and, Bool.not_true, Bool.not_false, Bool.or_true, Bool.true_or, Bool.or_false, Bool.false_or] <;> rfl) | (simp [dOk, rD, decide_true, decide_false, c_1, c_2, c_2', bI]; done)) rfl dX4_readDigit_32
    · have c_2' := Nat.not_lt.mpr c_2
      refine lv_iconst (v := nI 0) hx hb dX4_readDigit_14 (by decide) ?_
      exact fr_zret hx hb hr hlk hP hS (by first | rfl | (simp only [dOk, rD, decide_true, decide_false, c_1, c_2, c_2', ↓reduceIte, Bool.false_eq_true, bI_true, bI_false, Bool.true_and, Bool.and_true, Bool.and_false, Bool.false_and, Bool.not_true, Bool.not_false, Bool.or_true, Bool.true_or, Bool.or_false, Bool.false_or] <;> rfl) | (simp [dOk, rD, decide_true, decide_false, c_1, c_2, c_2', bI]; done)) (by first | rfl | (simp only [dOk, rD, decide_true, decide_false, c_1, c_2, c_2', ↓reduceIte, Bool.false_eq_true, bI_true, bI_false, Bool.true_and, Bool.and_true, Bool.and_false, Bool.false_and, Bool.not_true, Bool.not_false, Bool.or_true, Bool.true_or, Bool.or_false, Bool.false_or] <;> rfl) | (simp [dOk, rD, decide_true, decide_false, c_1, c_2, c_2', bI]; done)) rfl dX4_readDigit_15
  · refine fr_val (dh_f c_1) ?_
    refine lv_istore_n (lv' := [(1, .int ((-6))), (0, .ref (td 0))]) hx hb dX4_readDigit_4 rfl hl (by decide) rfl (fun ls hl => ?_)
    refine lv_iload_n hx hb dX4_readDigit_5 rfl (lv_at hl 0 rfl) ?_
    refine lv_if_lt (tgt := 14) hx hb dX4_readDigit_6 (by decide) (fun _ => ?_) (fun z => absurd (by decide) z)
    refine lv_iconst (v := nI 0) hx hb dX4_readDigit_14 (by decide) ?_
    exact fr_zret hx hb hr hlk hP hS (by first | rfl | (simp only [dOk, rD, decide_true, decide_false, c_1, ↓reduceIte, Bool.false_eq_true, bI_true, bI_false, Bool.true_and, Bool.and_true, Bool.and_false, Bool.false_and, Bool.not_true, Bool.not_false, Bool.or_true, Bool.true_or, Bool.or_false, Bool.false_or] <;> rfl) | (simp [dOk, rD, decide_true, decide_false, c_1, bI]; done)) (by first | rfl | (simp only [dOk, rD, decide_true, decide_false, c_1, ↓reduceIte, Bool.false_eq_true, bI_true, bI_false, Bool.true_and, Bool.and_true, Bool.and_false, Bool.false_and, Bool.not_true, Bool.not_false, Bool.or_true, Bool.true_or, Bool.or_false, Bool.false_or] <;> rfl) | (simp [dOk, rD, decide_true, decide_false, c_1, bI]; done)) rfl dX4_readDigit_15

set_option maxHeartbeats 8000000 in
set_option maxRecDepth 100000 in
theorem kX4_readSign (l : Launch) (D : va_G) (T : Nat → ClassId) (Z : ZZ) (td : Nat → Nat) (ch : Nat → Nat) (len : Nat) (kd : Nat) (q : Q4) (c : Nat) (hch : ∀ k, ch k < 128) (hlen : len ≤ 90) (hq : q.1 ≤ 90) (hc7 : c < 128) : CtI l D T Z yX4_readSign wsX4_readSign ({ frames := 0, cells := 0, slots := 0, locals := 0 }) (teF T td ch len kd q) [.ref (td 0), .int (nI (c))] (bI (sOk ch len c q.1)) (teF T td ch len kd (rS ch len c q)) := by
  have hc9 := hch q.1
  refine CtI.of (cc := cX4_readSign) (maxL := 2) (ret := (some .boolean)) (plainFor_of_name (by decide)) rfl rfl ?_
  intro pP eE s mM bW mE cC A hE hK hN hM hP hD hA
  obtain ⟨hx, hb, hr, hts, hown, hml, hlk⟩ := hE
  have hown : s.vm.findClass RX4 = some mM.cls := hown
  have hP : frP D [[((td 0), .inr (4, [.ref (td 1), .int (nI (len)), .int (nI (q.1)), .int (nI (kd)), .ref (td 2), .int (nI (q.2.2))]))], [((td 1), .inl (T 2, 90, .inl (nf ch)))], [((td 2), .inl (T 0, 5, .inl (nf q.2.1)))]] s.heap := hP
  have hD : va_D A ([[((td 0), .inr (4, [.ref (td 1), .int (nI (len)), .int (nI (q.1)), .int (nI (kd)), .ref (td 2), .int (nI (q.2.2))]))], [((td 1), .inl (T 2, 90, .inl (nf ch)))], [((td 2), .inl (T 0, 5, .inl (nf q.2.1)))]] : List va_W).flatten := hD
  have hS : va_S A s.heap s.heap [] := va_S.rf
  have hl := lv_entry ([.ref (td 0), .int (nI (c))]) (n := 2) (Nat.le_of_ble_eq_true rfl)
  rw [lg_entry_eq]
  generalize (lg_sl ([.ref (td 0), .int (nI (c))]) ++ List.replicate (2 - (lg_sl ([.ref (td 0), .int (nI (c))])).length) Slot.unset).toArray = ls at hl ⊢
  have hl : lv_has ls 2 [(0, .ref (td 0)), (1, .int (nI (c)))] := hl
  have w_23 := hts (.fieldLink RX4 23 "PoisonedMemory$Text" "position" "I") (by decide +kernel)
  have hinX4 : ∀ w ∈ wsX40, w ∈ wsX4_readSign := by decide +kernel
  have w_19 := hts (.fieldLink RX4 19 "PoisonedMemory$Text" "length" "I") (by decide +kernel)
  have w_9 := hts (.fieldLink RX4 9 "PoisonedMemory$Text" "characters" "[C") (by decide +kernel)
  refine lv_aload_n hx hb dX4_readSign_0 rfl (lv_at hl 0 rfl) ?_
  refine va_get (D := D) (ci := 4) (v := .int (nI (q.1))) (C := RX4) (T := TX4) (N := 6) hx hb hts hinX4 hown hK (hP.at 0 rfl) 0 rfl rfl 2 (by decide) w_23 (fun _ h9 => h9) rfl dX4_readSign_1 ?_
  refine lv_aload_n hx hb dX4_readSign_4 rfl (lv_at hl 0 rfl) ?_
  refine va_get (D := D) (ci := 4) (v := .int (nI (len))) (C := RX4) (T := TX4) (N := 6) hx hb hts hinX4 hown hK (hP.at 0 rfl) 0 rfl rfl 1 (by decide) w_19 (fun _ h9 => h9) rfl dX4_readSign_5 ?_
  refine fr_icmp_ge (q.1) (len) (by omega) (by omega) (tgt := 24) hx hb dX4_readSign_8 (by decide) (fun c_1 => ?_) (fun c_1 => ?_)
  · have c_1' := Nat.not_lt.mpr c_1
    refine lv_iconst (v := nI 0) hx hb dX4_readSign_24 (by decide) ?_
    exact fr_zret hx hb hr hlk hP hS (by first | rfl | (simp only [sOk, rS, decide_true, decide_false, c_1, c_1', ↓reduceIte, Bool.false_eq_true, bI_true, bI_false, Bool.true_and, Bool.and_true, Bool.and_false, Bool.false_and, Bool.not_true, Bool.not_false, Bool.or_true, Bool.true_or, Bool.or_false, Bool.false_or] <;> rfl) | (simp [sOk, rS, decide_true, decide_false, c_1, c_1', bI]; done)) (by first | rfl | (simp only [sOk, rS, decide_true, decide_false, c_1, c_1', ↓reduceIte, Bool.false_eq_true, bI_true, bI_false, Bool.true_and, Bool.and_true, Bool.and_false, Bool.false_and, Bool.not_true, Bool.not_false, Bool.or_true, Bool.true_or, Bool.or_false, Bool.false_or] <;> rfl) | (simp [sOk, rS, decide_true, decide_false, c_1, c_1', bI]; done)) rfl dX4_readSign_25
  · have c_1' := Nat.not_le.mpr c_1
    refine lv_aload_n hx hb dX4_readSign_11 rfl (lv_at hl 0 rfl) ?_
    refine va_get (D := D) (ci := 4) (v := .ref (td 1)) (C := RX4) (T := TX4) (N := 6) hx hb hts hinX4 hown hK (hP.at 0 rfl) 0 rfl rfl 0 (by decide) w_9 (fun _ h9 => h9) rfl dX4_readSign_12 ?_
    refine lv_aload_n hx hb dX4_readSign_15 rfl (lv_at hl 0 rfl) ?_
    refine va_get (D := D) (ci := 4) (v := .int (nI (q.1))) (C := RX4) (T := TX4) (N := 6) hx hb hts hinX4 hown hK (hP.at 0 rfl) 0 rfl rfl 2 (by decide) w_23 (fun _ h9 => h9) rfl dX4_readSign_16 ?_
    refine fr_cald hx hb hK hP 1 (q.1) rfl (by omega) (by omega) dX4_readSign_19 ?_
    refine fr_val (show (nf ch) q.1 = nI (ch q.1) from rfl) ?_
    refine lv_iload_n hx hb dX4_readSign_20 rfl (lv_at hl 1 rfl) ?_
    refine fr_icmp_eq ((ch q.1)) (c) (by omega) (by omega) (tgt := 26) hx hb dX4_readSign_21 (by decide) (fun c_2 => ?_) (fun c_2 => ?_)
    · refine lv_aload_n hx hb dX4_readSign_26 rfl (lv_at hl 0 rfl) ?_
      refine lv_dup hx hb dX4_readSign_27 rfl ?_
      refine va_get (D := D) (ci := 4) (v := .int (nI (q.1))) (C := RX4) (T := TX4) (N := 6) hx hb hts hinX4 hown hK (hP.at 0 rfl) 0 rfl rfl 2 (by decide) w_23 (fun _ h9 => h9) rfl dX4_readSign_28 ?_
      refine lv_iconst (v := nI 1) hx hb dX4_readSign_31 (by decide) ?_
      refine fr_iadd (q.1) (1) hx hb dX4_readSign_32 ?_
      refine fr_put (T := T) (C := RX4) (TT := TX4) (N := 6) (ci := 4) (v := .int (nI ((q.1 + 1)))) (fs' := [[((td 0), .inr (4, [.ref (td 1), .int (nI (len)), .int (nI ((q.1 + 1))), .int (nI (kd)), .ref (td 2), .int (nI (q.2.2))]))], [((td 1), .inl (T 2, 90, .inl (nf ch)))], [((td 2), .inl (T 0, 5, .inl (nf q.2.1)))]]) (ty := .int) hx hb hts hinX4 tyX4 tyX4_ok nmX4 hown hK hP hD hS 0 rfl rfl 2 (by decide) rfl w_23 rfl rfl (by decide +kernel) rfl rfl (Nat.le_of_ble_eq_true rfl) dX4_readSign_33 (fun H locs hP hD hS => ?_)
      refine lv_iconst (v := nI 1) hx hb dX4_readSign_36 (by decide) ?_
      exact fr_zret hx hb hr hlk hP hS (by first | rfl | (simp only [sOk, rS, decide_true, decide_false, c_1, c_1', c_2, ↓reduceIte, Bool.false_eq_true, bI_true, bI_false, Bool.true_and, Bool.and_true, Bool.and_false, Bool.false_and, Bool.not_true, Bool.not_false, Bool.or_true, Bool.true_or, Bool.or_false, Bool.false_or] <;> rfl) | (simp [sOk, rS, decide_true, decide_false, c_1, c_1', c_2, bI]; done)) (by first | rfl | (simp only [sOk, rS, decide_true, decide_false, c_1, c_1', c_2, ↓reduceIte, Bool.false_eq_true, bI_true, bI_false, Bool.true_and, Bool.and_true, Bool.and_false, Bool.false_and, Bool.not_true, Bool.not_false, Bool.or_true, Bool.true_or, Bool.or_false, Bool.false_or] <;> rfl) | (simp [sOk, rS, decide_true, decide_false, c_1, c_1', c_2, bI]; done)) rfl dX4_readSign_37
    · refine lv_iconst (v := nI 0) hx hb dX4_readSign_24 (by decide) ?_
      exact fr_zret hx hb hr hlk hP hS (by first | rfl | (simp only [sOk, rS, decide_true, decide_false, c_1, c_1', c_2, ↓reduceIte, Bool.false_eq_true, bI_true, bI_false, Bool.true_and, Bool.and_true, Bool.and_false, Bool.false_and, Bool.not_true, Bool.not_false, Bool.or_true, Bool.true_or, Bool.or_false, Bool.false_or] <;> rfl) | (simp [sOk, rS, decide_true, decide_false, c_1, c_1', c_2, bI]; done)) (by first | rfl | (simp only [sOk, rS, decide_true, decide_false, c_1, c_1', c_2, ↓reduceIte, Bool.false_eq_true, bI_true, bI_false, Bool.true_and, Bool.and_true, Bool.and_false, Bool.false_and, Bool.not_true, Bool.not_false, Bool.or_true, Bool.true_or, Bool.or_false, Bool.false_or] <;> rfl) | (simp [sOk, rS, decide_true, decide_false, c_1, c_1', c_2, bI]; done)) rfl dX4_readSign_25
