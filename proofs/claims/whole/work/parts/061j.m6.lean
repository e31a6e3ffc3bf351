
set_option maxHeartbeats 8000000 in
set_option maxRecDepth 100000 in
theorem kX6_mark (l : Launch) (D : va_G) (T : Nat → ClassId) (Z : ZZ) (md : Nat → Nat) (n : Nat) (len : Nat) (p : Nat) (le : Nat) (σ : MS) (k : Nat) (j : Nat) (hk : k + 2 < 1872) (hj : j ≤ 2) : CtI l D T Z yX6_mark wsX6_mark ({ frames := 1, cells := 0, slots := 0, locals := 21 }) [[((md 0), .inr (6, [.ref (md 1), .int (nI (n)), .ref (md 2), .int (nI (len)), .int (nI (p)), .int (nI (le)), .ref (md 3), .ref (md 4)]))], [((md 1), .inl (T 0, 1872, .inl (σ)))]] [.ref (md 0), .int (nI (k)), .int (nI (j))] (if ps (σ (k + 1)) then σ (k + j) else -6) [[((md 0), .inr (6, [.ref (md 1), .int (nI (n)), .ref (md 2), .int (nI (len)), .int (nI (p)), .int (nI (le)), .ref (md 3), .ref (md 4)]))], [((md 1), .inl (T 0, 1872, .inl (σ)))]] := by
  refine CtI.of (cc := cX6_mark) (maxL := 3) (ret := (some .int)) (plainFor_of_name (by decide)) rfl rfl ?_
  intro pP eE s mM bW mE cC A hE hK hN hM hP hD hA
  obtain ⟨hx, hb, hr, hts, hown, hml, hlk⟩ := hE
  have hown : s.vm.findClass RX6 = some mM.cls := hown
  have hS : va_S A s.heap s.heap [] := va_S.rf
  have hl := lv_entry ([.ref (md 0), .int (nI (k)), .int (nI (j))]) (n := 3) (Nat.le_of_ble_eq_true rfl)
  rw [lg_entry_eq]
  generalize (lg_sl ([.ref (md 0), .int (nI (k)), .int (nI (j))]) ++ List.replicate (3 - (lg_sl ([.ref (md 0), .int (nI (k)), .int (nI (j))])).length) Slot.unset).toArray = ls at hl ⊢
  have hl : lv_has ls 3 [(0, .ref (md 0)), (1, .int (nI (k))), (2, .int (nI (j)))] := hl
  have w_7 := hts (.fieldLink RX6 7 "PoisonedMemoryModel" "s" "[I") (by decide +kernel)
  have hinX6 : ∀ w ∈ wsX60, w ∈ wsX6_mark := by decide +kernel
  refine lv_aload_n hx hb dX6_mark_0 rfl (lv_at hl 0 rfl) ?_
  refine lv_iload_n hx hb dX6_mark_1 rfl (lv_at hl 1 rfl) ?_
  refine fr_Vi (As := [.int (nI (k))]) (rest := []) (fs' := [[((md 0), .inr (6, [.ref (md 1), .int (nI (n)), .ref (md 2), .int (nI (len)), .int (nI (p)), .int (nI (le)), .ref (md 3), .ref (md 4)]))], [((md 1), .inl (T 0, 1872, .inl (σ)))]]) (ci := 6) (q0 := (RX6, TX6, 8)) (i0 := 0) ⟨hx, hb, hml, hown, hts⟩ (kX6_isPoisoned l D T Z md n len p le σ k (by omega)) (cwV 1 hts gX6_mark_X6_isPoisoned rfl rfl rfl (by decide +kernel) ⟨Nat.le_of_ble_eq_true rfl, Nat.le_of_ble_eq_true rfl⟩) hK hN hM hP hD hS hA [0, 1] rfl rfl rfl rfl rfl rfl hl.1 rfl (Nat.le_of_ble_eq_true rfl) dX6_mark_2 ⟨Nat.zero_le _, Nat.zero_le _⟩ (fun H locs hP hD hS => ?_)
  refine fr_ifeq_b (tgt := 19) hx hb dX6_mark_5 (by decide) (fun c_1 => ?_) (fun c_1 => ?_)
  · refine lv_bipush (v := (-6)) hx hb dX6_mark_19 (by decide) ?_
    exact fr_iret hx hb hr hlk hP hS (by first | with_reducible rfl | (simp only [c_1, ↓reduceIte, Bool.false_eq_true, bI_true, bI_false, Bool.true_and, Bool.and_true, Bool.and_false, Bool.false_and, Bool.not_true, Bool.not_false, Bool.or_true, Bool.true_or, Bool.or_false, Bool.false_or] <;> with_reducible rfl) | (simp only [c_1, ↓reduceIte, Bool.false_eq_true, bI_true, bI_false, Bool.true_and, Bool.and_true, Bool.and_false, Bool.false_and, Bool.not_true, Bool.not_false, Bool.or_true, Bool.true_or, Bool.or_false, Bool.false_or] <;> rfl) | (simp [c_1, bI]; done)) rfl dX6_mark_21
  · refine lv_aload_n hx hb dX6_mark_8 rfl (lv_at hl 0 rfl) ?_
    refine va_get (D := D) (ci := 6) (v := .ref (md 1)) (C := RX6) (T := TX6) (N := 8) hx hb hts hinX6 hown hK (hP.at 0 rfl) 0 rfl rfl 0 (by decide) w_7 (fun _ h9 => h9) rfl dX6_mark_9 ?_
    refine lv_iload_n hx hb dX6_mark_12 rfl (lv_at hl 1 rfl) ?_
    refine lv_iload_n hx hb dX6_mark_13 rfl (lv_at hl 2 rfl) ?_
    refine fr_iadd (k) (j) hx hb dX6_mark_14 ?_
    refine fr_iald hx hb hK hP 1 ((k + j)) rfl (by omega) (by omega) dX6_mark_15 ?_
    refine lv_goto (tgt := 21) hx hb dX6_mark_16 (by decide) ?_
    exact fr_iret hx hb hr hlk hP hS (by first | with_reducible rfl | (simp only [c_1, ↓reduceIte, Bool.false_eq_true, bI_true, bI_false, Bool.true_and, Bool.and_true, Bool.and_false, Bool.false_and, Bool.not_true, Bool.not_false, Bool.or_true, Bool.true_or, Bool.or_false, Bool.false_or] <;> with_reducible rfl) | (simp only [c_1, ↓reduceIte, Bool.false_eq_true, bI_true, bI_false, Bool.true_and, Bool.and_true, Bool.and_false, Bool.false_and, Bool.not_true, Bool.not_false, Bool.or_true, Bool.true_or, Bool.or_false, Bool.false_or] <;> rfl) | (simp [c_1, bI]; done)) rfl dX6_mark_21

set_option maxHeartbeats 8000000 in
set_option maxRecDepth 100000 in
theorem kX6_value (l : Launch) (D : va_G) (T : Nat → ClassId) (Z : ZZ) (md : Nat → Nat) (n : Nat) (len : Nat) (p : Nat) (le : Nat) (σ : MS) (w : Int32)  : CtI l D T Z yX6_value wsX6_value ({ frames := 2, cells := 0, slots := 0, locals := 42 }) [[((md 0), .inr (6, [.ref (md 1), .int (nI (n)), .ref (md 2), .int (nI (len)), .int (nI (p)), .int (nI (le)), .ref (md 3), .ref (md 4)]))], [((md 1), .inl (T 0, 1872, .inl (σ)))]] [.ref (md 0), .int (w)] (if iN w 32 then σ (wdt 0 (tn w)) else -1) [[((md 0), .inr (6, [.ref (md 1), .int (nI (n)), .ref (md 2), .int (nI (len)), .int (nI (p)), .int (nI (le)), .ref (md 3), .ref (md 4)]))], [((md 1), .inl (T 0, 1872, .inl (σ)))]] := by
  have hwd : wdt 0 (tn w) = 0 + 3 * tn w := rfl
  have hcp : cpt 0 (tn w) = 0 + 96 + 3 * tn w := rfl
  refine CtI.of (cc := cX6_value) (maxL := 2) (ret := (some .int)) (plainFor_of_name (by decide)) rfl rfl ?_
  intro pP eE s mM bW mE cC A hE hK hN hM hP hD hA
  obtain ⟨hx, hb, hr, hts, hown, hml, hlk⟩ := hE
  have hown : s.vm.findClass RX6 = some mM.cls := hown
  have hS : va_S A s.heap s.heap [] := va_S.rf
  have hl := lv_entry ([.ref (md 0), .int (w)]) (n := 2) (Nat.le_of_ble_eq_true rfl)
  rw [lg_entry_eq]
  generalize (lg_sl ([.ref (md 0), .int (w)]) ++ List.replicate (2 - (lg_sl ([.ref (md 0), .int (w)])).length) Slot.unset).toArray = ls at hl ⊢
  have hl : lv_has ls 2 [(0, .ref (md 0)), (1, .int (w))] := hl
  have w_7 := hts (.fieldLink RX6 7 "PoisonedMemoryModel" "s" "[I") (by decide +kernel)
  have hinX6 : ∀ w ∈ wsX60, w ∈ wsX6_value := by decide +kernel
  refine lv_iload_n hx hb dX6_value_0 rfl (lv_at hl 1 rfl) ?_
  refine fr_S0 (As := [.int (w)]) (rest := []) ⟨hx, hb, hml, hown, hts⟩ (kX6_isWord l D T Z w) (va_cwS 1 hts gX6_value_X6_isWord rfl rfl rfl (by decide +kernel) ⟨Nat.le_of_ble_eq_true rfl, Nat.le_of_ble_eq_true rfl⟩) hK hN hM hP hD hS hA rfl hl.1 rfl (Nat.le_of_ble_eq_true rfl) dX6_value_1 ⟨Nat.zero_le _, Nat.zero_le _⟩ (fun H locs hP hD hS => ?_)
  refine fr_ifeq_b (tgt := 20) hx hb dX6_value_4 (by decide) (fun c_1 => ?_) (fun c_1 => ?_)
  · refine lv_iconst (v := (-1)) hx hb dX6_value_20 (by decide) ?_
    exact fr_iret hx hb hr hlk hP hS (by first | with_reducible rfl | (simp only [c_1, ↓reduceIte, Bool.false_eq_true, bI_true, bI_false, Bool.true_and, Bool.and_true, Bool.and_false, Bool.false_and, Bool.not_true, Bool.not_false, Bool.or_true, Bool.true_or, Bool.or_false, Bool.false_or] <;> with_reducible rfl) | (simp only [c_1, ↓reduceIte, Bool.false_eq_true, bI_true, bI_false, Bool.true_and, Bool.and_true, Bool.and_false, Bool.false_and, Bool.not_true, Bool.not_false, Bool.or_true, Bool.true_or, Bool.or_false, Bool.false_or] <;> rfl) | (simp [c_1, bI]; done)) rfl dX6_value_21
  · have e_2 := iN_eq c_1
    have e_2b := iN_lt c_1 (by decide)
    refine lv_aload_n hx hb dX6_value_7 rfl (lv_at hl 0 rfl) ?_
    refine va_get (D := D) (ci := 6) (v := .ref (md 1)) (C := RX6) (T := TX6) (N := 8) hx hb hts hinX6 hown hK (hP.at 0 rfl) 0 rfl rfl 0 (by decide) w_7 (fun _ h9 => h9) rfl dX6_value_8 ?_
    refine lv_iconst (v := nI 0) hx hb dX6_value_11 (by decide) ?_
    refine lv_iload_n hx hb dX6_value_12 rfl (lv_at hl 1 rfl) ?_
    refine fr_val e_2 ?_
    refine fr_S0 (As := [.int (nI 0), .int (nI (tn w))]) (rest := [.ref (md 1)]) ⟨hx, hb, hml, hown, hts⟩ (kX6_wordAt l D T Z 0 (tn w)) (va_cwS 2 hts gX6_value_X6_wordAt rfl rfl rfl (by decide +kernel) ⟨Nat.le_of_ble_eq_true rfl, Nat.le_of_ble_eq_true rfl⟩) hK hN hM hP hD hS hA rfl hl.1 rfl (Nat.le_of_ble_eq_true rfl) dX6_value_13 ⟨Nat.zero_le _, Nat.zero_le _⟩ (fun H locs hP hD hS => ?_)
    refine fr_iald hx hb hK hP 1 (wdt 0 (tn w)) rfl (by omega) (by omega) dX6_value_16 ?_
    refine lv_goto (tgt := 21) hx hb dX6_value_17 (by decide) ?_
    exact fr_iret hx hb hr hlk hP hS (by first | with_reducible rfl | (simp only [c_1, ↓reduceIte, Bool.false_eq_true, bI_true, bI_false, Bool.true_and, Bool.and_true, Bool.and_false, Bool.false_and, Bool.not_true, Bool.not_false, Bool.or_true, Bool.true_or, Bool.or_false, Bool.false_or] <;> with_reducible rfl) | (simp only [c_1, ↓reduceIte, Bool.false_eq_true, bI_true, bI_false, Bool.true_and, Bool.and_true, Bool.and_false, Bool.false_and, Bool.not_true, Bool.not_false, Bool.or_true, Bool.true_or, Bool.or_false, Bool.false_or] <;> rfl) | (simp [c_1, bI]; done)) rfl dX6_value_21

set_option maxHeartbeats 8000000 in
set_option maxRecDepth 100000 in
theorem kX6_origin (l : Launch) (D : va_G) (T : Nat → ClassId) (Z : ZZ) (md : Nat → Nat) (n : Nat) (len : Nat) (p : Nat) (le : Nat) (σ : MS) (w : Int32)  : CtI l D T Z yX6_origin wsX6_origin ({ frames := 2, cells := 0, slots := 0, locals := 43 }) [[((md 0), .inr (6, [.ref (md 1), .int (nI (n)), .ref (md 2), .int (nI (len)), .int (nI (p)), .int (nI (le)), .ref (md 3), .ref (md 4)]))], [((md 1), .inl (T 0, 1872, .inl (σ)))]] [.ref (md 0), .int (w)] (if iN w 32 then (if ps (σ (wdt 0 (tn w) + 1)) then σ (wdt 0 (tn w) + 1) else -6) else -1) [[((md 0), .inr (6, [.ref (md 1), .int (nI (n)), .ref (md 2), .int (nI (len)), .int (nI (p)), .int (nI (le)), .ref (md 3), .ref (md 4)]))], [((md 1), .inl (T 0, 1872, .inl (σ)))]] := by
  have hwd : wdt 0 (tn w) = 0 + 3 * tn w := rfl
  have hcp : cpt 0 (tn w) = 0 + 96 + 3 * tn w := rfl
  refine CtI.of (cc := cX6_origin) (maxL := 2) (ret := (some .int)) (plainFor_of_name (by decide)) rfl rfl ?_
  intro pP eE s mM bW mE cC A hE hK hN hM hP hD hA
  obtain ⟨hx, hb, hr, hts, hown, hml, hlk⟩ := hE
  have hown : s.vm.findClass RX6 = some mM.cls := hown
  have hS : va_S A s.heap s.heap [] := va_S.rf
  have hl := lv_entry ([.ref (md 0), .int (w)]) (n := 2) (Nat.le_of_ble_eq_true rfl)
  rw [lg_entry_eq]
  generalize (lg_sl ([.ref (md 0), .int (w)]) ++ List.replicate (2 - (lg_sl ([.ref (md 0), .int (w)])).length) Slot.unset).toArray = ls at hl ⊢
  have hl : lv_has ls 2 [(0, .ref (md 0)), (1, .int (w))] := hl
  refine lv_iload_n hx hb dX6_origin_0 rfl (lv_at hl 1 rfl) ?_
  refine fr_S0 (As := [.int (w)]) (rest := []) ⟨hx, hb, hml, hown, hts⟩ (kX6_isWord l D T Z w) (va_cwS 1 hts gX6_origin_X6_isWord rfl rfl rfl (by decide +kernel) ⟨Nat.le_of_ble_eq_true rfl, Nat.le_of_ble_eq_true rfl⟩) hK hN hM hP hD hS hA rfl hl.1 rfl (Nat.le_of_ble_eq_true rfl) dX6_origin_1 ⟨Nat.zero_le _, Nat.zero_le _⟩ (fun H locs hP hD hS => ?_)
  refine fr_ifeq_b (tgt := 20) hx hb dX6_origin_4 (by decide) (fun c_1 => ?_) (fun c_1 => ?_)
  · refine lv_iconst (v := (-1)) hx hb dX6_origin_20 (by decide) ?_
    exact fr_iret hx hb hr hlk hP hS (by first | with_reducible rfl | (simp only [c_1, ↓reduceIte, Bool.false_eq_true, bI_true, bI_false, Bool.true_and, Bool.and_true, Bool.and_false, Bool.false_and, Bool.not_true, Bool.not_false, Bool.or_true, Bool.true_or, Bool.or_false, Bool.false_or] <;> with_reducible rfl) | (simp only [c_1, ↓reduceIte, Bool.false_eq_true, bI_true, bI_false, Bool.true_and, Bool.and_true, Bool.and_false, Bool.false_and, Bool.not_true, Bool.not_false, Bool.or_true, Bool.true_or, Bool.or_false, Bool.false_or] <;> rfl) | (simp [c_1, bI]; done)) rfl dX6_origin_21
  · have e_2 := iN_eq c_1
    have e_2b := iN_lt c_1 (by decide)
    refine lv_aload_n hx hb dX6_origin_7 rfl (lv_at hl 0 rfl) ?_
    refine lv_iconst (v := nI 0) hx hb dX6_origin_8 (by decide) ?_
    refine lv_iload_n hx hb dX6_origin_9 rfl (lv_at hl 1 rfl) ?_
    refine fr_val e_2 ?_
    refine fr_S0 (As := [.int (nI 0), .int (nI (tn w))]) (rest := [.ref (md 0)]) ⟨hx, hb, hml, hown, hts⟩ (kX6_wordAt l D T Z 0 (tn w)) (va_cwS 2 hts gX6_origin_X6_wordAt rfl rfl rfl (by decide +kernel) ⟨Nat.le_of_ble_eq_true rfl, Nat.le_of_ble_eq_true rfl⟩) hK hN hM hP hD hS hA rfl hl.1 rfl (Nat.le_of_ble_eq_true rfl) dX6_origin_10 ⟨Nat.zero_le _, Nat.zero_le _⟩ (fun H locs hP hD hS => ?_)
    refine lv_iconst (v := nI 1) hx hb dX6_origin_13 (by decide) ?_
    refine fr_Vi (As := [.int (nI (wdt 0 (tn w))), .int (nI 1)]) (rest := []) (fs' := [[((md 0), .inr (6, [.ref (md 1), .int (nI (n)), .ref (md 2), .int (nI (len)), .int (nI (p)), .int (nI (le)), .ref (md 3), .ref (md 4)]))], [((md 1), .inl (T 0, 1872, .inl (σ)))]]) (ci := 6) (q0 := (RX6, TX6, 8)) (i0 := 0) ⟨hx, hb, hml, hown, hts⟩ (kX6_mark l D T Z md n len p le σ (wdt 0 (tn w)) 1 (by omega) (by decide)) (cwV 2 hts gX6_origin_X6_mark rfl rfl rfl (by decide +kernel) ⟨Nat.le_of_ble_eq_true rfl, Nat.le_of_ble_eq_true rfl⟩) hK hN hM hP hD hS hA [0, 1] rfl rfl rfl rfl rfl rfl hl.1 rfl (Nat.le_of_ble_eq_true rfl) dX6_origin_14 ⟨Nat.zero_le _, Nat.zero_le _⟩ (fun H locs hP hD hS => ?_)
    refine lv_goto (tgt := 21) hx hb dX6_origin_17 (by decide) ?_
    exact fr_iret hx hb hr hlk hP hS (by first | with_reducible rfl | (simp only [c_1, ↓reduceIte, Bool.false_eq_true, bI_true, bI_false, Bool.true_and, Bool.and_true, Bool.and_false, Bool.false_and, Bool.not_true, Bool.not_false, Bool.or_true, Bool.true_or, Bool.or_false, Bool.false_or] <;> with_reducible rfl) | (simp only [c_1, ↓reduceIte, Bool.false_eq_true, bI_true, bI_false, Bool.true_and, Bool.and_true, Bool.and_false, Bool.false_and, Bool.not_true, Bool.not_false, Bool.or_true, Bool.true_or, Bool.or_false, Bool.false_or] <;> rfl) | (simp [c_1, bI]; done)) rfl dX6_origin_21

set_option maxHeartbeats 8000000 in
set_option maxRecDepth 100000 in
theorem kX6_hops (l : Launch) (D : va_G) (T : Nat → ClassId) (Z : ZZ) (md : Nat → Nat) (n : Nat) (len : Nat) (p : Nat) (le : Nat) (σ : MS) (w : Int32)  : CtI l D T Z yX6_hops wsX6_hops ({ frames := 2, cells := 0, slots := 0, locals := 43 }) [[((md 0), .inr (6, [.ref (md 1), .int (nI (n)), .ref (md 2), .int (nI (len)), .int (nI (p)), .int (nI (le)), .ref (md 3), .ref (md 4)]))], [((md 1), .inl (T 0, 1872, .inl (σ)))]] [.ref (md 0), .int (w)] (if iN w 32 then (if ps (σ (wdt 0 (tn w) + 1)) then σ (wdt 0 (tn w) + 2) else -6) else -1) [[((md 0), .inr (6, [.ref (md 1), .int (nI (n)), .ref (md 2), .int (nI (len)), .int (nI (p)), .int (nI (le)), .ref (md 3), .ref (md 4)]))], [((md 1), .inl (T 0, 1872, .inl (σ)))]] := by
  have hwd : wdt 0 (tn w) = 0 + 3 * tn w := rfl
  have hcp : cpt 0 (tn w) = 0 + 96 + 3 * tn w := rfl
  refine CtI.of (cc := cX6_hops) (maxL := 2) (ret := (some .int)) (plainFor_of_name (by decide)) rfl rfl ?_
  intro pP eE s mM bW mE cC A hE hK hN hM hP hD hA
  obtain ⟨hx, hb, hr, hts, hown, hml, hlk⟩ := hE
  have hown : s.vm.findClass RX6 = some mM.cls := hown
  have hS : va_S A s.heap s.heap [] := va_S.rf
  have hl := lv_entry ([.ref (md 0), .int (w)]) (n := 2) (Nat.le_of_ble_eq_true rfl)
  rw [lg_entry_eq]
  generalize (lg_sl ([.ref (md 0), .int (w)]) ++ List.replicate (2 - (lg_sl ([.ref (md 0), .int (w)])).length) Slot.unset).toArray = ls at hl ⊢
  have hl : lv_has ls 2 [(0, .ref (md 0)), (1, .int (w))] := hl
  refine lv_iload_n hx hb dX6_hops_0 rfl (lv_at hl 1 rfl) ?_
  refine fr_S0 (As := [.int (w)]) (rest := []) ⟨hx, hb, hml, hown, hts⟩ (kX6_isWord l D T Z w) (va_cwS 1 hts gX6_hops_X6_isWord rfl rfl rfl (by decide +kernel) ⟨Nat.le_of_ble_eq_true rfl, Nat.le_of_ble_eq_true rfl⟩) hK hN hM hP hD hS hA rfl hl.1 rfl (Nat.le_of_ble_eq_true rfl) dX6_hops_1 ⟨Nat.zero_le _, Nat.zero_le _⟩ (fun H locs hP hD hS => ?_)
  refine fr_ifeq_b (tgt := 20) hx hb dX6_hops_4 (by decide) (fun c_1 => ?_) (fun c_1 => ?_)
  · refine lv_iconst (v := (-1)) hx hb dX6_hops_20 (by decide) ?_
    exact fr_iret hx hb hr hlk hP hS (by first | with_reducible rfl | (simp only [c_1, ↓reduceIte, Bool.false_eq_true, bI_true, bI_false, Bool.true_and, Bool.and_true, Bool.and_false, Bool.false_and, Bool.not_true, Bool.not_false, Bool.or_true, Bool.true_or, Bool.or_false, Bool.false_or] <;> with_reducible rfl) | (simp only [c_1, ↓reduceIte, Bool.false_eq_true, bI_true, bI_false, Bool.true_and, Bool.and_true, Bool.and_false, Bool.false_and, Bool.not_true, Bool.not_false, Bool.or_true, Bool.true_or, Bool.or_false, Bool.false_or] <;> rfl) | (simp [c_1, bI]; done)) rfl dX6_hops_21
  · have e_2 := iN_eq c_1
    have e_2b := iN_lt c_1 (by decide)
    refine lv_aload_n hx hb dX6_hops_7 rfl (lv_at hl 0 rfl) ?_
    refine lv_iconst (v := nI 0) hx hb dX6_hops_8 (by decide) ?_
    refine lv_iload_n hx hb dX6_hops_9 rfl (lv_at hl 1 rfl) ?_
    refine fr_val e_2 ?_
    refine fr_S0 (As := [.int (nI 0), .int (nI (tn w))]) (rest := [.ref (md 0)]) ⟨hx, hb, hml, hown, hts⟩ (kX6_wordAt l D T Z 0 (tn w)) (va_cwS 2 hts gX6_hops_X6_wordAt rfl rfl rfl (by decide +kernel) ⟨Nat.le_of_ble_eq_true rfl, Nat.le_of_ble_eq_true rfl⟩) hK hN hM hP hD hS hA rfl hl.1 rfl (Nat.le_of_ble_eq_true rfl) dX6_hops_10 ⟨Nat.zero_le _, Nat.zero_le _⟩ (fun H locs hP hD hS => ?_)
    refine lv_iconst (v := nI 2) hx hb dX6_hops_13 (by decide) ?_
    refine fr_Vi (As := [.int (nI (wdt 0 (tn w))), .int (nI 2)]) (rest := []) (fs' := [[((md 0), .inr (6, [.ref (md 1), .int (nI (n)), .ref (md 2), .int (nI (len)), .int (nI (p)), .int (nI (le)), .ref (md 3), .ref (md 4)]))], [((md 1), .inl (T 0, 1872, .inl (σ)))]]) (ci := 6) (q0 := (RX6, TX6, 8)) (i0 := 0) ⟨hx, hb, hml, hown, hts⟩ (kX6_mark l D T Z md n len p le σ (wdt 0 (tn w)) 2 (by omega) (by decide)) (cwV 2 hts gX6_hops_X6_mark rfl rfl rfl (by decide +kernel) ⟨Nat.le_of_ble_eq_true rfl, Nat.le_of_ble_eq_true rfl⟩) hK hN hM hP hD hS hA [0, 1] rfl rfl rfl rfl rfl rfl hl.1 rfl (Nat.le_of_ble_eq_true rfl) dX6_hops_14 ⟨Nat.zero_le _, Nat.zero_le _⟩ (fun H locs hP hD hS => ?_)
    refine lv_goto (tgt := 21) hx hb dX6_hops_17 (by decide) ?_
    exact fr_iret hx hb hr hlk hP hS (by first | with_reducible rfl | (simp only [c_1, ↓reduceIte, Bool.false_eq_true, bI_true, bI_false, Bool.true_and, Bool.and_true, Bool.and_false, Bool.false_and, Bool.not_true, Bool.not_false, Bool.or_true, Bool.true_or, Bool.or_false, Bool.false_or] <;> with_reducible rfl) | (simp only [c_1, ↓reduceIte, Bool.false_eq_true, bI_true, bI_false, Bool.true_and, Bool.and_true, Bool.and_false, Bool.false_and, Bool.not_true, Bool.not_false, Bool.or_true, Bool.true_or, Bool.or_false, Bool.false_or] <;> rfl) | (simp [c_1, bI]; done)) rfl dX6_hops_21

set_option maxHeartbeats 8000000 in
set_option maxRecDepth 100000 in
theorem kX6_mirrorValue (l : Launch) (D : va_G) (T : Nat → ClassId) (Z : ZZ) (md : Nat → Nat) (n : Nat) (len : Nat) (p : Nat) (le : Nat) (σ : MS) (w : Int32)  : CtI l D T Z yX6_mirrorValue wsX6_mirrorValue ({ frames := 2, cells := 0, slots := 0, locals := 42 }) [[((md 0), .inr (6, [.ref (md 1), .int (nI (n)), .ref (md 2), .int (nI (len)), .int (nI (p)), .int (nI (le)), .ref (md 3), .ref (md 4)]))], [((md 1), .inl (T 0, 1872, .inl (σ)))]] [.ref (md 0), .int (w)] (if iN w 32 then (if mMi σ 0 (tn w) then σ (cpt 0 (tn w)) else -6) else -1) [[((md 0), .inr (6, [.ref (md 1), .int (nI (n)), .ref (md 2), .int (nI (len)), .int (nI (p)), .int (nI (le)), .ref (md 3), .ref (md 4)]))], [((md 1), .inl (T 0, 1872, .inl (σ)))]] := by
  have hwd : wdt 0 (tn w) = 0 + 3 * tn w := rfl
  have hcp : cpt 0 (tn w) = 0 + 96 + 3 * tn w := rfl
  refine CtI.of (cc := cX6_mirrorValue) (maxL := 2) (ret := (some .int)) (plainFor_of_name (by decide)) rfl rfl ?_
  intro pP eE s mM bW mE cC A hE hK hN hM hP hD hA
  obtain ⟨hx, hb, hr, hts, hown, hml, hlk⟩ := hE
  have hown : s.vm.findClass RX6 = some mM.cls := hown
  have hS : va_S A s.heap s.heap [] := va_S.rf
  have hl := lv_entry ([.ref (md 0), .int (w)]) (n := 2) (Nat.le_of_ble_eq_true rfl)
  rw [lg_entry_eq]
  generalize (lg_sl ([.ref (md 0), .int (w)]) ++ List.replicate (2 - (lg_sl ([.ref (md 0), .int (w)])).length) Slot.unset).toArray = ls at hl ⊢
  have hl : lv_has ls 2 [(0, .ref (md 0)), (1, .int (w))] := hl
  have w_7 := hts (.fieldLink RX6 7 "PoisonedMemoryModel" "s" "[I") (by decide +kernel)
  have hinX6 : ∀ w ∈ wsX60, w ∈ wsX6_mirrorValue := by decide +kernel
  refine lv_iload_n hx hb dX6_mirrorValue_0 rfl (lv_at hl 1 rfl) ?_
  refine fr_S0 (As := [.int (w)]) (rest := []) ⟨hx, hb, hml, hown, hts⟩ (kX6_isWord l D T Z w) (va_cwS 1 hts gX6_mirrorValue_X6_isWord rfl rfl rfl (by decide +kernel) ⟨Nat.le_of_ble_eq_true rfl, Nat.le_of_ble_eq_true rfl⟩) hK hN hM hP hD hS hA rfl hl.1 rfl (Nat.le_of_ble_eq_true rfl) dX6_mirrorValue_1 ⟨Nat.zero_le _, Nat.zero_le _⟩ (fun H locs hP hD hS => ?_)
  refine fr_ifne_b (tgt := 9) hx hb dX6_mirrorValue_4 (by decide) (fun c_1 => ?_) (fun c_1 => ?_)
  · have e_2 := iN_eq c_1
    have e_2b := iN_lt c_1 (by decide)
    refine lv_aload_n hx hb dX6_mirrorValue_9 rfl (lv_at hl 0 rfl) ?_
    refine lv_iconst (v := nI 0) hx hb dX6_mirrorValue_10 (by decide) ?_
    refine lv_iload_n hx hb dX6_mirrorValue_11 rfl (lv_at hl 1 rfl) ?_
    refine fr_val e_2 ?_
    refine fr_Vi (As := [.int (nI 0), .int (nI (tn w))]) (rest := []) (fs' := [[((md 0), .inr (6, [.ref (md 1), .int (nI (n)), .ref (md 2), .int (nI (len)), .int (nI (p)), .int (nI (le)), .ref (md 3), .ref (md 4)]))], [((md 1), .inl (T 0, 1872, .inl (σ)))]]) (ci := 6) (q0 := (RX6, TX6, 8)) (i0 := 0) ⟨hx, hb, hml, hown, hts⟩ (kX6_isMirrored l D T Z md n len p le σ 0 (tn w) (by decide) (by omega)) (cwV 2 hts gX6_mirrorValue_X6_isMirrored rfl rfl rfl (by decide +kernel) ⟨Nat.le_of_ble_eq_true rfl, Nat.le_of_ble_eq_true rfl⟩) hK hN hM hP hD hS hA [0, 1] rfl rfl rfl rfl rfl rfl hl.1 rfl (Nat.le_of_ble_eq_true rfl) dX6_mirrorValue_12 ⟨Nat.zero_le _, Nat.zero_le _⟩ (fun H locs hP hD hS => ?_)
    refine fr_ifeq_b (tgt := 31) hx hb dX6_mirrorValue_15 (by decide) (fun c_3 => ?_) (fun c_3 => ?_)
    · refine lv_bipush (v := (-6)) hx hb dX6_mirrorValue_31 (by decide) ?_
      exact fr_iret hx hb hr hlk hP hS (by first | with_reducible rfl | (simp only [c_1, c_3, ↓reduceIte, Bool.false_eq_true, bI_true, bI_false, Bool.true_and, Bool.and_true, Bool.and_false, Bool.false_and, Bool.not_true, Bool.not_false, Bool.or_true, Bool.true_or, Bool.or_false, Bool.false_or] <;> with_reducible rfl) | (simp only [c_1, c_3, ↓reduceIte, Bool.false_eq_true, bI_true, bI_false, Bool.true_and, Bool.and_true, Bool.and_false, Bool.false_and, Bool.not_true, Bool.not_false, Bool.or_true, Bool.true_or, Bool.or_false, Bool.false_or] <;> rfl) | (simp [c_1, c_3, bI]; done)) rfl dX6_mirrorValue_33
    · refine lv_aload_n hx hb dX6_mirrorValue_18 rfl (lv_at hl 0 rfl) ?_
      refine va_get (D := D) (ci := 6) (v := .ref (md 1)) (C := RX6) (T := TX6) (N := 8) hx hb hts hinX6 hown hK (hP.at 0 rfl) 0 rfl rfl 0 (by decide) w_7 (fun _ h9 => h9) rfl dX6_mirrorValue_19 ?_
      refine lv_iconst (v := nI 0) hx hb dX6_mirrorValue_22 (by decide) ?_
      refine lv_iload_n hx hb dX6_mirrorValue_23 rfl (lv_at hl 1 rfl) ?_
      refine fr_val e_2 ?_
      refine fr_S0 (As := [.int (nI 0), .int (nI (tn w))]) (rest := [.ref (md 1)]) ⟨hx, hb, hml, hown, hts⟩ (kX6_copyAt l D T Z 0 (tn w)) (va_cwS 2 hts gX6_mirrorValue_X6_copyAt rfl rfl rfl (by decide +kernel) ⟨Nat.le_of_ble_eq_true rfl, Nat.le_of_ble_eq_true rfl⟩) hK hN hM hP hD hS hA rfl hl.1 rfl (Nat.le_of_ble_eq_true rfl) dX6_mirrorValue_24 ⟨Nat.zero_le _, Nat.zero_le _⟩ (fun H locs hP hD hS => ?_)
      refine fr_iald hx hb hK hP 1 (cpt 0 (tn w)) rfl (by omega) (by omega) dX6_mirrorValue_27 ?_
      refine lv_goto (tgt := 33) hx hb dX6_mirrorValue_28 (by decide) ?_
      exact fr_iret hx hb hr hlk hP hS (by first | with_reducible rfl | (simp only [c_1, c_3, ↓reduceIte, Bool.false_eq_true, bI_true, bI_false, Bool.true_and, Bool.and_true, Bool.and_false, Bool.false_and, Bool.not_true, Bool.not_false, Bool.or_true, Bool.true_or, Bool.or_false, Bool.false_or] <;> with_reducible rfl) | (simp only [c_1, c_3, ↓reduceIte, Bool.false_eq_true, bI_true, bI_false, Bool.true_and, Bool.and_true, Bool.and_false, Bool.false_and, Bool.not_true, Bool.not_false, Bool.or_true, Bool.true_or, Bool.or_false, Bool.false_or] <;> rfl) | (simp [c_1, c_3, bI]; done)) rfl dX6_mirrorValue_33
  · refine lv_iconst (v := (-1)) hx hb dX6_mirrorValue_7 (by decide) ?_
    exact fr_iret hx hb hr hlk hP hS (by first | with_reducible rfl | (simp only [c_1, ↓reduceIte, Bool.false_eq_true, bI_true, bI_false, Bool.true_and, Bool.and_true, Bool.and_false, Bool.false_and, Bool.not_true, Bool.not_false, Bool.or_true, Bool.true_or, Bool.or_false, Bool.false_or] <;> with_reducible rfl) | (simp only [c_1, ↓reduceIte, Bool.false_eq_true, bI_true, bI_false, Bool.true_and, Bool.and_true, Bool.and_false, Bool.false_and, Bool.not_true, Bool.not_false, Bool.or_true, Bool.true_or, Bool.or_false, Bool.false_or] <;> rfl) | (simp [c_1, bI]; done)) rfl dX6_mirrorValue_8

set_option maxHeartbeats 8000000 in
set_option maxRecDepth 100000 in
theorem kX6_mirrorOrigin (l : Launch) (D : va_G) (T : Nat → ClassId) (Z : ZZ) (md : Nat → Nat) (n : Nat) (len : Nat) (p : Nat) (le : Nat) (σ : MS) (w : Int32)  : CtI l D T Z yX6_mirrorOrigin wsX6_mirrorOrigin ({ frames := 2, cells := 0, slots := 0, locals := 43 }) [[((md 0), .inr (6, [.ref (md 1), .int (nI (n)), .ref (md 2), .int (nI (len)), .int (nI (p)), .int (nI (le)), .ref (md 3), .ref (md 4)]))], [((md 1), .inl (T 0, 1872, .inl (σ)))]] [.ref (md 0), .int (w)] (if iN w 32 then (if mMi σ 0 (tn w) then (if ps (σ (cpt 0 (tn w) + 1)) then σ (cpt 0 (tn w) + 1) else -6) else -6) else -1) [[((md 0), .inr (6, [.ref (md 1), .int (nI (n)), .ref (md 2), .int (nI (len)), .int (nI (p)), .int (nI (le)), .ref (md 3), .ref (md 4)]))], [((md 1), .inl (T 0, 1872, .inl (σ)))]] := by
  have hwd : wdt 0 (tn w) = 0 + 3 * tn w := rfl
  have hcp : cpt 0 (tn w) = 0 + 96 + 3 * tn w := rfl
  refine CtI.of (cc := cX6_mirrorOrigin) (maxL := 2) (ret := (some .int)) (plainFor_of_name (by decide)) rfl rfl ?_
  intro pP eE s mM bW mE cC A hE hK hN hM hP hD hA
  obtain ⟨hx, hb, hr, hts, hown, hml, hlk⟩ := hE
  have hown : s.vm.findClass RX6 = some mM.cls := hown
  have hS : va_S A s.heap s.heap [] := va_S.rf
  have hl := lv_entry ([.ref (md 0), .int (w)]) (n := 2) (Nat.le_of_ble_eq_true rfl)
  rw [lg_entry_eq]
  generalize (lg_sl ([.ref (md 0), .int (w)]) ++ List.replicate (2 - (lg_sl ([.ref (md 0), .int (w)])).length) Slot.unset).toArray = ls at hl ⊢
  have hl : lv_has ls 2 [(0, .ref (md 0)), (1, .int (w))] := hl
  refine lv_iload_n hx hb dX6_mirrorOrigin_0 rfl (lv_at hl 1 rfl) ?_
  refine fr_S0 (As := [.int (w)]) (rest := []) ⟨hx, hb, hml, hown, hts⟩ (kX6_isWord l D T Z w) (va_cwS 1 hts gX6_mirrorOrigin_X6_isWord rfl rfl rfl (by decide +kernel) ⟨Nat.le_of_ble_eq_true rfl, Nat.le_of_ble_eq_true rfl⟩) hK hN hM hP hD hS hA rfl hl.1 rfl (Nat.le_of_ble_eq_true rfl) dX6_mirrorOrigin_1 ⟨Nat.zero_le _, Nat.zero_le _⟩ (fun H locs hP hD hS => ?_)
  refine fr_ifne_b (tgt := 9) hx hb dX6_mirrorOrigin_4 (by decide) (fun c_1 => ?_) (fun c_1 => ?_)
  · have e_2 := iN_eq c_1
    have e_2b := iN_lt c_1 (by decide)
    refine lv_aload_n hx hb dX6_mirrorOrigin_9 rfl (lv_at hl 0 rfl) ?_
    refine lv_iconst (v := nI 0) hx hb dX6_mirrorOrigin_10 (by decide) ?_
    refine lv_iload_n hx hb dX6_mirrorOrigin_11 rfl (lv_at hl 1 rfl) ?_
    refine fr_val e_2 ?_
    refine fr_Vi (As := [.int (nI 0), .int (nI (tn w))]) (rest := []) (fs' := [[((md 0), .inr (6, [.ref (md 1), .int (nI (n)), .ref (md 2), .int (nI (len)), .int (nI (p)), .int (nI (le)), .ref (md 3), .ref (md 4)]))], [((md 1), .inl (T 0, 1872, .inl (σ)))]]) (ci := 6) (q0 := (RX6, TX6, 8)) (i0 := 0) ⟨hx, hb, hml, hown, hts⟩ (kX6_isMirrored l D T Z md n len p le σ 0 (tn w) (by decide) (by omega)) (cwV 2 hts gX6_mirrorOrigin_X6_isMirrored rfl rfl rfl (by decide +kernel) ⟨Nat.le_of_ble_eq_true rfl, Nat.le_of_ble_eq_true rfl⟩) hK hN hM hP hD hS hA [0, 1] rfl rfl rfl rfl rfl rfl hl.1 rfl (Nat.le_of_ble_eq_true rfl) dX6_mirrorOrigin_12 ⟨Nat.zero_le _, Nat.zero_le _⟩ (fun H locs hP hD hS => ?_)
    refine fr_ifeq_b (tgt := 31) hx hb dX6_mirrorOrigin_15 (by decide) (fun c_3 => ?_) (fun c_3 => ?_)
    · refine lv_bipush (v := (-6)) hx hb dX6_mirrorOrigin_31 (by decide) ?_
      exact fr_iret hx hb hr hlk hP hS (by first | with_reducible rfl | (simp only [c_1, c_3, ↓reduceIte, Bool.false_eq_true, bI_true, bI_false, Bool.true_and, Bool.and_true, Bool.and_false, Bool.false_and, Bool.not_true, Bool.not_false, Bool.or_true, Bool.true_or, Bool.or_false, Bool.false_or] <;> with_reducible rfl) | (simp only [c_1, c_3, ↓reduceIte, Bool.false_eq_true, bI_true, bI_false, Bool.true_and, Bool.and_true, Bool.and_false, Bool.false_and, Bool.not_true, Bool.not_false, Bool.or_true, Bool.true_or, Bool.or_false, Bool.false_or] <;> rfl) | (simp [c_1, c_3, bI]; done)) rfl dX6_mirrorOrigin_33
    · refine lv_aload_n hx hb dX6_mirrorOrigin_18 rfl (lv_at hl 0 rfl) ?_
      refine lv_iconst (v := nI 0) hx hb dX6_mirrorOrigin_19 (by decide) ?_
      refine lv_iload_n hx hb dX6_mirrorOrigin_20 rfl (lv_at hl 1 rfl) ?_
      refine fr_val e_2 ?_
      refine fr_S0 (As := [.int (nI 0), .int (nI (tn w))]) (rest := [.ref (md 0)]) ⟨hx, hb, hml, hown, hts⟩ (kX6_copyAt l D T Z 0 (tn w)) (va_cwS 2 hts gX6_mirrorOrigin_X6_copyAt rfl rfl rfl (by decide +kernel) ⟨Nat.le_of_ble_eq_true rfl, Nat.le_of_ble_eq_true rfl⟩) hK hN hM hP hD hS hA rfl hl.1 rfl (Nat.le_of_ble_eq_true rfl) dX6_mirrorOrigin_21 ⟨Nat.zero_le _, Nat.zero_le _⟩ (fun H locs hP hD hS => ?_)
      refine lv_iconst (v := nI 1) hx hb dX6_mirrorOrigin_24 (by decide) ?_
      refine fr_Vi (As := [.int (nI (cpt 0 (tn w))), .int (nI 1)]) (rest := []) (fs' := [[((md 0), .inr (6, [.ref (md 1), .int (nI (n)), .ref (md 2), .int (nI (len)), .int (nI (p)), .int (nI (le)), .ref (md 3), .ref (md 4)]))], [((md 1), .inl (T 0, 1872, .inl (σ)))]]) (ci := 6) (q0 := (RX6, TX6, 8)) (i0 := 0) ⟨hx, hb, hml, hown, hts⟩ (kX6_mark l D T Z md n len p le σ (cpt 0 (tn w)) 1 (by omega) (by decide)) (cwV 2 hts gX6_mirrorOrigin_X6_mark rfl rfl rfl (by decide +kernel) ⟨Nat.le_of_ble_eq_true rfl, Nat.le_of_ble_eq_true rfl⟩) hK hN hM hP hD hS hA [0, 1] rfl rfl rfl rfl rfl rfl hl.1 rfl (Nat.le_of_ble_eq_true rfl) dX6_mirrorOrigin_25 ⟨Nat.zero_le _, Nat.zero_le _⟩ (fun H locs hP hD hS => ?_)
      refine lv_goto (tgt := 33) hx hb dX6_mirrorOrigin_28 (by decide) ?_
      exact fr_iret hx hb hr hlk hP hS (by first | with_reducible rfl | (simp only [c_1, c_3, ↓reduceIte, Bool.false_eq_true, bI_true, bI_false, Bool.true_and, Bool.and_true, Bool.and_false, Bool.false_and, Bool.not_true, Bool.not_false, Bool.or_true, Bool.true_or, Bool.or_false, Bool.false_or] <;> with_reducible rfl) | (simp only [c_1, c_3, ↓reduceIte, Bool.false_eq_true, bI_true, bI_false, Bool.true_and, Bool.and_true, Bool.and_false, Bool.false_and, Bool.not_true, Bool.not_false, Bool.or_true, Bool.true_or, Bool.or_false, Bool.false_or] <;> rfl) | (simp [c_1, c_3, bI]; done)) rfl dX6_mirrorOrigin_33
  · refine lv_iconst (v := (-1)) hx hb dX6_mirrorOrigin_7 (by decide) ?_
    exact fr_iret hx hb hr hlk hP hS (by first | with_reducible rfl | (simp only [c_1, ↓reduceIte, Bool.false_eq_true, bI_true, bI_false, Bool.true_and, Bool.and_true, Bool.and_false, Bool.false_and, Bool.not_true, Bool.not_false, Bool.or_true, Bool.true_or, Bool.or_false, Bool.false_or] <;> with_reducible rfl) | (simp only [c_1, ↓reduceIte, Bool.false_eq_true, bI_true, bI_false, Bool.true_and, Bool.and_true, Bool.and_false, Bool.false_and, Bool.not_true, Bool.not_false, Bool.or_true, Bool.true_or, Bool.or_false, Bool.false_or] <;> rfl) | (simp [c_1, bI]; done)) rfl dX6_mirrorOrigin_8

set_option maxHeartbeats 8000000 in
set_option maxRecDepth 100000 in
theorem kX6_register (l : Launch) (D : va_G) (T : Nat → ClassId) (Z : ZZ) (md : Nat → Nat) (n : Nat) (len : Nat) (p : Nat) (le : Nat) (σ : MS) (t : Int32) (r : Int32)  : CtI l D T Z yX6_register wsX6_register ({ frames := 2, cells := 0, slots := 0, locals := 42 }) [[((md 0), .inr (6, [.ref (md 1), .int (nI (n)), .ref (md 2), .int (nI (len)), .int (nI (p)), .int (nI (le)), .ref (md 3), .ref (md 4)]))], [((md 1), .inl (T 0, 1872, .inl (σ)))]] [.ref (md 0), .int (t), .int (r)] (if iN t 4 && iN r 4 then σ (rgt 0 (tn t) (tn r)) else -1) [[((md 0), .inr (6, [.ref (md 1), .int (nI (n)), .ref (md 2), .int (nI (len)), .int (nI (p)), .int (nI (le)), .ref (md 3), .ref (md 4)]))], [((md 1), .inl (T 0, 1872, .inl (σ)))]] := by
  have hrg : rgt 0 (tn t) (tn r) = 0 + 192 + 3 * (4 * tn t + tn r) := rfl
  refine CtI.of (cc := cX6_register) (maxL := 3) (ret := (some .int)) (plainFor_of_name (by decide)) rfl rfl ?_
  intro pP eE s mM bW mE cC A hE hK hN hM hP hD hA
  obtain ⟨hx, hb, hr, hts, hown, hml, hlk⟩ := hE
  have hown : s.vm.findClass RX6 = some mM.cls := hown
  have hS : va_S A s.heap s.heap [] := va_S.rf
  have hl := lv_entry ([.ref (md 0), .int (t), .int (r)]) (n := 3) (Nat.le_of_ble_eq_true rfl)
  rw [lg_entry_eq]
  generalize (lg_sl ([.ref (md 0), .int (t), .int (r)]) ++ List.replicate (3 - (lg_sl ([.ref (md 0), .int (t), .int (r)])).length) Slot.unset).toArray = ls at hl ⊢
  have hl : lv_has ls 3 [(0, .ref (md 0)), (1, .int (t)), (2, .int (r))] := hl
  have w_7 := hts (.fieldLink RX6 7 "PoisonedMemoryModel" "s" "[I") (by decide +kernel)
  have hinX6 : ∀ w ∈ wsX60, w ∈ wsX6_register := by decide +kernel
  refine lv_iload_n hx hb dX6_register_0 rfl (lv_at hl 1 rfl) ?_
  refine fr_S0 (As := [.int (t)]) (rest := []) ⟨hx, hb, hml, hown, hts⟩ (kX6_isOne l D T Z t) (va_cwS 1 hts gX6_register_X6_isOne rfl rfl rfl (by decide +kernel) ⟨Nat.le_of_ble_eq_true rfl, Nat.le_of_ble_eq_true rfl⟩) hK hN hM hP hD hS hA rfl hl.1 rfl (Nat.le_of_ble_eq_true rfl) dX6_register_1 ⟨Nat.zero_le _, Nat.zero_le _⟩ (fun H locs hP hD hS => ?_)
  refine fr_ifeq_b (tgt := 28) hx hb dX6_register_4 (by decide) (fun c_1 => ?_) (fun c_1 => ?_)
  · refine lv_iconst (v := (-1)) hx hb dX6_register_28 (by decide) ?_
    exact fr_iret hx hb hr hlk hP hS (by first | with_reducible rfl | (simp only [c_1, ↓reduceIte, Bool.false_eq_true, bI_true, bI_false, Bool.true_and, Bool.and_true, Bool.and_false, Bool.false_and, Bool.not_true, Bool.not_false, Bool.or_true, Bool.true_or, Bool.or_false, Bool.false_or] <;> with_reducible rfl) | (simp only [c_1, ↓reduceIte, Bool.false_eq_true, bI_true, bI_false, Bool.true_and, Bool.and_true, Bool.and_false, Bool.false_and, Bool.not_true, Bool.not_false, Bool.or_true, Bool.true_or, Bool.or_false, Bool.false_or] <;> rfl) | (simp [c_1, bI]; done)) rfl dX6_register_29
  · have e_2 := iN_eq c_1
    have e_2b := iN_lt c_1 (by decide)
    refine lv_iload_n hx hb dX6_register_7 rfl (lv_at hl 2 rfl) ?_
    refine fr_S0 (As := [.int (r)]) (rest := []) ⟨hx, hb, hml, hown, hts⟩ (kX6_isOne l D T Z r) (va_cwS 1 hts gX6_register_X6_isOne rfl rfl rfl (by decide +kernel) ⟨Nat.le_of_ble_eq_true rfl, Nat.le_of_ble_eq_true rfl⟩) hK hN hM hP hD hS hA rfl hl.1 rfl (Nat.le_of_ble_eq_true rfl) dX6_register_8 ⟨Nat.zero_le _, Nat.zero_le _⟩ (fun H locs hP hD hS => ?_)
    refine fr_ifeq_b (tgt := 28) hx hb dX6_register_11 (by decide) (fun c_3 => ?_) (fun c_3 => ?_)
    · refine lv_iconst (v := (-1)) hx hb dX6_register_28 (by decide) ?_
      exact fr_iret hx hb hr hlk hP hS (by first | with_reducible rfl | (simp only [c_1, c_3, ↓reduceIte, Bool.false_eq_true, bI_true, bI_false, Bool.true_and, Bool.and_true, Bool.and_false, Bool.false_and, Bool.not_true, Bool.not_false, Bool.or_true, Bool.true_or, Bool.or_false, Bool.false_or] <;> with_reducible rfl) | (simp only [c_1, c_3, ↓reduceIte, Bool.false_eq_true, bI_true, bI_false, Bool.true_and, Bool.and_true, Bool.and_false, Bool.false_and, Bool.not_true, Bool.not_false, Bool.or_true, Bool.true_or, Bool.or_false, Bool.false_or] <;> rfl) | (simp [c_1, c_3, bI]; done)) rfl dX6_register_29
    · have e_4 := iN_eq c_3
      have e_4b := iN_lt c_3 (by decide)
      refine lv_aload_n hx hb dX6_register_14 rfl (lv_at hl 0 rfl) ?_
      refine va_get (D := D) (ci := 6) (v := .ref (md 1)) (C := RX6) (T := TX6) (N := 8) hx hb hts hinX6 hown hK (hP.at 0 rfl) 0 rfl rfl 0 (by decide) w_7 (fun _ h9 => h9) rfl dX6_register_15 ?_
      refine lv_iconst (v := nI 0) hx hb dX6_register_18 (by decide) ?_
      refine lv_iload_n hx hb dX6_register_19 rfl (lv_at hl 1 rfl) ?_
      refine fr_val e_2 ?_
      refine lv_iload_n hx hb dX6_register_20 rfl (lv_at hl 2 rfl) ?_
      refine fr_val e_4 ?_
      refine fr_S0 (As := [.int (nI 0), .int (nI (tn t)), .int (nI (tn r))]) (rest := [.ref (md 1)]) ⟨hx, hb, hml, hown, hts⟩ (kX6_registerAt l D T Z 0 (tn t) (tn r)) (va_cwS 3 hts gX6_register_X6_registerAt rfl rfl rfl (by decide +kernel) ⟨Nat.le_of_ble_eq_true rfl, Nat.le_of_ble_eq_true rfl⟩) hK hN hM hP hD hS hA rfl hl.1 rfl (Nat.le_of_ble_eq_true rfl) dX6_register_21 ⟨Nat.zero_le _, Nat.zero_le _⟩ (fun H locs hP hD hS => ?_)
      refine fr_iald hx hb hK hP 1 (rgt 0 (tn t) (tn r)) rfl (by omega) (by omega) dX6_register_24 ?_
      refine lv_goto (tgt := 29) hx hb dX6_register_25 (by decide) ?_
      exact fr_iret hx hb hr hlk hP hS (by first | with_reducible rfl | (simp only [c_1, c_3, ↓reduceIte, Bool.false_eq_true, bI_true, bI_false, Bool.true_and, Bool.and_true, Bool.and_false, Bool.false_and, Bool.not_true, Bool.not_false, Bool.or_true, Bool.true_or, Bool.or_false, Bool.false_or] <;> with_reducible rfl) | (simp only [c_1, c_3, ↓reduceIte, Bool.false_eq_true, bI_true, bI_false, Bool.true_and, Bool.and_true, Bool.and_false, Bool.false_and, Bool.not_true, Bool.not_false, Bool.or_true, Bool.true_or, Bool.or_false, Bool.false_or] <;> rfl) | (simp [c_1, c_3, bI]; done)) rfl dX6_register_29

set_option maxHeartbeats 8000000 in
set_option maxRecDepth 100000 in
theorem kX6_registerOrigin (l : Launch) (D : va_G) (T : Nat → ClassId) (Z : ZZ) (md : Nat → Nat) (n : Nat) (len : Nat) (p : Nat) (le : Nat) (σ : MS) (t : Int32) (r : Int32)  : CtI l D T Z yX6_registerOrigin wsX6_registerOrigin ({ frames := 2, cells := 0, slots := 0, locals := 43 }) [[((md 0), .inr (6, [.ref (md 1), .int (nI (n)), .ref (md 2), .int (nI (len)), .int (nI (p)), .int (nI (le)), .ref (md 3), .ref (md 4)]))], [((md 1), .inl (T 0, 1872, .inl (σ)))]] [.ref (md 0), .int (t), .int (r)] (if iN t 4 && iN r 4 then (if ps (σ (rgt 0 (tn t) (tn r) + 1)) then σ (rgt 0 (tn t) (tn r) + 1) else -6) else -1) [[((md 0), .inr (6, [.ref (md 1), .int (nI (n)), .ref (md 2), .int (nI (len)), .int (nI (p)), .int (nI (le)), .ref (md 3), .ref (md 4)]))], [((md 1), .inl (T 0, 1872, .inl (σ)))]] := by
  have hrg : rgt 0 (tn t) (tn r) = 0 + 192 + 3 * (4 * tn t + tn r) := rfl
  refine CtI.of (cc := cX6_registerOrigin) (maxL := 3) (ret := (some .int)) (plainFor_of_name (by decide)) rfl rfl ?_
  intro pP eE s mM bW mE cC A hE hK hN hM hP hD hA
  obtain ⟨hx, hb, hr, hts, hown, hml, hlk⟩ := hE
  have hown : s.vm.findClass RX6 = some mM.cls := hown
  have hS : va_S A s.heap s.heap [] := va_S.rf
  have hl := lv_entry ([.ref (md 0), .int (t), .int (r)]) (n := 3) (Nat.le_of_ble_eq_true rfl)
  rw [lg_entry_eq]
  generalize (lg_sl ([.ref (md 0), .int (t), .int (r)]) ++ List.replicate (3 - (lg_sl ([.ref (md 0), .int (t), .int (r)])).length) Slot.unset).toArray = ls at hl ⊢
  have hl : lv_has ls 3 [(0, .ref (md 0)), (1, .int (t)), (2, .int (r))] := hl
  refine lv_iload_n hx hb dX6_registerOrigin_0 rfl (lv_at hl 1 rfl) ?_
  refine fr_S0 (As := [.int (t)]) (rest := []) ⟨hx, hb, hml, hown, hts⟩ (kX6_isOne l D T Z t) (va_cwS 1 hts gX6_registerOrigin_X6_isOne rfl rfl rfl (by decide +kernel) ⟨Nat.le_of_ble_eq_true rfl, Nat.le_of_ble_eq_true rfl⟩) hK hN hM hP hD hS hA rfl hl.1 rfl (Nat.le_of_ble_eq_true rfl) dX6_registerOrigin_1 ⟨Nat.zero_le _, Nat.zero_le _⟩ (fun H locs hP hD hS => ?_)
  refine fr_ifeq_b (tgt := 28) hx hb dX6_registerOrigin_4 (by decide) (fun c_1 => ?_) (fun c_1 => ?_)
  · refine lv_iconst (v := (-1)) hx hb dX6_registerOrigin_28 (by decide) ?_
    exact fr_iret hx hb hr hlk hP hS (by first | with_reducible rfl | (simp only [c_1, ↓reduceIte, Bool.false_eq_true, bI_true, bI_false, Bool.true_and, Bool.and_true, Bool.and_false, Bool.false_and, Bool.not_true, Bool.not_false, Bool.or_true, Bool.true_or, Bool.or_false, Bool.false_or] <;> with_reducible rfl) | (simp only [c_1, ↓reduceIte, Bool.false_eq_true, bI_true, bI_false, Bool.true_and, Bool.and_true, Bool.and_false, Bool.false_and, Bool.not_true, Bool.not_false, Bool.or_true, Bool.true_or, Bool.or_false, Bool.false_or] <;> rfl) | (simp [c_1, bI]; done)) rfl dX6_registerOrigin_29
  · have e_2 := iN_eq c_1
    have e_2b := iN_lt c_1 (by decide)
    refine lv_iload_n hx hb dX6_registerOrigin_7 rfl (lv_at hl 2 rfl) ?_
    refine fr_S0 (As := [.int (r)]) (rest := []) ⟨hx, hb, hml, hown, hts⟩ (kX6_isOne l D T Z r) (va_cwS 1 hts gX6_registerOrigin_X6_isOne rfl rfl rfl (by decide +kernel) ⟨Nat.le_of_ble_eq_true rfl, Nat.le_of_ble_eq_true rfl⟩) hK hN hM hP hD hS hA rfl hl.1 rfl (Nat.le_of_ble_eq_true rfl) dX6_registerOrigin_8 ⟨Nat.zero_le _, Nat.zero_le _⟩ (fun H locs hP hD hS => ?_)
    refine fr_ifeq_b (tgt := 28) hx hb dX6_registerOrigin_11 (by decide) (fun c_3 => ?_) (fun c_3 => ?_)
    · refine lv_iconst (v := (-1)) hx hb dX6_registerOrigin_28 (by decide) ?_
      exact fr_iret hx hb hr hlk hP hS (by first | with_reducible rfl | (simp only [c_1, c_3, ↓reduceIte, Bool.false_eq_true, bI_true, bI_false, Bool.true_and, Bool.and_true, Bool.and_false, Bool.false_and, Bool.not_true, Bool.not_false, Bool.or_true, Bool.true_or, Bool.or_false, Bool.false_or] <;> with_reducible rfl) | (simp only [c_1, c_3, ↓reduceIte, Bool.false_eq_true, bI_true, bI_false, Bool.true_and, Bool.and_true, Bool.and_false, Bool.false_and, Bool.not_true, Bool.not_false, Bool.or_true, Bool.true_or, Bool.or_false, Bool.false_or] <;> rfl) | (simp [c_1, c_3, bI]; done)) rfl dX6_registerOrigin_29
    · have e_4 := iN_eq c_3
      have e_4b := iN_lt c_3 (by decide)
      refine lv_aload_n hx hb dX6_registerOrigin_14 rfl (lv_at hl 0 rfl) ?_
      refine lv_iconst (v := nI 0) hx hb dX6_registerOrigin_15 (by decide) ?_
      refine lv_iload_n hx hb dX6_registerOrigin_16 rfl (lv_at hl 1 rfl) ?_
      refine fr_val e_2 ?_
      refine lv_iload_n hx hb dX6_registerOrigin_17 rfl (lv_at hl 2 rfl) ?_
      refine fr_val e_4 ?_
      refine fr_S0 (As := [.int (nI 0), .int (nI (tn t)), .int (nI (tn r))]) (rest := [.ref (md 0)]) ⟨hx, hb, hml, hown, hts⟩ (kX6_registerAt l D T Z 0 (tn t) (tn r)) (va_cwS 3 hts gX6_registerOrigin_X6_registerAt rfl rfl rfl (by decide +kernel) ⟨Nat.le_of_ble_eq_true rfl, Nat.le_of_ble_eq_true rfl⟩) hK hN hM hP hD hS hA rfl hl.1 rfl (Nat.le_of_ble_eq_true rfl) dX6_registerOrigin_18 ⟨Nat.zero_le _, Nat.zero_le _⟩ (fun H locs hP hD hS => ?_)
      refine lv_iconst (v := nI 1) hx hb dX6_registerOrigin_21 (by decide) ?_
      refine fr_Vi (As := [.int (nI (rgt 0 (tn t) (tn r))), .int (nI 1)]) (rest := []) (fs' := [[((md 0), .inr (6, [.ref (md 1), .int (nI (n)), .ref (md 2), .int (nI (len)), .int (nI (p)), .int (nI (le)), .ref (md 3), .ref (md 4)]))], [((md 1), .inl (T 0, 1872, .inl (σ)))]]) (ci := 6) (q0 := (RX6, TX6, 8)) (i0 := 0) ⟨hx, hb, hml, hown, hts⟩ (kX6_mark l D T Z md n len p le σ (rgt 0 (tn t) (tn r)) 1 (by omega) (by decide)) (cwV 2 hts gX6_registerOrigin_X6_mark rfl rfl rfl (by decide +kernel) ⟨Nat.le_of_ble_eq_true rfl, Nat.le_of_ble_eq_true rfl⟩) hK hN hM hP hD hS hA [0, 1] rfl rfl rfl rfl rfl rfl hl.1 rfl (Nat.le_of_ble_eq_true rfl) dX6_registerOrigin_22 ⟨Nat.zero_le _, Nat.zero_le _⟩ (fun H locs hP hD hS => ?_)
      refine lv_goto (tgt := 29) hx hb dX6_registerOrigin_25 (by decide) ?_
      exact fr_iret hx hb hr hlk hP hS (by first | with_reducible rfl | (simp only [c_1, c_3, ↓reduceIte, Bool.false_eq_true, bI_true, bI_false, Bool.true_and, Bool.and_true, Bool.and_false, Bool.false_and, Bool.not_true, Bool.not_false, Bool.or_true, Bool.true_or, Bool.or_false, Bool.false_or] <;> with_reducible rfl) | (simp only [c_1, c_3, ↓reduceIte, Bool.false_eq_true, bI_true, bI_false, Bool.true_and, Bool.and_true, Bool.and_false, Bool.false_and, Bool.not_true, Bool.not_false, Bool.or_true, Bool.true_or, Bool.or_false, Bool.false_or] <;> rfl) | (simp [c_1, c_3, bI]; done)) rfl dX6_registerOrigin_29

set_option maxHeartbeats 8000000 in
set_option maxRecDepth 100000 in
theorem kX6_registerHops (l : Launch) (D : va_G) (T : Nat → ClassId) (Z : ZZ) (md : Nat → Nat) (n : Nat) (len : Nat) (p : Nat) (le : Nat) (σ : MS) (t : Int32) (r : Int32)  : CtI l D T Z yX6_registerHops wsX6_registerHops ({ frames := 2, cells := 0, slots := 0, locals := 43 }) [[((md 0), .inr (6, [.ref (md 1), .int (nI (n)), .ref (md 2), .int (nI (len)), .int (nI (p)), .int (nI (le)), .ref (md 3), .ref (md 4)]))], [((md 1), .inl (T 0, 1872, .inl (σ)))]] [.ref (md 0), .int (t), .int (r)] (if iN t 4 && iN r 4 then (if ps (σ (rgt 0 (tn t) (tn r) + 1)) then σ (rgt 0 (tn t) (tn r) + 2) else -6) else -1) [[((md 0), .inr (6, [.ref (md 1), .int (nI (n)), .ref (md 2), .int (nI (len)), .int (nI (p)), .int (nI (le)), .ref (md 3), .ref (md 4)]))], [((md 1), .inl (T 0, 1872, .inl (σ)))]] := by
  have hrg : rgt 0 (tn t) (tn r) = 0 + 192 + 3 * (4 * tn t + tn r) := rfl
  refine CtI.of (cc := cX6_registerHops) (maxL := 3) (ret := (some .int)) (plainFor_of_name (by decide)) rfl rfl ?_
  intro pP eE s mM bW mE cC A hE hK hN hM hP hD hA
  obtain ⟨hx, hb, hr, hts, hown, hml, hlk⟩ := hE
  have hown : s.vm.findClass RX6 = some mM.cls := hown
  have hS : va_S A s.heap s.heap [] := va_S.rf
  have hl := lv_entry ([.ref (md 0), .int (t), .int (r)]) (n := 3) (Nat.le_of_ble_eq_true rfl)
  rw [lg_entry_eq]
  generalize (lg_sl ([.ref (md 0), .int (t), .int (r)]) ++ List.replicate (3 - (lg_sl ([.ref (md 0), .int (t), .int (r)])).length) Slot.unset).toArray = ls at hl ⊢
  have hl : lv_has ls 3 [(0, .ref (md 0)), (1, .int (t)), (2, .int (r))] := hl
  refine lv_iload_n hx hb dX6_registerHops_0 rfl (lv_at hl 1 rfl) ?_
  refine fr_S0 (As := [.int (t)]) (rest := []) ⟨hx, hb, hml, hown, hts⟩ (kX6_isOne l D T Z t) (va_cwS 1 hts gX6_registerHops_X6_isOne rfl rfl rfl (by decide +kernel) ⟨Nat.le_of_ble_eq_true rfl, Nat.le_of_ble_eq_true rfl⟩) hK hN hM hP hD hS hA rfl hl.1 rfl (Nat.le_of_ble_eq_true rfl) dX6_registerHops_1 ⟨Nat.zero_le _, Nat.zero_le _⟩ (fun H locs hP hD hS => ?_)
  refine fr_ifeq_b (tgt := 28) hx hb dX6_registerHops_4 (by decide) (fun c_1 => ?_) (fun c_1 => ?_)
  · refine lv_iconst (v := (-1)) hx hb dX6_registerHops_28 (by decide) ?_
    exact fr_iret hx hb hr hlk hP hS (by first | with_reducible rfl | (simp only [c_1, ↓reduceIte, Bool.false_eq_true, bI_true, bI_false, Bool.true_and, Bool.and_true, Bool.and_false, Bool.false_and, Bool.not_true, Bool.not_false, Bool.or_true, Bool.true_or, Bool.or_false, Bool.false_or] <;> with_reducible rfl) | (simp only [c_1, ↓reduceIte, Bool.false_eq_true, bI_true, bI_false, Bool.true_and, Bool.and_true, Bool.and_false, Bool.false_and, Bool.not_true, Bool.not_false, Bool.or_true, Bool.true_or, Bool.or_false, Bool.false_or] <;> rfl) | (simp [c_1, bI]; done)) rfl dX6_registerHops_29
  · have e_2 := iN_eq c_1
    have e_2b := iN_lt c_1 (by decide)
    refine lv_iload_n hx hb dX6_registerHops_7 rfl (lv_at hl 2 rfl) ?_
    refine fr_S0 (As := [.int (r)]) (rest := []) ⟨hx, hb, hml, hown, hts⟩ (kX6_isOne l D T Z r) (va_cwS 1 hts gX6_registerHops_X6_isOne rfl rfl rfl (by decide +kernel) ⟨Nat.le_of_ble_eq_true rfl, Nat.le_of_ble_eq_true rfl⟩) hK hN hM hP hD hS hA rfl hl.1 rfl (Nat.le_of_ble_eq_true rfl) dX6_registerHops_8 ⟨Nat.zero_le _, Nat.zero_le _⟩ (fun H locs hP hD hS => ?_)
    refine fr_ifeq_b (tgt := 28) hx hb dX6_registerHops_11 (by decide) (fun c_3 => ?_) (fun c_3 => ?_)
    · refine lv_iconst (v := (-1)) hx hb dX6_registerHops_28 (by decide) ?_
      exact fr_iret hx hb hr hlk hP hS (by first | with_reducible rfl | (simp only [c_1, c_3, ↓reduceIte, Bool.false_eq_true, bI_true, bI_false, Bool.true_and, Bool.and_true, Bool.and_false, Bool.false_and, Bool.not_true, Bool.not_false, Bool.or_true, Bool.true_or, Bool.or_false, Bool.false_or] <;> with_reducible rfl) | (simp only [c_1, c_3, ↓reduceIte, Bool.false_eq_true, bI_true, bI_false, Bool.true_and, Bool.and_true, Bool.and_false, Bool.false_and, Bool.not_true, Bool.not_false, Bool.or_true, Bool.true_or, Bool.or_false, Bool.false_or] <;> rfl) | (simp [c_1, c_3, bI]; done)) rfl dX6_registerHops_29
    · have e_4 := iN_eq c_3
      have e_4b := iN_lt c_3 (by decide)
      refine lv_aload_n hx hb dX6_registerHops_14 rfl (lv_at hl 0 rfl) ?_
      refine lv_iconst (v := nI 0) hx hb dX6_registerHops_15 (by decide) ?_
      refine lv_iload_n hx hb dX6_registerHops_16 rfl (lv_at hl 1 rfl) ?_
      refine fr_val e_2 ?_
      refine lv_iload_n hx hb dX6_registerHops_17 rfl (lv_at hl 2 rfl) ?_
      refine fr_val e_4 ?_
      refine fr_S0 (As := [.int (nI 0), .int (nI (tn t)), .int (nI (tn r))]) (rest := [.ref (md 0)]) ⟨hx, hb, hml, hown, hts⟩ (kX6_registerAt l D T Z 0 (tn t) (tn r)) (va_cwS 3 hts gX6_registerHops_X6_registerAt rfl rfl rfl (by decide +kernel) ⟨Nat.le_of_ble_eq_true rfl, Nat.le_of_ble_eq_true rfl⟩) hK hN hM hP hD hS hA rfl hl.1 rfl (Nat.le_of_ble_eq_true rfl) dX6_registerHops_18 ⟨Nat.zero_le _, Nat.zero_le _⟩ (fun H locs hP hD hS => ?_)
      refine lv_iconst (v := nI 2) hx hb dX6_registerHops_21 (by decide) ?_
      refine fr_Vi (As := [.int (nI (rgt 0 (tn t) (tn r))), .int (nI 2)]) (rest := []) (fs' := [[((md 0), .inr (6, [.ref (md 1), .int (nI (n)), .ref (md 2), .int (nI (len)), .int (nI (p)), .int (nI (le)), .ref (md 3), .ref (md 4)]))], [((md 1), .inl (T 0, 1872, .inl (σ)))]]) (ci := 6) (q0 := (RX6, TX6, 8)) (i0 := 0) ⟨hx, hb, hml, hown, hts⟩ (kX6_mark l D T Z md n len p le σ (rgt 0 (tn t) (tn r)) 2 (by omega) (by decide)) (cwV 2 hts gX6_registerHops_X6_mark rfl rfl rfl (by decide +kernel) ⟨Nat.le_of_ble_eq_true rfl, Nat.le_of_ble_eq_true rfl⟩) hK hN hM hP hD hS hA [0, 1] rfl rfl rfl rfl rfl rfl hl.1 rfl (Nat.le_of_ble_eq_true rfl) dX6_registerHops_22 ⟨Nat.zero_le _, Nat.zero_le _⟩ (fun H locs hP hD hS => ?_)
      refine lv_goto (tgt := 29) hx hb dX6_registerHops_25 (by decide) ?_
      exact fr_iret hx hb hr hlk hP hS (by first | with_reducible rfl | (simp only [c_1, c_3, ↓reduceIte, Bool.false_eq_true, bI_true, bI_false, Bool.true_and, Bool.and_true, Bool.and_false, Bool.false_and, Bool.not_true, Bool.not_false, Bool.or_true, Bool.true_or, Bool.or_false, Bool.false_or] <;> with_reducible rfl) | (simp only [c_1, c_3, ↓reduceIte, Bool.false_eq_true, bI_true, bI_false, Bool.true_and, Bool.and_true, Bool.and_false, Bool.false_and, Bool.not_true, Bool.not_false, Bool.or_true, Bool.true_or, Bool.or_false, Bool.false_or] <;> rfl) | (simp [c_1, c_3, bI]; done)) rfl dX6_registerHops_29

set_option maxHeartbeats 8000000 in
set_option maxRecDepth 100000 in
theorem kX6_mode (l : Launch) (D : va_G) (T : Nat → ClassId) (Z : ZZ) (md : Nat → Nat) (n : Nat) (len : Nat) (p : Nat) (le : Nat) (σ : MS) (t : Int32)  : CtI l D T Z yX6_mode wsX6_mode ({ frames := 2, cells := 0, slots := 0, locals := 42 }) [[((md 0), .inr (6, [.ref (md 1), .int (nI (n)), .ref (md 2), .int (nI (len)), .int (nI (p)), .int (nI (le)), .ref (md 3), .ref (md 4)]))], [((md 1), .inl (T 0, 1872, .inl (σ)))]] [.ref (md 0), .int (t)] (if iN t 4 then σ (248 + tn t) else -1) [[((md 0), .inr (6, [.ref (md 1), .int (nI (n)), .ref (md 2), .int (nI (len)), .int (nI (p)), .int (nI (le)), .ref (md 3), .ref (md 4)]))], [((md 1), .inl (T 0, 1872, .inl (σ)))]] := by
  refine CtI.of (cc := cX6_mode) (maxL := 2) (ret := (some .int)) (plainFor_of_name (by decide)) rfl rfl ?_
  intro pP eE s mM bW mE cC A hE hK hN hM hP hD hA
  obtain ⟨hx, hb, hr, hts, hown, hml, hlk⟩ := hE
  have hown : s.vm.findClass RX6 = some mM.cls := hown
  have hS : va_S A s.heap s.heap [] := va_S.rf
  have hl := lv_entry ([.ref (md 0), .int (t)]) (n := 2) (Nat.le_of_ble_eq_true rfl)
  rw [lg_entry_eq]
  generalize (lg_sl ([.ref (md 0), .int (t)]) ++ List.replicate (2 - (lg_sl ([.ref (md 0), .int (t)])).length) Slot.unset).toArray = ls at hl ⊢
  have hl : lv_has ls 2 [(0, .ref (md 0)), (1, .int (t))] := hl
  have w_7 := hts (.fieldLink RX6 7 "PoisonedMemoryModel" "s" "[I") (by decide +kernel)
  have hinX6 : ∀ w ∈ wsX60, w ∈ wsX6_mode := by decide +kernel
  refine lv_iload_n hx hb dX6_mode_0 rfl (lv_at hl 1 rfl) ?_
  refine fr_S0 (As := [.int (t)]) (rest := []) ⟨hx, hb, hml, hown, hts⟩ (kX6_isOne l D T Z t) (va_cwS 1 hts gX6_mode_X6_isOne rfl rfl rfl (by decide +kernel) ⟨Nat.le_of_ble_eq_true rfl, Nat.le_of_ble_eq_true rfl⟩) hK hN hM hP hD hS hA rfl hl.1 rfl (Nat.le_of_ble_eq_true rfl) dX6_mode_1 ⟨Nat.zero_le _, Nat.zero_le _⟩ (fun H locs hP hD hS => ?_)
  refine fr_ifeq_b (tgt := 20) hx hb dX6_mode_4 (by decide) (fun c_1 => ?_) (fun c_1 => ?_)
  · refine lv_iconst (v := (-1)) hx hb dX6_mode_20 (by decide) ?_
    exact fr_iret hx hb hr hlk hP hS (by first | with_reducible rfl | (simp only [c_1, ↓reduceIte, Bool.false_eq_true, bI_true, bI_false, Bool.true_and, Bool.and_true, Bool.and_false, Bool.false_and, Bool.not_true, Bool.not_false, Bool.or_true, Bool.true_or, Bool.or_false, Bool.false_or] <;> with_reducible rfl) | (simp only [c_1, ↓reduceIte, Bool.false_eq_true, bI_true, bI_false, Bool.true_and, Bool.and_true, Bool.and_false, Bool.false_and, Bool.not_true, Bool.not_false, Bool.or_true, Bool.true_or, Bool.or_false, Bool.false_or] <;> rfl) | (simp [c_1, bI]; done)) rfl dX6_mode_21
  · have e_2 := iN_eq c_1
    have e_2b := iN_lt c_1 (by decide)
    refine lv_aload_n hx hb dX6_mode_7 rfl (lv_at hl 0 rfl) ?_
    refine va_get (D := D) (ci := 6) (v := .ref (md 1)) (C := RX6) (T := TX6) (N := 8) hx hb hts hinX6 hown hK (hP.at 0 rfl) 0 rfl rfl 0 (by decide) w_7 (fun _ h9 => h9) rfl dX6_mode_8 ?_
    refine lv_sipush (v := nI 248) hx hb dX6_mode_11 (by decide) ?_
    refine lv_iload_n hx hb dX6_mode_14 rfl (lv_at hl 1 rfl) ?_
    refine fr_val e_2 ?_
    refine fr_iadd (248) (tn t) hx hb dX6_mode_15 ?_
    refine fr_iald hx hb hK hP 1 ((248 + tn t)) rfl (by omega) (by omega) dX6_mode_16 ?_
    refine lv_goto (tgt := 21) hx hb dX6_mode_17 (by decide) ?_
    exact fr_iret hx hb hr hlk hP hS (by first | with_reducible rfl | (simp only [c_1, ↓reduceIte, Bool.false_eq_true, bI_true, bI_false, Bool.true_and, Bool.and_true, Bool.and_false, Bool.false_and, Bool.not_true, Bool.not_false, Bool.or_true, Bool.true_or, Bool.or_false, Bool.false_or] <;> with_reducible rfl) | (simp only [c_1, ↓reduceIte, Bool.false_eq_true, bI_true, bI_false, Bool.true_and, Bool.and_true, Bool.and_false, Bool.false_and, Bool.not_true, Bool.not_false, Bool.or_true, Bool.true_or, Bool.or_false, Bool.false_or] <;> rfl) | (simp [c_1, bI]; done)) rfl dX6_mode_21

set_option maxHeartbeats 8000000 in
set_option maxRecDepth 100000 in
theorem kX6_stopped (l : Launch) (D : va_G) (T : Nat → ClassId) (Z : ZZ) (md : Nat → Nat) (n : Nat) (len : Nat) (p : Nat) (le : Nat) (σ : MS) (t : Int32)  : CtI l D T Z yX6_stopped wsX6_stopped ({ frames := 2, cells := 0, slots := 0, locals := 42 }) [[((md 0), .inr (6, [.ref (md 1), .int (nI (n)), .ref (md 2), .int (nI (len)), .int (nI (p)), .int (nI (le)), .ref (md 3), .ref (md 4)]))], [((md 1), .inl (T 0, 1872, .inl (σ)))]] [.ref (md 0), .int (t)] (if iN t 4 then σ (252 + tn t) else -1) [[((md 0), .inr (6, [.ref (md 1), .int (nI (n)), .ref (md 2), .int (nI (len)), .int (nI (p)), .int (nI (le)), .ref (md 3), .ref (md 4)]))], [((md 1), .inl (T 0, 1872, .inl (σ)))]] := by
  refine CtI.of (cc := cX6_stopped) (maxL := 2) (ret := (some .int)) (plainFor_of_name (by decide)) rfl rfl ?_
  intro pP eE s mM bW mE cC A hE hK hN hM hP hD hA
  obtain ⟨hx, hb, hr, hts, hown, hml, hlk⟩ := hE
  have hown : s.vm.findClass RX6 = some mM.cls := hown
  have hS : va_S A s.heap s.heap [] := va_S.rf
  have hl := lv_entry ([.ref (md 0), .int (t)]) (n := 2) (Nat.le_of_ble_eq_true rfl)
  rw [lg_entry_eq]
  generalize (lg_sl ([.ref (md 0), .int (t)]) ++ List.replicate (2 - (lg_sl ([.ref (md 0), .int (t)])).length) Slot.unset).toArray = ls at hl ⊢
  have hl : lv_has ls 2 [(0, .ref (md 0)), (1, .int (t))] := hl
  have w_7 := hts (.fieldLink RX6 7 "PoisonedMemoryModel" "s" "[I") (by decide +kernel)
  have hinX6 : ∀ w ∈ wsX60, w ∈ wsX6_stopped := by decide +kernel
  refine lv_iload_n hx hb dX6_stopped_0 rfl (lv_at hl 1 rfl) ?_
  refine fr_S0 (As := [.int (t)]) (rest := []) ⟨hx, hb, hml, hown, hts⟩ (kX6_isOne l D T Z t) (va_cwS 1 hts gX6_stopped_X6_isOne rfl rfl rfl (by decide +kernel) ⟨Nat.le_of_ble_eq_true rfl, Nat.le_of_ble_eq_true rfl⟩) hK hN hM hP hD hS hA rfl hl.1 rfl (Nat.le_of_ble_eq_true rfl) dX6_stopped_1 ⟨Nat.zero_le _, Nat.zero_le _⟩ (fun H locs hP hD hS => ?_)
  refine fr_ifeq_b (tgt := 20) hx hb dX6_stopped_4 (by decide) (fun c_1 => ?_) (fun c_1 => ?_)
  · refine lv_iconst (v := (-1)) hx hb dX6_stopped_20 (by decide) ?_
    exact fr_iret hx hb hr hlk hP hS (by first | with_reducible rfl | (simp only [c_1, ↓reduceIte, Bool.false_eq_true, bI_true, bI_false, Bool.true_and, Bool.and_true, Bool.and_false, Bool.false_and, Bool.not_true, Bool.not_false, Bool.or_true, Bool.true_or, Bool.or_false, Bool.false_or] <;> with_reducible rfl) | (simp only [c_1, ↓reduceIte, Bool.false_eq_true, bI_true, bI_false, Bool.true_and, Bool.and_true, Bool.and_false, Bool.false_and, Bool.not_true, Bool.not_false, Bool.or_true, Bool.true_or, Bool.or_false, Bool.false_or] <;> rfl) | (simp [c_1, bI]; done)) rfl dX6_stopped_21
  · have e_2 := iN_eq c_1
    have e_2b := iN_lt c_1 (by decide)
    refine lv_aload_n hx hb dX6_stopped_7 rfl (lv_at hl 0 rfl) ?_
    refine va_get (D := D) (ci := 6) (v := .ref (md 1)) (C := RX6) (T := TX6) (N := 8) hx hb hts hinX6 hown hK (hP.at 0 rfl) 0 rfl rfl 0 (by decide) w_7 (fun _ h9 => h9) rfl dX6_stopped_8 ?_
    refine lv_sipush (v := nI 252) hx hb dX6_stopped_11 (by decide) ?_
    refine lv_iload_n hx hb dX6_stopped_14 rfl (lv_at hl 1 rfl) ?_
    refine fr_val e_2 ?_
    refine fr_iadd (252) (tn t) hx hb dX6_stopped_15 ?_
    refine fr_iald hx hb hK hP 1 ((252 + tn t)) rfl (by omega) (by omega) dX6_stopped_16 ?_
    refine lv_goto (tgt := 21) hx hb dX6_stopped_17 (by decide) ?_
    exact fr_iret hx hb hr hlk hP hS (by first | with_reducible rfl | (simp only [c_1, ↓reduceIte, Bool.false_eq_true, bI_true, bI_false, Bool.true_and, Bool.and_true, Bool.and_false, Bool.false_and, Bool.not_true, Bool.not_false, Bool.or_true, Bool.true_or, Bool.or_false, Bool.false_or] <;> with_reducible rfl) | (simp only [c_1, ↓reduceIte, Bool.false_eq_true, bI_true, bI_false, Bool.true_and, Bool.and_true, Bool.and_false, Bool.false_and, Bool.not_true, Bool.not_false, Bool.or_true, Bool.true_or, Bool.or_false, Bool.false_or] <;> rfl) | (simp [c_1, bI]; done)) rfl dX6_stopped_21

set_option maxHeartbeats 8000000 in
set_option maxRecDepth 100000 in
theorem kX6_injections (l : Launch) (D : va_G) (T : Nat → ClassId) (Z : ZZ) (md : Nat → Nat) (n : Nat) (len : Nat) (p : Nat) (le : Nat) (σ : MS)  : CtI l D T Z yX6_injections wsX6_injections ({ frames := 0, cells := 0, slots := 0, locals := 0 }) [[((md 0), .inr (6, [.ref (md 1), .int (nI (n)), .ref (md 2), .int (nI (len)), .int (nI (p)), .int (nI (le)), .ref (md 3), .ref (md 4)]))], [((md 1), .inl (T 0, 1872, .inl (σ)))]] [.ref (md 0)] (σ 256) [[((md 0), .inr (6, [.ref (md 1), .int (nI (n)), .ref (md 2), .int (nI (len)), .int (nI (p)), .int (nI (le)), .ref (md 3), .ref (md 4)]))], [((md 1), .inl (T 0, 1872, .inl (σ)))]] := by
  refine CtI.of (cc := cX6_injections) (maxL := 1) (ret := (some .int)) (plainFor_of_name (by decide)) rfl rfl ?_
  intro pP eE s mM bW mE cC A hE hK hN hM hP hD hA
  obtain ⟨hx, hb, hr, hts, hown, hml, hlk⟩ := hE
  have hown : s.vm.findClass RX6 = some mM.cls := hown
  have hS : va_S A s.heap s.heap [] := va_S.rf
  have hl := lv_entry ([.ref (md 0)]) (n := 1) (Nat.le_of_ble_eq_true rfl)
  rw [lg_entry_eq]
  generalize (lg_sl ([.ref (md 0)]) ++ List.replicate (1 - (lg_sl ([.ref (md 0)])).length) Slot.unset).toArray = ls at hl ⊢
  have hl : lv_has ls 1 [(0, .ref (md 0))] := hl
  have w_7 := hts (.fieldLink RX6 7 "PoisonedMemoryModel" "s" "[I") (by decide +kernel)
  have hinX6 : ∀ w ∈ wsX60, w ∈ wsX6_injections := by decide +kernel
  refine lv_aload_n hx hb dX6_injections_0 rfl (lv_at hl 0 rfl) ?_
  refine va_get (D := D) (ci := 6) (v := .ref (md 1)) (C := RX6) (T := TX6) (N := 8) hx hb hts hinX6 hown hK (hP.at 0 rfl) 0 rfl rfl 0 (by decide) w_7 (fun _ h9 => h9) rfl dX6_injections_1 ?_
  refine lv_sipush (v := nI 256) hx hb dX6_injections_4 (by decide) ?_
  refine fr_iald hx hb hK hP 1 (256) rfl (by decide) (by decide) dX6_injections_7 ?_
  exact fr_iret hx hb hr hlk hP hS rfl rfl dX6_injections_8

set_option maxHeartbeats 8000000 in
set_option maxRecDepth 100000 in
theorem kX6_faults (l : Launch) (D : va_G) (T : Nat → ClassId) (Z : ZZ) (md : Nat → Nat) (n : Nat) (len : Nat) (p : Nat) (le : Nat) (σ : MS)  : CtI l D T Z yX6_faults wsX6_faults ({ frames := 0, cells := 0, slots := 0, locals := 0 }) [[((md 0), .inr (6, [.ref (md 1), .int (nI (n)), .ref (md 2), .int (nI (len)), .int (nI (p)), .int (nI (le)), .ref (md 3), .ref (md 4)]))], [((md 1), .inl (T 0, 1872, .inl (σ)))]] [.ref (md 0)] (σ 310) [[((md 0), .inr (6, [.ref (md 1), .int (nI (n)), .ref (md 2), .int (nI (len)), .int (nI (p)), .int (nI (le)), .ref (md 3), .ref (md 4)]))], [((md 1), .inl (T 0, 1872, .inl (σ)))]] := by
  refine CtI.of (cc := cX6_faults) (maxL := 1) (ret := (some .int)) (plainFor_of_name (by decide)) rfl rfl ?_
  intro pP eE s mM bW mE cC A hE hK hN hM hP hD hA
  obtain ⟨hx, hb, hr, hts, hown, hml, hlk⟩ := hE
  have hown : s.vm.findClass RX6 = some mM.cls := hown
  have hS : va_S A s.heap s.heap [] := va_S.rf
  have hl := lv_entry ([.ref (md 0)]) (n := 1) (Nat.le_of_ble_eq_true rfl)
  rw [lg_entry_eq]
  generalize (lg_sl ([.ref (md 0)]) ++ List.replicate (1 - (lg_sl ([.ref (md 0)])).length) Slot.unset).toArray = ls at hl ⊢
  have hl : lv_has ls 1 [(0, .ref (md 0))] := hl
  have w_7 := hts (.fieldLink RX6 7 "PoisonedMemoryModel" "s" "[I") (by decide +kernel)
  have hinX6 : ∀ w ∈ wsX60, w ∈ wsX6_faults := by decide +kernel
  refine lv_aload_n hx hb dX6_faults_0 rfl (lv_at hl 0 rfl) ?_
  refine va_get (D := D) (ci := 6) (v := .ref (md 1)) (C := RX6) (T := TX6) (N := 8) hx hb hts hinX6 hown hK (hP.at 0 rfl) 0 rfl rfl 0 (by decide) w_7 (fun _ h9 => h9) rfl dX6_faults_1 ?_
  refine lv_sipush (v := nI 310) hx hb dX6_faults_4 (by decide) ?_
  refine fr_iald hx hb hK hP 1 (310) rfl (by decide) (by decide) dX6_faults_7 ?_
  exact fr_iret hx hb hr hlk hP hS rfl rfl dX6_faults_8

set_option maxHeartbeats 8000000 in
set_option maxRecDepth 100000 in
theorem kX6_healed (l : Launch) (D : va_G) (T : Nat → ClassId) (Z : ZZ) (md : Nat → Nat) (n : Nat) (len : Nat) (p : Nat) (le : Nat) (σ : MS)  : CtI l D T Z yX6_healed wsX6_healed ({ frames := 0, cells := 0, slots := 0, locals := 0 }) [[((md 0), .inr (6, [.ref (md 1), .int (nI (n)), .ref (md 2), .int (nI (len)), .int (nI (p)), .int (nI (le)), .ref (md 3), .ref (md 4)]))], [((md 1), .inl (T 0, 1872, .inl (σ)))]] [.ref (md 0)] (σ 311) [[((md 0), .inr (6, [.ref (md 1), .int (nI (n)), .ref (md 2), .int (nI (len)), .int (nI (p)), .int (nI (le)), .ref (md 3), .ref (md 4)]))], [((md 1), .inl (T 0, 1872, .inl (σ)))]] := by
  refine CtI.of (cc := cX6_healed) (maxL := 1) (ret := (some .int)) (plainFor_of_name (by decide)) rfl rfl ?_
  intro pP eE s mM bW mE cC A hE hK hN hM hP hD hA
  obtain ⟨hx, hb, hr, hts, hown, hml, hlk⟩ := hE
  have hown : s.vm.findClass RX6 = some mM.cls := hown
  have hS : va_S A s.heap s.heap [] := va_S.rf
  have hl := lv_entry ([.ref (md 0)]) (n := 1) (Nat.le_of_ble_eq_true rfl)
  rw [lg_entry_eq]
  generalize (lg_sl ([.ref (md 0)]) ++ List.replicate (1 - (lg_sl ([.ref (md 0)])).length) Slot.unset).toArray = ls at hl ⊢
  have hl : lv_has ls 1 [(0, .ref (md 0))] := hl
  have w_7 := hts (.fieldLink RX6 7 "PoisonedMemoryModel" "s" "[I") (by decide +kernel)
  have hinX6 : ∀ w ∈ wsX60, w ∈ wsX6_healed := by decide +kernel
  refine lv_aload_n hx hb dX6_healed_0 rfl (lv_at hl 0 rfl) ?_
  refine va_get (D := D) (ci := 6) (v := .ref (md 1)) (C := RX6) (T := TX6) (N := 8) hx hb hts hinX6 hown hK (hP.at 0 rfl) 0 rfl rfl 0 (by decide) w_7 (fun _ h9 => h9) rfl dX6_healed_1 ?_
  refine lv_sipush (v := nI 311) hx hb dX6_healed_4 (by decide) ?_
  refine fr_iald hx hb hK hP 1 (311) rfl (by decide) (by decide) dX6_healed_7 ?_
  exact fr_iret hx hb hr hlk hP hS rfl rfl dX6_healed_8

set_option maxHeartbeats 8000000 in
set_option maxRecDepth 100000 in
theorem kX6_isOrigin (l : Launch) (D : va_G) (T : Nat → ClassId) (Z : ZZ) (md : Nat → Nat) (n : Nat) (len : Nat) (p : Nat) (le : Nat) (σ : MS) (x : Int32) (hi : WH (σ 256) 20) : CtI l D T Z yX6_isOrigin wsX6_isOrigin ({ frames := 1, cells := 0, slots := 0, locals := 22 }) [[((md 0), .inr (6, [.ref (md 1), .int (nI (n)), .ref (md 2), .int (nI (len)), .int (nI (p)), .int (nI (le)), .ref (md 3), .ref (md 4)]))], [((md 1), .inl (T 0, 1872, .inl (σ)))]] [.ref (md 0), .int (x)] (bI (iN x (tn (σ 256)))) [[((md 0), .inr (6, [.ref (md 1), .int (nI (n)), .ref (md 2), .int (nI (len)), .int (nI (p)), .int (nI (le)), .ref (md 3), .ref (md 4)]))], [((md 1), .inl (T 0, 1872, .inl (σ)))]] := by
  have hi2 := hi.2
  refine CtI.of (cc := cX6_isOrigin) (maxL := 2) (ret := (some .boolean)) (plainFor_of_name (by decide)) rfl rfl ?_
  intro pP eE s mM bW mE cC A hE hK hN hM hP hD hA
  obtain ⟨hx, hb, hr, hts, hown, hml, hlk⟩ := hE
  have hown : s.vm.findClass RX6 = some mM.cls := hown
  have hS : va_S A s.heap s.heap [] := va_S.rf
  have hl := lv_entry ([.ref (md 0), .int (x)]) (n := 2) (Nat.le_of_ble_eq_true rfl)
  rw [lg_entry_eq]
  generalize (lg_sl ([.ref (md 0), .int (x)]) ++ List.replicate (2 - (lg_sl ([.ref (md 0), .int (x)])).length) Slot.unset).toArray = ls at hl ⊢
  have hl : lv_has ls 2 [(0, .ref (md 0)), (1, .int (x))] := hl
  have w_7 := hts (.fieldLink RX6 7 "PoisonedMemoryModel" "s" "[I") (by decide +kernel)
  have hinX6 : ∀ w ∈ wsX60, w ∈ wsX6_isOrigin := by decide +kernel
  refine lv_iload_n hx hb dX6_isOrigin_0 rfl (lv_at hl 1 rfl) ?_
  refine lv_iconst (v := nI 0) hx hb dX6_isOrigin_1 (by decide) ?_
  refine lv_aload_n hx hb dX6_isOrigin_2 rfl (lv_at hl 0 rfl) ?_
  refine va_get (D := D) (ci := 6) (v := .ref (md 1)) (C := RX6) (T := TX6) (N := 8) hx hb hts hinX6 hown hK (hP.at 0 rfl) 0 rfl rfl 0 (by decide) w_7 (fun _ h9 => h9) rfl dX6_isOrigin_3 ?_
  refine lv_sipush (v := nI 256) hx hb dX6_isOrigin_6 (by decide) ?_
  refine fr_iald hx hb hK hP 1 (256) rfl (by decide) (by decide) dX6_isOrigin_9 ?_
  refine fr_val hi.1 ?_
  refine lv_iconst (v := nI 1) hx hb dX6_isOrigin_10 (by decide) ?_
  refine lv_isub hx hb dX6_isOrigin_11 ?_
  refine fr_S0 (As := [.int (x), .int (nI 0), .int ((nI (tn (σ 256))) - (nI 1))]) (rest := []) ⟨hx, hb, hml, hown, hts⟩ (kX6_in l D T Z x (nI 0) ((nI (tn (σ 256))) - (nI 1))) (va_cwS 3 hts gX6_isOrigin_X6_in rfl rfl rfl (by decide +kernel) ⟨Nat.le_of_ble_eq_true rfl, Nat.le_of_ble_eq_true rfl⟩) hK hN hM hP hD hS hA rfl hl.1 rfl (Nat.le_of_ble_eq_true rfl) dX6_isOrigin_12 ⟨Nat.zero_le _, Nat.zero_le _⟩ (fun H locs hP hD hS => ?_)
  exact fr_zret hx hb hr hlk hP hS (by rw [inn_or (by omega)]) rfl bI_nar dX6_isOrigin_15

set_option maxHeartbeats 8000000 in
set_option maxRecDepth 100000 in
theorem kX6_source (l : Launch) (D : va_G) (T : Nat → ClassId) (Z : ZZ) (md : Nat → Nat) (n : Nat) (len : Nat) (p : Nat) (le : Nat) (σ : MS) (x : Int32) (hi : WH (σ 256) 20) : CtI l D T Z yX6_source wsX6_source ({ frames := 2, cells := 0, slots := 0, locals := 43 }) [[((md 0), .inr (6, [.ref (md 1), .int (nI (n)), .ref (md 2), .int (nI (len)), .int (nI (p)), .int (nI (le)), .ref (md 3), .ref (md 4)]))], [((md 1), .inl (T 0, 1872, .inl (σ)))]] [.ref (md 0), .int (x)] (if iN x (tn (σ 256)) then σ (257 + tn x) else -1) [[((md 0), .inr (6, [.ref (md 1), .int (nI (n)), .ref (md 2), .int (nI (len)), .int (nI (p)), .int (nI (le)), .ref (md 3), .ref (md 4)]))], [((md 1), .inl (T 0, 1872, .inl (σ)))]] := by
  have hi2 := hi.2
  refine CtI.of (cc := cX6_source) (maxL := 2) (ret := (some .int)) (plainFor_of_name (by decide)) rfl rfl ?_
  intro pP eE s mM bW mE cC A hE hK hN hM hP hD hA
  obtain ⟨hx, hb, hr, hts, hown, hml, hlk⟩ := hE
  have hown : s.vm.findClass RX6 = some mM.cls := hown
  have hS : va_S A s.heap s.heap [] := va_S.rf
  have hl := lv_entry ([.ref (md 0), .int (x)]) (n := 2) (Nat.le_of_ble_eq_true rfl)
  rw [lg_entry_eq]
  generalize (lg_sl ([.ref (md 0), .int (x)]) ++ List.replicate (2 - (lg_sl ([.ref (md 0), .int (x)])).length) Slot.unset).toArray = ls at hl ⊢
  have hl : lv_has ls 2 [(0, .ref (md 0)), (1, .int (x))] := hl
  have w_7 := hts (.fieldLink RX6 7 "PoisonedMemoryModel" "s" "[I") (by decide +kernel)
  have hinX6 : ∀ w ∈ wsX60, w ∈ wsX6_source := by decide +kernel
  refine lv_aload_n hx hb dX6_source_0 rfl (lv_at hl 0 rfl) ?_
  refine lv_iload_n hx hb dX6_source_1 rfl (lv_at hl 1 rfl) ?_
  refine fr_Vi (As := [.int (x)]) (rest := []) (fs' := [[((md 0), .inr (6, [.ref (md 1), .int (nI (n)), .ref (md 2), .int (nI (len)), .int (nI (p)), .int (nI (le)), .ref (md 3), .ref (md 4)]))], [((md 1), .inl (T 0, 1872, .inl (σ)))]]) (ci := 6) (q0 := (RX6, TX6, 8)) (i0 := 0) ⟨hx, hb, hml, hown, hts⟩ (kX6_isOrigin l D T Z md n len p le σ x hi) (cwV 1 hts gX6_source_X6_isOrigin rfl rfl rfl (by decide +kernel) ⟨Nat.le_of_ble_eq_true rfl, Nat.le_of_ble_eq_true rfl⟩) hK hN hM hP hD hS hA [0, 1] rfl rfl rfl rfl rfl rfl hl.1 rfl (Nat.le_of_ble_eq_true rfl) dX6_source_2 ⟨Nat.zero_le _, Nat.zero_le _⟩ (fun H locs hP hD hS => ?_)
  refine fr_ifeq_b (tgt := 21) hx hb dX6_source_5 (by decide) (fun c_1 => ?_) (fun c_1 => ?_)
  · refine lv_iconst (v := (-1)) hx hb dX6_source_21 (by decide) ?_
    exact fr_iret hx hb hr hlk hP hS (by first | with_reducible rfl | (simp only [c_1, ↓reduceIte, Bool.false_eq_true, bI_true, bI_false, Bool.true_and, Bool.and_true, Bool.and_false, Bool.false_and, Bool.not_true, Bool.not_false, Bool.or_true, Bool.true_or, Bool.or_false, Bool.false_or] <;> with_reducible rfl) | (simp only [c_1, ↓reduceIte, Bool.false_eq_true, bI_true, bI_false, Bool.true_and, Bool.and_true, Bool.and_false, Bool.false_and, Bool.not_true, Bool.not_false, Bool.or_true, Bool.true_or, Bool.or_false, Bool.false_or] <;> rfl) | (simp [c_1, bI]; done)) rfl dX6_source_22
  · have e_2 := iN_eq c_1
    have e_2b := iN_lt c_1 (by omega)
    refine lv_aload_n hx hb dX6_source_8 rfl (lv_at hl 0 rfl) ?_
    refine va_get (D := D) (ci := 6) (v := .ref (md 1)) (C := RX6) (T := TX6) (N := 8) hx hb hts hinX6 hown hK (hP.at 0 rfl) 0 rfl rfl 0 (by decide) w_7 (fun _ h9 => h9) rfl dX6_source_9 ?_
    refine lv_sipush (v := nI 257) hx hb dX6_source_12 (by decide) ?_
    refine lv_iload_n hx hb dX6_source_15 rfl (lv_at hl 1 rfl) ?_
    refine fr_val e_2 ?_
    refine fr_iadd (257) (tn x) hx hb dX6_source_16 ?_
    refine fr_iald hx hb hK hP 1 ((257 + tn x)) rfl (by omega) (by omega) dX6_source_17 ?_
    refine lv_goto (tgt := 22) hx hb dX6_source_18 (by decide) ?_
    exact fr_iret hx hb hr hlk hP hS (by first | with_reducible rfl | (simp only [c_1, ↓reduceIte, Bool.false_eq_true, bI_true, bI_false, Bool.true_and, Bool.and_true, Bool.and_false, Bool.false_and, Bool.not_true, Bool.not_false, Bool.or_true, Bool.true_or, Bool.or_false, Bool.false_or] <;> with_reducible rfl) | (simp only [c_1, ↓reduceIte, Bool.false_eq_true, bI_true, bI_false, Bool.true_and, Bool.and_true, Bool.and_false, Bool.false_and, Bool.not_true, Bool.not_false, Bool.or_true, Bool.true_or, Bool.or_false, Bool.false_or] <;> rfl) | (simp [c_1, bI]; done)) rfl dX6_source_22

set_option maxHeartbeats 8000000 in
set_option maxRecDepth 100000 in
theorem kX6_log (l : Launch) (D : va_G) (T : Nat → ClassId) (Z : ZZ) (md : Nat → Nat) (n : Nat) (len : Nat) (p : Nat) (le : Nat) (σ : MS) (x : Int32) (y : Int32) (hh : WH (σ 277) 8) : CtI l D T Z yX6_log wsX6_log ({ frames := 1, cells := 0, slots := 0, locals := 22 }) [[((md 0), .inr (6, [.ref (md 1), .int (nI (n)), .ref (md 2), .int (nI (len)), .int (nI (p)), .int (nI (le)), .ref (md 3), .ref (md 4)]))], [((md 1), .inl (T 0, 1872, .inl (σ)))]] [.ref (md 0), .int (x), .int (y)] (if x < 0 then -2 else if iN y 4 then (if iN x (tn (σ 277)) then σ (278 + 4 * tn x + tn y) else -6) else -2) [[((md 0), .inr (6, [.ref (md 1), .int (nI (n)), .ref (md 2), .int (nI (len)), .int (nI (p)), .int (nI (le)), .ref (md 3), .ref (md 4)]))], [((md 1), .inl (T 0, 1872, .inl (σ)))]] := by
  have hh2 := hh.2
  refine CtI.of (cc := cX6_log) (maxL := 3) (ret := (some .int)) (plainFor_of_name (by decide)) rfl rfl ?_
  intro pP eE s mM bW mE cC A hE hK hN hM hP hD hA
  obtain ⟨hx, hb, hr, hts, hown, hml, hlk⟩ := hE
  have hown : s.vm.findClass RX6 = some mM.cls := hown
  have hS : va_S A s.heap s.heap [] := va_S.rf
  have hl := lv_entry ([.ref (md 0), .int (x), .int (y)]) (n := 3) (Nat.le_of_ble_eq_true rfl)
  rw [lg_entry_eq]
  generalize (lg_sl ([.ref (md 0), .int (x), .int (y)]) ++ List.replicate (3 - (lg_sl ([.ref (md 0), .int (x), .int (y)])).length) Slot.unset).toArray = ls at hl ⊢
  have hl : lv_has ls 3 [(0, .ref (md 0)), (1, .int (x)), (2, .int (y))] := hl
  have w_7 := hts (.fieldLink RX6 7 "PoisonedMemoryModel" "s" "[I") (by decide +kernel)
  have hinX6 : ∀ w ∈ wsX60, w ∈ wsX6_log := by decide +kernel
  refine lv_iload_n hx hb dX6_log_0 rfl (lv_at hl 1 rfl) ?_
  refine lv_if_lt (tgt := 13) hx hb dX6_log_1 (by decide) (fun c_1 => ?_) (fun c_1 => ?_)
  · have c_1' := Int32.not_le.mpr c_1
    refine lv_bipush (v := (-2)) hx hb dX6_log_13 (by decide) ?_
    exact fr_iret hx hb hr hlk hP hS (by first | with_reducible rfl | (simp only [c_1, c_1', ↓reduceIte, Bool.false_eq_true, bI_true, bI_false, Bool.true_and, Bool.and_true, Bool.and_false, Bool.false_and, Bool.not_true, Bool.not_false, Bool.or_true, Bool.true_or, Bool.or_false, Bool.false_or] <;> with_reducible rfl) | (simp only [c_1, c_1', ↓reduceIte, Bool.false_eq_true, bI_true, bI_false, Bool.true_and, Bool.and_true, Bool.and_false, Bool.false_and, Bool.not_true, Bool.not_false, Bool.or_true, Bool.true_or, Bool.or_false, Bool.false_or] <;> rfl) | (simp [c_1, c_1', bI]; done)) rfl dX6_log_15
  · have c_1' := Int32.not_lt.mp c_1
    refine lv_iload_n hx hb dX6_log_4 rfl (lv_at hl 2 rfl) ?_
    refine lv_iconst (v := nI 0) hx hb dX6_log_5 (by decide) ?_
    refine lv_iconst (v := nI 3) hx hb dX6_log_6 (by decide) ?_
    refine fr_S0 (As := [.int (y), .int (nI 0), .int (nI 3)]) (rest := []) ⟨hx, hb, hml, hown, hts⟩ (kX6_in l D T Z y (nI 0) (nI 3)) (va_cwS 3 hts gX6_log_X6_in rfl rfl rfl (by decide +kernel) ⟨Nat.le_of_ble_eq_true rfl, Nat.le_of_ble_eq_true rfl⟩) hK hN hM hP hD hS hA rfl hl.1 rfl (Nat.le_of_ble_eq_true rfl) dX6_log_7 ⟨Nat.zero_le _, Nat.zero_le _⟩ (fun H locs hP hD hS => ?_)
    refine fr_ifne_b (tgt := 16) hx hb dX6_log_10 (by decide) (fun c_2 => ?_) (fun c_2 => ?_)
    · have r_3 : iN y 4 = true := (inn_iN (by decide)).symm.trans c_2
      have e_4 := iN_eq r_3
      have e_4b := iN_lt r_3 (by decide)
      refine lv_iload_n hx hb dX6_log_16 rfl (lv_at hl 1 rfl) ?_
      refine lv_aload_n hx hb dX6_log_17 rfl (lv_at hl 0 rfl) ?_
      refine va_get (D := D) (ci := 6) (v := .ref (md 1)) (C := RX6) (T := TX6) (N := 8) hx hb hts hinX6 hown hK (hP.at 0 rfl) 0 rfl rfl 0 (by decide) w_7 (fun _ h9 => h9) rfl dX6_log_18 ?_
      refine lv_sipush (v := nI 277) hx hb dX6_log_21 (by decide) ?_
      refine fr_iald hx hb hK hP 1 (277) rfl (by decide) (by decide) dX6_log_24 ?_
      refine fr_val hh.1 ?_
      refine lv_icmp_ge (tgt := 45) hx hb dX6_log_25 (by decide) (fun c_5 => ?_) (fun c_5 => ?_)
      · have c_5' := Int32.not_lt.mpr c_5
        have e_6r : iN x (tn (σ 277)) = false := by unfold iN; simp [c_5]
        refine lv_bipush (v := (-6)) hx hb dX6_log_45 (by decide) ?_
        exact fr_iret hx hb hr hlk hP hS (by first | with_reducible rfl | (simp only [c_1, c_1', c_2, r_3, c_5, c_5', e_6r, ↓reduceIte, Bool.false_eq_true, bI_true, bI_false, Bool.true_and, Bool.and_true, Bool.and_false, Bool.false_and, Bool.not_true, Bool.not_false, Bool.or_true, Bool.true_or, Bool.or_false, Bool.false_or] <;> with_reducible rfl) | (simp only [c_1, c_1', c_2, r_3, c_5, c_5', e_6r, ↓reduceIte, Bool.false_eq_true, bI_true, bI_false, Bool.true_and, Bool.and_true, Bool.and_false, Bool.false_and, Bool.not_true, Bool.not_false, Bool.or_true, Bool.true_or, Bool.or_false, Bool.false_or] <;> rfl) | (simp [c_1, c_1', c_2, r_3, c_5, c_5', e_6r, bI]; done)) rfl dX6_log_47
      · have c_5' := Int32.not_le.mp c_5
        have e_7r : iN x (tn (σ 277)) = true := iN_iff.mpr ⟨c_1, c_5⟩
        have e_7 := iN_eq e_7r
        have e_7b := iN_lt e_7r (by omega)
        refine lv_aload_n hx hb dX6_log_28 rfl (lv_at hl 0 rfl) ?_
        refine va_get (D := D) (ci := 6) (v := .ref (md 1)) (C := RX6) (T := TX6) (N := 8) hx hb hts hinX6 hown hK (hP.at 0 rfl) 0 rfl rfl 0 (by decide) w_7 (fun _ h9 => h9) rfl dX6_log_29 ?_
        refine lv_sipush (v := nI 278) hx hb dX6_log_32 (by decide) ?_
        refine lv_iconst (v := nI 4) hx hb dX6_log_35 (by decide) ?_
        refine lv_iload_n hx hb dX6_log_36 rfl (lv_at hl 1 rfl) ?_
        refine fr_val e_7 ?_
        refine fr_imul (4) (tn x) hx hb dX6_log_37 ?_
        refine fr_iadd (278) ((4 * tn x)) hx hb dX6_log_38 ?_
        refine lv_iload_n hx hb dX6_log_39 rfl (lv_at hl 2 rfl) ?_
        refine fr_val e_4 ?_
        refine fr_iadd ((278 + (4 * tn x))) (tn y) hx hb dX6_log_40 ?_
        refine fr_iald hx hb hK hP 1 (((278 + (4 * tn x)) + tn y)) rfl (by omega) (by omega) dX6_log_41 ?_
        refine lv_goto (tgt := 47) hx hb dX6_log_42 (by decide) ?_
        exact fr_iret hx hb hr hlk hP hS (by first | with_reducible rfl | (simp only [c_1, c_1', c_2, r_3, c_5, c_5', e_7r, ↓reduceIte, Bool.false_eq_true, bI_true, bI_false, Bool.true_and, Bool.and_true, Bool.and_false, Bool.false_and, Bool.not_true, Bool.not_false, Bool.or_true, Bool.true_or, Bool.or_false, Bool.false_or] <;> with_reducible rfl) | (simp only [c_1, c_1', c_2, r_3, c_5, c_5', e_7r, ↓reduceIte, Bool.false_eq_true, bI_true, bI_false, Bool.true_and, Bool.and_true, Bool.and_false, Bool.false_and, Bool.not_true, Bool.not_false, Bool.or_true, Bool.true_or, Bool.or_false, Bool.false_or] <;> rfl) | (simp [c_1, c_1', c_2, r_3, c_5, c_5', e_7r, bI]; done)) rfl dX6_log_47
    · have r_8 : iN y 4 = false := (inn_iN (by decide)).symm.trans c_2
      refine lv_bipush (v := (-2)) hx hb dX6_log_13 (by decide) ?_
      exact fr_iret hx hb hr hlk hP hS (by first | with_reducible rfl | (simp only [c_1, c_1', c_2, r_8, ↓reduceIte, Bool.false_eq_true, bI_true, bI_false, Bool.true_and, Bool.and_true, Bool.and_false, Bool.false_and, Bool.not_true, Bool.not_false, Bool.or_true, Bool.true_or, Bool.or_false, Bool.false_or] <;> with_reducible rfl) | (simp only [c_1, c_1', c_2, r_8, ↓reduceIte, Bool.false_eq_true, bI_true, bI_false, Bool.true_and, Bool.and_true, Bool.and_false, Bool.false_and, Bool.not_true, Bool.not_false, Bool.or_true, Bool.true_or, Bool.or_false, Bool.false_or] <;> rfl) | (simp [c_1, c_1', c_2, r_8, bI]; done)) rfl dX6_log_15
