
set_option maxHeartbeats 8000000 in
set_option maxRecDepth 100000 in
theorem kX6_move (l : Launch) (D : va_G) (T : Nat → ClassId) (Z : ZZ) (md : Nat → Nat) (n : Nat) (len : Nat) (p : Nat) (le : Nat) (σ : MS) (t : Int32) (a : Int32) (c : Int32) (hn4 : n ≤ 4) : CtI l D T Z yX6_move wsX6_move ({ frames := 3, cells := 0, slots := 0, locals := 73 }) [[((md 0), .inr (6, [.ref (md 1), .int (nI (n)), .ref (md 2), .int (nI (len)), .int (nI (p)), .int (nI (le)), .ref (md 3), .ref (md 4)]))], [((md 1), .inl (T 0, 1872, .inl (σ)))]] [.ref (md 0), .int (t), .int (a), .int (c)] (if iN t 4 && (iN a 4 && iN c 4) then mMovR (mCp σ 0 5) 1560 (tn t) (tn c) else -1) [[((md 0), .inr (6, [.ref (md 1), .int (nI (mAN (iN t 4 && (iN a 4 && iN c 4)) n (mMovR (mCp σ 0 5) 1560 (tn t) (tn c)))), .ref (md 2), .int (nI (len)), .int (nI (p)), .int (nI (le)), .ref (md 3), .ref (md 4)]))], [((md 1), .inl (T 0, 1872, .inl (mAS (iN t 4 && (iN a 4 && iN c 4)) (mMovS (mCp σ 0 5) 1560 (tn t) (tn a) (tn c)) n (mMovR (mCp σ 0 5) 1560 (tn t) (tn c)) σ)))]] := by
  refine CtI.of (cc := cX6_move) (maxL := 4) (ret := (some .int)) (plainFor_of_name (by decide)) rfl rfl ?_
  intro pP eE s mM bW mE cC A hE hK hN hM hP hD hA
  obtain ⟨hx, hb, hr, hts, hown, hml, hlk⟩ := hE
  have hown : s.vm.findClass RX6 = some mM.cls := hown
  have hS : va_S A s.heap s.heap [] := va_S.rf
  have hl := lv_entry ([.ref (md 0), .int (t), .int (a), .int (c)]) (n := 4) (Nat.le_of_ble_eq_true rfl)
  rw [lg_entry_eq]
  generalize (lg_sl ([.ref (md 0), .int (t), .int (a), .int (c)]) ++ List.replicate (4 - (lg_sl ([.ref (md 0), .int (t), .int (a), .int (c)])).length) Slot.unset).toArray = ls at hl ⊢
  have hl : lv_has ls 4 [(0, .ref (md 0)), (1, .int (t)), (2, .int (a)), (3, .int (c))] := hl
  refine lv_iload_n hx hb dX6_move_0 rfl (lv_at hl 1 rfl) ?_
  refine fr_S0 (As := [.int (t)]) (rest := []) ⟨hx, hb, hml, hown, hts⟩ (kX6_isOne l D T Z t) (va_cwS 1 hts gX6_move_X6_isOne rfl rfl rfl (by decide +kernel) ⟨Nat.le_of_ble_eq_true rfl, Nat.le_of_ble_eq_true rfl⟩) hK hN hM hP hD hS hA rfl hl.1 rfl (Nat.le_of_ble_eq_true rfl) dX6_move_1 ⟨Nat.zero_le _, Nat.zero_le _⟩ (fun H locs hP hD hS => ?_)
  refine fr_ifeq_b (tgt := 39) hx hb dX6_move_4 (by decide) (fun c_1 => ?_) (fun c_1 => ?_)
  · refine lv_iconst (v := (-1)) hx hb dX6_move_39 (by decide) ?_
    exact fr_iret hx hb hr hlk hP hS (by first | rfl | (simp only [mAS, mAN, c_1, ↓reduceIte, Bool.false_eq_true, bI_true, bI_false, Bool.true_and, Bool.and_true, Bool.and_false, Bool.false_and, Bool.not_true, Bool.not_false, Bool.or_true, Bool.true_or, Bool.or_false, Bool.false_or] <;> rfl) | (simp [mAS, mAN, c_1, bI]; done)) (by first | rfl | (simp only [mAS, mAN, c_1, ↓reduceIte, Bool.false_eq_true, bI_true, bI_false, Bool.true_and, Bool.and_true, Bool.and_false, Bool.false_and, Bool.not_true, Bool.not_false, Bool.or_true, Bool.true_or, Bool.or_false, Bool.false_or] <;> rfl) | (simp [mAS, mAN, c_1, bI]; done)) dX6_move_40
  · have e_2 := iN_eq c_1
    have e_2b := iN_lt c_1 (by decide)
    refine lv_iload_n hx hb dX6_move_7 rfl (lv_at hl 2 rfl) ?_
    refine fr_S0 (As := [.int (a)]) (rest := []) ⟨hx, hb, hml, hown, hts⟩ (kX6_isOne l D T Z a) (va_cwS 1 hts gX6_move_X6_isOne rfl rfl rfl (by decide +kernel) ⟨Nat.le_of_ble_eq_true rfl, Nat.le_of_ble_eq_true rfl⟩) hK hN hM hP hD hS hA rfl hl.1 rfl (Nat.le_of_ble_eq_true rfl) dX6_move_8 ⟨Nat.zero_le _, Nat.zero_le _⟩ (fun H locs hP hD hS => ?_)
    refine fr_ifeq_b (tgt := 39) hx hb dX6_move_11 (by decide) (fun c_3 => ?_) (fun c_3 => ?_)
    · refine lv_iconst (v := (-1)) hx hb dX6_move_39 (by decide) ?_
      exact fr_iret hx hb hr hlk hP hS (by first | rfl | (simp only [mAS, mAN, c_1, c_3, ↓reduceIte, Bool.false_eq_true, bI_true, bI_false, Bool.true_and, Bool.and_true, Bool.and_false, Bool.false_and, Bool.not_true, Bool.not_false, Bool.or_true, Bool.true_or, Bool.or_false, Bool.false_or] <;> rfl) | (simp [mAS, mAN, c_1, c_3, bI]; done)) (by first | rfl | (simp only [mAS, mAN, c_1, c_3, ↓reduceIte, Bool.false_eq_true, bI_true, bI_false, Bool.true_and, Bool.and_true, Bool.and_false, Bool.false_and, Bool.not_true, Bool.not_false, Bool.or_true, Bool.true_or, Bool.or_false, Bool.false_or] <;> rfl) | (simp [mAS, mAN, c_1, c_3, bI]; done)) dX6_move_40
    · have e_4 := iN_eq c_3
      have e_4b := iN_lt c_3 (by decide)
      refine lv_iload_n hx hb dX6_move_14 rfl (lv_at hl 3 rfl) ?_
      refine fr_S0 (As := [.int (c)]) (rest := []) ⟨hx, hb, hml, hown, hts⟩ (kX6_isOne l D T Z c) (va_cwS 1 hts gX6_move_X6_isOne rfl rfl rfl (by decide +kernel) ⟨Nat.le_of_ble_eq_true rfl, Nat.le_of_ble_eq_true rfl⟩) hK hN hM hP hD hS hA rfl hl.1 rfl (Nat.le_of_ble_eq_true rfl) dX6_move_15 ⟨Nat.zero_le _, Nat.zero_le _⟩ (fun H locs hP hD hS => ?_)
      refine fr_ifeq_b (tgt := 39) hx hb dX6_move_18 (by decide) (fun c_5 => ?_) (fun c_5 => ?_)
      · refine lv_iconst (v := (-1)) hx hb dX6_move_39 (by decide) ?_
        exact fr_iret hx hb hr hlk hP hS (by first | rfl | (simp only [mAS, mAN, c_1, c_3, c_5, ↓reduceIte, Bool.false_eq_true, bI_true, bI_false, Bool.true_and, Bool.and_true, Bool.and_false, Bool.false_and, Bool.not_true, Bool.not_false, Bool.or_true, Bool.true_or, Bool.or_false, Bool.false_or] <;> rfl) | (simp [mAS, mAN, c_1, c_3, c_5, bI]; done)) (by first | rfl | (simp only [mAS, mAN, c_1, c_3, c_5, ↓reduceIte, Bool.false_eq_true, bI_true, bI_false, Bool.true_and, Bool.and_true, Bool.and_false, Bool.false_and, Bool.not_true, Bool.not_false, Bool.or_true, Bool.true_or, Bool.or_false, Bool.false_or] <;> rfl) | (simp [mAS, mAN, c_1, c_3, c_5, bI]; done)) dX6_move_40
      · have e_6 := iN_eq c_5
        have e_6b := iN_lt c_5 (by decide)
        refine lv_aload_n hx hb dX6_move_21 rfl (lv_at hl 0 rfl) ?_
        refine lv_aload_n hx hb dX6_move_22 rfl (lv_at hl 0 rfl) ?_
        refine lv_aload_n hx hb dX6_move_23 rfl (lv_at hl 0 rfl) ?_
        refine fr_Vi (As := []) (rest := [.ref (md 0), .ref (md 0)]) (fs' := [[((md 0), .inr (6, [.ref (md 1), .int (nI (n)), .ref (md 2), .int (nI (len)), .int (nI (p)), .int (nI (le)), .ref (md 3), .ref (md 4)]))], [((md 1), .inl (T 0, 1872, .inl (mCp σ 0 5)))]]) (ci := 6) (q0 := (RX6, TX6, 8)) (i0 := 0) ⟨hx, hb, hml, hown, hts⟩ (kX6_begins l D T Z md n len p le σ) (cwV 0 hts gX6_move_X6_begins rfl rfl rfl (by decide +kernel) ⟨Nat.le_of_ble_eq_true rfl, Nat.le_of_ble_eq_true rfl⟩) hK hN hM hP hD hS hA [0, 1] rfl rfl rfl rfl rfl rfl hl.1 rfl (Nat.le_of_ble_eq_true rfl) dX6_move_24 ⟨Nat.zero_le _, Nat.zero_le _⟩ (fun H locs hP hD hS => ?_)
        refine lv_iload_n hx hb dX6_move_27 rfl (lv_at hl 1 rfl) ?_
        refine fr_val e_2 ?_
        refine lv_iload_n hx hb dX6_move_28 rfl (lv_at hl 2 rfl) ?_
        refine fr_val e_4 ?_
        refine lv_iload_n hx hb dX6_move_29 rfl (lv_at hl 3 rfl) ?_
        refine fr_val e_6 ?_
        refine fr_Vi (As := [.int (nI 1560), .int (nI (tn t)), .int (nI (tn a)), .int (nI (tn c))]) (rest := [.ref (md 0)]) (fs' := [[((md 0), .inr (6, [.ref (md 1), .int (nI (n)), .ref (md 2), .int (nI (len)), .int (nI (p)), .int (nI (le)), .ref (md 3), .ref (md 4)]))], [((md 1), .inl (T 0, 1872, .inl (mMovS (mCp σ 0 5) 1560 (tn t) (tn a) (tn c))))]]) (ci := 6) (q0 := (RX6, TX6, 8)) (i0 := 0) ⟨hx, hb, hml, hown, hts⟩ (kX6_moves l D T Z md n len p le (mCp σ 0 5) 1560 (tn t) (tn a) (tn c) (by decide) (by omega) (by omega) (by omega)) (cwV 4 hts gX6_move_X6_moves rfl rfl rfl (by decide +kernel) ⟨Nat.le_of_ble_eq_true rfl, Nat.le_of_ble_eq_true rfl⟩) hK hN hM hP hD hS hA [0, 1] rfl rfl rfl rfl rfl rfl hl.1 rfl (Nat.le_of_ble_eq_true rfl) dX6_move_30 ⟨Nat.zero_le _, Nat.zero_le _⟩ (fun H locs hP hD hS => ?_)
        refine fr_Vi (As := [.int (mMovR (mCp σ 0 5) 1560 (tn t) (tn c))]) (rest := []) (fs' := [[((md 0), .inr (6, [.ref (md 1), .int (nI (nAcc n (mMovR (mCp σ 0 5) 1560 (tn t) (tn c)))), .ref (md 2), .int (nI (len)), .int (nI (p)), .int (nI (le)), .ref (md 3), .ref (md 4)]))], [((md 1), .inl (T 0, 1872, .inl (mAcc (mMovS (mCp σ 0 5) 1560 (tn t) (tn a) (tn c)) n (mMovR (mCp σ 0 5) 1560 (tn t) (tn c)))))]]) (ci := 6) (q0 := (RX6, TX6, 8)) (i0 := 0) ⟨hx, hb, hml, hown, hts⟩ (kX6_accepts l D T Z md n len p le (mMovS (mCp σ 0 5) 1560 (tn t) (tn a) (tn c)) (mMovR (mCp σ 0 5) 1560 (tn t) (tn c)) (by omega)) (cwV 1 hts gX6_move_X6_accepts rfl rfl rfl (by decide +kernel) ⟨Nat.le_of_ble_eq_true rfl, Nat.le_of_ble_eq_true rfl⟩) hK hN hM hP hD hS hA [0, 1] rfl rfl rfl rfl rfl rfl hl.1 rfl (Nat.le_of_ble_eq_true rfl) dX6_move_33 ⟨Nat.zero_le _, Nat.zero_le _⟩ (fun H locs hP hD hS => ?_)
        refine lv_goto (tgt := 40) hx hb dX6_move_36 (by decide) ?_
        exact fr_iret hx hb hr hlk hP hS (by first | rfl | (simp only [mAS, mAN, c_1, c_3, c_5, ↓reduceIte, Bool.false_eq_true, bI_true, bI_false, Bool.true_and, Bool.and_true, Bool.and_false, Bool.false_and, Bool.not_true, Bool.not_false, Bool.or_true, Bool.true_or, Bool.or_false, Bool.false_or] <;> rfl) | (simp [mAS, mAN, c_1, c_3, c_5, bI]; done)) (by first | rfl | (simp only [mAS, mAN, c_1, c_3, c_5, ↓reduceIte, Bool.false_eq_true, bI_true, bI_false, Bool.true_and, Bool.and_true, Bool.and_false, Bool.false_and, Bool.not_true, Bool.not_false, Bool.or_true, Bool.true_or, Bool.or_false, Bool.false_or] <;> rfl) | (simp [mAS, mAN, c_1, c_3, c_5, bI]; done)) dX6_move_40

set_option maxHeartbeats 8000000 in
set_option maxRecDepth 100000 in
theorem kX6_compute (l : Launch) (D : va_G) (T : Nat → ClassId) (Z : ZZ) (md : Nat → Nat) (n : Nat) (len : Nat) (p : Nat) (le : Nat) (σ : MS) (t : Int32) (q : Int32) (k : Int32) (a : Int32) (c : Int32) (hn4 : n ≤ 4) : CtI l D T Z yX6_compute wsX6_compute ({ frames := 4, cells := 0, slots := 0, locals := 102 }) [[((md 0), .inr (6, [.ref (md 1), .int (nI (n)), .ref (md 2), .int (nI (len)), .int (nI (p)), .int (nI (le)), .ref (md 3), .ref (md 4)]))], [((md 1), .inl (T 0, 1872, .inl (σ)))]] [.ref (md 0), .int (t), .int (q), .int (k), .int (a), .int (c)] (if iN t 4 && (iN k 4 && (iN a 4 && iN c 4)) then (if iN q 4 then mCmpR (mCp σ 0 5) 1560 (tn t) (tn q) (tn a) (tn c) else -2) else -1) [[((md 0), .inr (6, [.ref (md 1), .int (nI (mAN (iN t 4 && (iN k 4 && (iN a 4 && (iN c 4 && iN q 4)))) n (mCmpR (mCp σ 0 5) 1560 (tn t) (tn q) (tn a) (tn c)))), .ref (md 2), .int (nI (len)), .int (nI (p)), .int (nI (le)), .ref (md 3), .ref (md 4)]))], [((md 1), .inl (T 0, 1872, .inl (mAS (iN t 4 && (iN k 4 && (iN a 4 && (iN c 4 && iN q 4)))) (mCmpS (mCp σ 0 5) 1560 (tn t) (tn q) (tn k) (tn a) (tn c)) n (mCmpR (mCp σ 0 5) 1560 (tn t) (tn q) (tn a) (tn c)) σ)))]] := by
  refine CtI.of (cc := cX6_compute) (maxL := 6) (ret := (some .int)) (plainFor_of_name (by decide)) rfl rfl ?_
  intro pP eE s mM bW mE cC A hE hK hN hM hP hD hA
  obtain ⟨hx, hb, hr, hts, hown, hml, hlk⟩ := hE
  have hown : s.vm.findClass RX6 = some mM.cls := hown
  have hS : va_S A s.heap s.heap [] := va_S.rf
  have hl := lv_entry ([.ref (md 0), .int (t), .int (q), .int (k), .int (a), .int (c)]) (n := 6) (Nat.le_of_ble_eq_true rfl)
  rw [lg_entry_eq]
  generalize (lg_sl ([.ref (md 0), .int (t), .int (q), .int (k), .int (a), .int (c)]) ++ List.replicate (6 - (lg_sl ([.ref (md 0), .int (t), .int (q), .int (k), .int (a), .int (c)])).length) Slot.unset).toArray = ls at hl ⊢
  have hl : lv_has ls 6 [(0, .ref (md 0)), (1, .int (t)), (2, .int (q)), (3, .int (k)), (4, .int (a)), (5, .int (c))] := hl
  refine lv_iload_n hx hb dX6_compute_0 rfl (lv_at hl 1 rfl) ?_
  refine fr_S0 (As := [.int (t)]) (rest := []) ⟨hx, hb, hml, hown, hts⟩ (kX6_isOne l D T Z t) (va_cwS 1 hts gX6_compute_X6_isOne rfl rfl rfl (by decide +kernel) ⟨Nat.le_of_ble_eq_true rfl, Nat.le_of_ble_eq_true rfl⟩) hK hN hM hP hD hS hA rfl hl.1 rfl (Nat.le_of_ble_eq_true rfl) dX6_compute_1 ⟨Nat.zero_le _, Nat.zero_le _⟩ (fun H locs hP hD hS => ?_)
  refine fr_ifeq_b (tgt := 30) hx hb dX6_compute_4 (by decide) (fun c_1 => ?_) (fun c_1 => ?_)
  · refine lv_iconst (v := (-1)) hx hb dX6_compute_30 (by decide) ?_
    exact fr_iret hx hb hr hlk hP hS (by first | rfl | (simp only [mAS, mAN, c_1, ↓reduceIte, Bool.false_eq_true, bI_true, bI_false, Bool.true_and, Bool.and_true, Bool.and_false, Bool.false_and, Bool.not_true, Bool.not_false, Bool.or_true, Bool.true_or, Bool.or_false, Bool.false_or] <;> rfl) | (simp [mAS, mAN, c_1, bI]; done)) (by first | rfl | (simp only [mAS, mAN, c_1, ↓reduceIte, Bool.false_eq_true, bI_true, bI_false, Bool.true_and, Bool.and_true, Bool.and_false, Bool.false_and, Bool.not_true, Bool.not_false, Bool.or_true, Bool.true_or, Bool.or_false, Bool.false_or] <;> rfl) | (simp [mAS, mAN, c_1, bI]; done)) dX6_compute_31
  · have e_2 := iN_eq c_1
    have e_2b := iN_lt c_1 (by decide)
    refine lv_iload_n hx hb dX6_compute_7 rfl (lv_at hl 3 rfl) ?_
    refine fr_S0 (As := [.int (k)]) (rest := []) ⟨hx, hb, hml, hown, hts⟩ (kX6_isOne l D T Z k) (va_cwS 1 hts gX6_compute_X6_isOne rfl rfl rfl (by decide +kernel) ⟨Nat.le_of_ble_eq_true rfl, Nat.le_of_ble_eq_true rfl⟩) hK hN hM hP hD hS hA rfl hl.1 rfl (Nat.le_of_ble_eq_true rfl) dX6_compute_8 ⟨Nat.zero_le _, Nat.zero_le _⟩ (fun H locs hP hD hS => ?_)
    refine fr_ifeq_b (tgt := 30) hx hb dX6_compute_11 (by decide) (fun c_3 => ?_) (fun c_3 => ?_)
    · refine lv_iconst (v := (-1)) hx hb dX6_compute_30 (by decide) ?_
      exact fr_iret hx hb hr hlk hP hS (by first | rfl | (simp only [mAS, mAN, c_1, c_3, ↓reduceIte, Bool.false_eq_true, bI_true, bI_false, Bool.true_and, Bool.and_true, Bool.and_false, Bool.false_and, Bool.not_true, Bool.not_false, Bool.or_true, Bool.true_or, Bool.or_false, Bool.false_or] <;> rfl) | (simp [mAS, mAN, c_1, c_3, bI]; done)) (by first | rfl | (simp only [mAS, mAN, c_1, c_3, ↓reduceIte, Bool.false_eq_true, bI_true, bI_false, Bool.true_and, Bool.and_true, Bool.and_false, Bool.false_and, Bool.not_true, Bool.not_false, Bool.or_true, Bool.true_or, Bool.or_false, Bool.false_or] <;> rfl) | (simp [mAS, mAN, c_1, c_3, bI]; done)) dX6_compute_31
    · have e_4 := iN_eq c_3
      have e_4b := iN_lt c_3 (by decide)
      refine lv_iload hx hb dX6_compute_14 (lv_at hl 4 rfl) ?_
      refine fr_S0 (As := [.int (a)]) (rest := []) ⟨hx, hb, hml, hown, hts⟩ (kX6_isOne l D T Z a) (va_cwS 1 hts gX6_compute_X6_isOne rfl rfl rfl (by decide +kernel) ⟨Nat.le_of_ble_eq_true rfl, Nat.le_of_ble_eq_true rfl⟩) hK hN hM hP hD hS hA rfl hl.1 rfl (Nat.le_of_ble_eq_true rfl) dX6_compute_16 ⟨Nat.zero_le _, Nat.zero_le _⟩ (fun H locs hP hD hS => ?_)
      refine fr_ifeq_b (tgt := 30) hx hb dX6_compute_19 (by decide) (fun c_5 => ?_) (fun c_5 => ?_)
      · refine lv_iconst (v := (-1)) hx hb dX6_compute_30 (by decide) ?_
        exact fr_iret hx hb hr hlk hP hS (by first | rfl | (simp only [mAS, mAN, c_1, c_3, c_5, ↓reduceIte, Bool.false_eq_true, bI_true, bI_false, Bool.true_and, Bool.and_true, Bool.and_false, Bool.false_and, Bool.not_true, Bool.not_false, Bool.or_true, Bool.true_or, Bool.or_false, Bool.false_or] <;> rfl) | (simp [mAS, mAN, c_1, c_3, c_5, bI]; done)) (by first | rfl | (simp only [mAS, mAN, c_1, c_3, c_5, ↓reduceIte, Bool.false_eq_true, bI_true, bI_false, Bool.true_and, Bool.and_true, Bool.and_false, Bool.false_and, Bool.not_true, Bool.not_false, Bool.or_true, Bool.true_or, Bool.or_false, Bool.false_or] <;> rfl) | (simp [mAS, mAN, c_1, c_3, c_5, bI]; done)) dX6_compute_31
      · have e_6 := iN_eq c_5
        have e_6b := iN_lt c_5 (by decide)
        refine lv_iload hx hb dX6_compute_22 (lv_at hl 5 rfl) ?_
        refine fr_S0 (As := [.int (c)]) (rest := []) ⟨hx, hb, hml, hown, hts⟩ (kX6_isOne l D T Z c) (va_cwS 1 hts gX6_compute_X6_isOne rfl rfl rfl (by decide +kernel) ⟨Nat.le_of_ble_eq_true rfl, Nat.le_of_ble_eq_true rfl⟩) hK hN hM hP hD hS hA rfl hl.1 rfl (Nat.le_of_ble_eq_true rfl) dX6_compute_24 ⟨Nat.zero_le _, Nat.zero_le _⟩ (fun H locs hP hD hS => ?_)
        refine fr_ifne_b (tgt := 32) hx hb dX6_compute_27 (by decide) (fun c_7 => ?_) (fun c_7 => ?_)
        · have e_8 := iN_eq c_7
          have e_8b := iN_lt c_7 (by decide)
          refine lv_iload_n hx hb dX6_compute_32 rfl (lv_at hl 2 rfl) ?_
          refine lv_iconst (v := nI 0) hx hb dX6_compute_33 (by decide) ?_
          refine lv_iconst (v := nI 3) hx hb dX6_compute_34 (by decide) ?_
          refine fr_S0 (As := [.int (q), .int (nI 0), .int (nI 3)]) (rest := []) ⟨hx, hb, hml, hown, hts⟩ (kX6_in l D T Z q (nI 0) (nI 3)) (va_cwS 3 hts gX6_compute_X6_in rfl rfl rfl (by decide +kernel) ⟨Nat.le_of_ble_eq_true rfl, Nat.le_of_ble_eq_true rfl⟩) hK hN hM hP hD hS hA rfl hl.1 rfl (Nat.le_of_ble_eq_true rfl) dX6_compute_35 ⟨Nat.zero_le _, Nat.zero_le _⟩ (fun H locs hP hD hS => ?_)
          refine fr_ifeq_b (tgt := 63) hx hb dX6_compute_38 (by decide) (fun c_9 => ?_) (fun c_9 => ?_)
          · have r_10 : iN q 4 = false := (inn_iN (by decide)).symm.trans c_9
            refine lv_bipush (v := (-2)) hx hb dX6_compute_63 (by decide) ?_
            exact fr_iret hx hb hr hlk hP hS (by first | rfl | (simp only [mAS, mAN, c_1, c_3, c_5, c_7, c_9, r_10, ↓reduceIte, Bool.false_eq_true, bI_true, bI_false, Bool.true_and, Bool.and_true, Bool.and_false, Bool.false_and, Bool.not_true, Bool.not_false, Bool.or_true, Bool.true_or, Bool.or_false, Bool.false_or] <;> rfl) | (simp [mAS, mAN, c_1, c_3, c_5, c_7, c_9, r_10, bI]; done)) (by first | rfl | (simp only [mAS, mAN, c_1, c_3, c_5, c_7, c_9, r_10, ↓reduceIte, Bool.false_eq_true, bI_true, bI_false, Bool.true_and, Bool.and_true, Bool.and_false, Bool.false_and, Bool.not_true, Bool.not_false, Bool.or_true, Bool.true_or, Bool.or_false, Bool.false_or] <;> rfl) | (simp [mAS, mAN, c_1, c_3, c_5, c_7, c_9, r_10, bI]; done)) dX6_compute_65
          · have r_11 : iN q 4 = true := (inn_iN (by decide)).symm.trans c_9
            have e_12 := iN_eq r_11
            have e_12b := iN_lt r_11 (by decide)
            refine lv_aload_n hx hb dX6_compute_41 rfl (lv_at hl 0 rfl) ?_
            refine lv_aload_n hx hb dX6_compute_42 rfl (lv_at hl 0 rfl) ?_
            refine lv_aload_n hx hb dX6_compute_43 rfl (lv_at hl 0 rfl) ?_
            refine fr_Vi (As := []) (rest := [.ref (md 0), .ref (md 0)]) (fs' := [[((md 0), .inr (6, [.ref (md 1), .int (nI (n)), .ref (md 2), .int (nI (len)), .int (nI (p)), .int (nI (le)), .ref (md 3), .ref (md 4)]))], [((md 1), .inl (T 0, 1872, .inl (mCp σ 0 5)))]]) (ci := 6) (q0 := (RX6, TX6, 8)) (i0 := 0) ⟨hx, hb, hml, hown, hts⟩ (kX6_begins l D T Z md n len p le σ) (cwV 0 hts gX6_compute_X6_begins rfl rfl rfl (by decide +kernel) ⟨Nat.le_of_ble_eq_true rfl, Nat.le_of_ble_eq_true rfl⟩) hK hN hM hP hD hS hA [0, 1] rfl rfl rfl rfl rfl rfl hl.1 rfl (Nat.le_of_ble_eq_true rfl) dX6_compute_44 ⟨Nat.zero_le _, Nat.zero_le _⟩ (fun H locs hP hD hS => ?_)
            refine lv_iload_n hx hb dX6_compute_47 rfl (lv_at hl 1 rfl) ?_
            refine fr_val e_2 ?_
            refine lv_iload_n hx hb dX6_compute_48 rfl (lv_at hl 2 rfl) ?_
            refine fr_val e_12 ?_
            refine lv_iload_n hx hb dX6_compute_49 rfl (lv_at hl 3 rfl) ?_
            refine fr_val e_4 ?_
            refine lv_iload hx hb dX6_compute_50 (lv_at hl 4 rfl) ?_
            refine fr_val e_6 ?_
            refine lv_iload hx hb dX6_compute_52 (lv_at hl 5 rfl) ?_
            refine fr_val e_8 ?_
            refine fr_Vi (As := [.int (nI 1560), .int (nI (tn t)), .int (nI (tn q)), .int (nI (tn k)), .int (nI (tn a)), .int (nI (tn c))]) (rest := [.ref (md 0)]) (fs' := [[((md 0), .inr (6, [.ref (md 1), .int (nI (n)), .ref (md 2), .int (nI (len)), .int (nI (p)), .int (nI (le)), .ref (md 3), .ref (md 4)]))], [((md 1), .inl (T 0, 1872, .inl (mCmpS (mCp σ 0 5) 1560 (tn t) (tn q) (tn k) (tn a) (tn c))))]]) (ci := 6) (q0 := (RX6, TX6, 8)) (i0 := 0) ⟨hx, hb, hml, hown, hts⟩ (kX6_computes l D T Z md n len p le (mCp σ 0 5) 1560 (tn t) (tn q) (tn k) (tn a) (tn c) (by decide) (by omega) (by omega) (by omega) (by omega) (by omega)) (cwV 6 hts gX6_compute_X6_computes rfl rfl rfl (by decide +kernel) ⟨Nat.le_of_ble_eq_true rfl, Nat.le_of_ble_eq_true rfl⟩) hK hN hM hP hD hS hA [0, 1] rfl rfl rfl rfl rfl rfl hl.1 rfl (Nat.le_of_ble_eq_true rfl) dX6_compute_54 ⟨Nat.zero_le _, Nat.zero_le _⟩ (fun H locs hP hD hS => ?_)
            refine fr_Vi (As := [.int (mCmpR (mCp σ 0 5) 1560 (tn t) (tn q) (tn a) (tn c))]) (rest := []) (fs' := [[((md 0), .inr (6, [.ref (md 1), .int (nI (nAcc n (mCmpR (mCp σ 0 5) 1560 (tn t) (tn q) (tn a) (tn c)))), .ref (md 2), .int (nI (len)), .int (nI (p)), .int (nI (le)), .ref (md 3), .ref (md 4)]))], [((md 1), .inl (T 0, 1872, .inl (mAcc (mCmpS (mCp σ 0 5) 1560 (tn t) (tn q) (tn k) (tn a) (tn c)) n (mCmpR (mCp σ 0 5) 1560 (tn t) (tn q) (tn a) (tn c)))))]]) (ci := 6) (q0 := (RX6, TX6, 8)) (i0 := 0) ⟨hx, hb, hml, hown, hts⟩ (kX6_accepts l D T Z md n len p le (mCmpS (mCp σ 0 5) 1560 (tn t) (tn q) (tn k) (tn a) (tn c)) (mCmpR (mCp σ 0 5) 1560 (tn t) (tn q) (tn a) (tn c)) (by omega)) (cwV 1 hts gX6_compute_X6_accepts rfl rfl rfl (by decide +kernel) ⟨Nat.le_of_ble_eq_true rfl, Nat.le_of_ble_eq_true rfl⟩) hK hN hM hP hD hS hA [0, 1] rfl rfl rfl rfl rfl rfl hl.1 rfl (Nat.le_of_ble_eq_true rfl) dX6_compute_57 ⟨Nat.zero_le _, Nat.zero_le _⟩ (fun H locs hP hD hS => ?_)
            refine lv_goto (tgt := 65) hx hb dX6_compute_60 (by decide) ?_
            exact fr_iret hx hb hr hlk hP hS (by first | rfl | (simp only [mAS, mAN, c_1, c_3, c_5, c_7, c_9, r_11, ↓reduceIte, Bool.false_eq_true, bI_true, bI_false, Bool.true_and, Bool.and_true, Bool.and_false, Bool.false_and, Bool.not_true, Bool.not_false, Bool.or_true, Bool.true_or, Bool.or_false, Bool.false_or] <;> rfl) | (simp [mAS, mAN, c_1, c_3, c_5, c_7, c_9, r_11, bI]; done)) (by first | rfl | (simp only [mAS, mAN, c_1, c_3, c_5, c_7, c_9, r_11, ↓reduceIte, Bool.false_eq_true, bI_true, bI_false, Bool.true_and, Bool.and_true, Bool.and_false, Bool.false_and, Bool.not_true, Bool.not_false, Bool.or_true, Bool.true_or, Bool.or_false, Bool.false_or] <;> rfl) | (simp [mAS, mAN, c_1, c_3, c_5, c_7, c_9, r_11, bI]; done)) dX6_compute_65
        · refine lv_iconst (v := (-1)) hx hb dX6_compute_30 (by decide) ?_
          exact fr_iret hx hb hr hlk hP hS (by first | rfl | (simp only [mAS, mAN, c_1, c_3, c_5, c_7, ↓reduceIte, Bool.false_eq_true, bI_true, bI_false, Bool.true_and, Bool.and_true, Bool.and_false, Bool.false_and, Bool.not_true, Bool.not_false, Bool.or_true, Bool.true_or, Bool.or_false, Bool.false_or] <;> rfl) | (simp [mAS, mAN, c_1, c_3, c_5, c_7, bI]; done)) (by first | rfl | (simp only [mAS, mAN, c_1, c_3, c_5, c_7, ↓reduceIte, Bool.false_eq_true, bI_true, bI_false, Bool.true_and, Bool.and_true, Bool.and_false, Bool.false_and, Bool.not_true, Bool.not_false, Bool.or_true, Bool.true_or, Bool.or_false, Bool.false_or] <;> rfl) | (simp [mAS, mAN, c_1, c_3, c_5, c_7, bI]; done)) dX6_compute_31

set_option maxHeartbeats 8000000 in
set_option maxRecDepth 100000 in
theorem kX6_loadAt (l : Launch) (D : va_G) (T : Nat → ClassId) (Z : ZZ) (md : Nat → Nat) (n : Nat) (len : Nat) (p : Nat) (le : Nat) (σ : MS) (t : Int32) (k : Int32) (a : Int32) (hn4 : n ≤ 4) (hv : ∀ t a : Nat, t < 4 → a < 4 → WH (mUse (mCp σ 0 5) 1560 t a a (rgt 1560 t a)) 65535) : CtI l D T Z yX6_loadAt wsX6_loadAt ({ frames := 5, cells := 0, slots := 0, locals := 119 }) [[((md 0), .inr (6, [.ref (md 1), .int (nI (n)), .ref (md 2), .int (nI (len)), .int (nI (p)), .int (nI (le)), .ref (md 3), .ref (md 4)]))], [((md 1), .inl (T 0, 1872, .inl (σ)))]] [.ref (md 0), .int (t), .int (k), .int (a)] (if iN t 4 && (iN k 4 && iN a 4) then mLaR (mCp σ 0 5) 1560 (tn t) (tn a) else -1) [[((md 0), .inr (6, [.ref (md 1), .int (nI (mAN (iN t 4 && (iN k 4 && iN a 4)) n (mLaR (mCp σ 0 5) 1560 (tn t) (tn a)))), .ref (md 2), .int (nI (len)), .int (nI (p)), .int (nI (le)), .ref (md 3), .ref (md 4)]))], [((md 1), .inl (T 0, 1872, .inl (mAS (iN t 4 && (iN k 4 && iN a 4)) (mLaS (mCp σ 0 5) 1560 (tn t) (tn k) (tn a)) n (mLaR (mCp σ 0 5) 1560 (tn t) (tn a)) σ)))]] := by
  refine CtI.of (cc := cX6_loadAt) (maxL := 4) (ret := (some .int)) (plainFor_of_name (by decide)) rfl rfl ?_
  intro pP eE s mM bW mE cC A hE hK hN hM hP hD hA
  obtain ⟨hx, hb, hr, hts, hown, hml, hlk⟩ := hE
  have hown : s.vm.findClass RX6 = some mM.cls := hown
  have hS : va_S A s.heap s.heap [] := va_S.rf
  have hl := lv_entry ([.ref (md 0), .int (t), .int (k), .int (a)]) (n := 4) (Nat.le_of_ble_eq_true rfl)
  rw [lg_entry_eq]
  generalize (lg_sl ([.ref (md 0), .int (t), .int (k), .int (a)]) ++ List.replicate (4 - (lg_sl ([.ref (md 0), .int (t), .int (k), .int (a)])).length) Slot.unset).toArray = ls at hl ⊢
  have hl : lv_has ls 4 [(0, .ref (md 0)), (1, .int (t)), (2, .int (k)), (3, .int (a))] := hl
  refine lv_iload_n hx hb dX6_loadAt_0 rfl (lv_at hl 1 rfl) ?_
  refine fr_S0 (As := [.int (t)]) (rest := []) ⟨hx, hb, hml, hown, hts⟩ (kX6_isOne l D T Z t) (va_cwS 1 hts gX6_loadAt_X6_isOne rfl rfl rfl (by decide +kernel) ⟨Nat.le_of_ble_eq_true rfl, Nat.le_of_ble_eq_true rfl⟩) hK hN hM hP hD hS hA rfl hl.1 rfl (Nat.le_of_ble_eq_true rfl) dX6_loadAt_1 ⟨Nat.zero_le _, Nat.zero_le _⟩ (fun H locs hP hD hS => ?_)
  refine fr_ifeq_b (tgt := 39) hx hb dX6_loadAt_4 (by decide) (fun c_1 => ?_) (fun c_1 => ?_)
  · refine lv_iconst (v := (-1)) hx hb dX6_loadAt_39 (by decide) ?_
    exact fr_iret hx hb hr hlk hP hS (by first | rfl | (simp only [mAS, mAN, c_1, ↓reduceIte, Bool.false_eq_true, bI_true, bI_false, Bool.true_and, Bool.and_true, Bool.and_false, Bool.false_and, Bool.not_true, Bool.not_false, Bool.or_true, Bool.true_or, Bool.or_false, Bool.false_or] <;> rfl) | (simp [mAS, mAN, c_1, bI]; done)) (by first | rfl | (simp only [mAS, mAN, c_1, ↓reduceIte, Bool.false_eq_true, bI_true, bI_false, Bool.true_and, Bool.and_true, Bool.and_false, Bool.false_and, Bool.not_true, Bool.not_false, Bool.or_true, Bool.true_or, Bool.or_false, Bool.false_or] <;> rfl) | (simp [mAS, mAN, c_1, bI]; done)) dX6_loadAt_40
  · have e_2 := iN_eq c_1
    have e_2b := iN_lt c_1 (by decide)
    refine lv_iload_n hx hb dX6_loadAt_7 rfl (lv_at hl 2 rfl) ?_
    refine fr_S0 (As := [.int (k)]) (rest := []) ⟨hx, hb, hml, hown, hts⟩ (kX6_isOne l D T Z k) (va_cwS 1 hts gX6_loadAt_X6_isOne rfl rfl rfl (by decide +kernel) ⟨Nat.le_of_ble_eq_true rfl, Nat.le_of_ble_eq_true rfl⟩) hK hN hM hP hD hS hA rfl hl.1 rfl (Nat.le_of_ble_eq_true rfl) dX6_loadAt_8 ⟨Nat.zero_le _, Nat.zero_le _⟩ (fun H locs hP hD hS => ?_)
    refine fr_ifeq_b (tgt := 39) hx hb dX6_loadAt_11 (by decide) (fun c_3 => ?_) (fun c_3 => ?_)
    · refine lv_iconst (v := (-1)) hx hb dX6_loadAt_39 (by decide) ?_
      exact fr_iret hx hb hr hlk hP hS (by first | rfl | (simp only [mAS, mAN, c_1, c_3, ↓reduceIte, Bool.false_eq_true, bI_true, bI_false, Bool.true_and, Bool.and_true, Bool.and_false, Bool.false_and, Bool.not_true, Bool.not_false, Bool.or_true, Bool.true_or, Bool.or_false, Bool.false_or] <;> rfl) | (simp [mAS, mAN, c_1, c_3, bI]; done)) (by first | rfl | (simp only [mAS, mAN, c_1, c_3, ↓reduceIte, Bool.false_eq_true, bI_true, bI_false, Bool.true_and, Bool.and_true, Bool.and_false, Bool.false_and, Bool.not_true, Bool.not_false, Bool.or_true, Bool.true_or, Bool.or_false, Bool.false_or] <;> rfl) | (simp [mAS, mAN, c_1, c_3, bI]; done)) dX6_loadAt_40
    · have e_4 := iN_eq c_3
      have e_4b := iN_lt c_3 (by decide)
      refine lv_iload_n hx hb dX6_loadAt_14 rfl (lv_at hl 3 rfl) ?_
      refine fr_S0 (As := [.int (a)]) (rest := []) ⟨hx, hb, hml, hown, hts⟩ (kX6_isOne l D T Z a) (va_cwS 1 hts gX6_loadAt_X6_isOne rfl rfl rfl (by decide +kernel) ⟨Nat.le_of_ble_eq_true rfl, Nat.le_of_ble_eq_true rfl⟩) hK hN hM hP hD hS hA rfl hl.1 rfl (Nat.le_of_ble_eq_true rfl) dX6_loadAt_15 ⟨Nat.zero_le _, Nat.zero_le _⟩ (fun H locs hP hD hS => ?_)
      refine fr_ifeq_b (tgt := 39) hx hb dX6_loadAt_18 (by decide) (fun c_5 => ?_) (fun c_5 => ?_)
      · refine lv_iconst (v := (-1)) hx hb dX6_loadAt_39 (by decide) ?_
        exact fr_iret hx hb hr hlk hP hS (by first | rfl | (simp only [mAS, mAN, c_1, c_3, c_5, ↓reduceIte, Bool.false_eq_true, bI_true, bI_false, Bool.true_and, Bool.and_true, Bool.and_false, Bool.false_and, Bool.not_true, Bool.not_false, Bool.or_true, Bool.true_or, Bool.or_false, Bool.false_or] <;> rfl) | (simp [mAS, mAN, c_1, c_3, c_5, bI]; done)) (by first | rfl | (simp only [mAS, mAN, c_1, c_3, c_5, ↓reduceIte, Bool.false_eq_true, bI_true, bI_false, Bool.true_and, Bool.and_true, Bool.and_false, Bool.false_and, Bool.not_true, Bool.not_false, Bool.or_true, Bool.true_or, Bool.or_false, Bool.false_or] <;> rfl) | (simp [mAS, mAN, c_1, c_3, c_5, bI]; done)) dX6_loadAt_40
      · have e_6 := iN_eq c_5
        have e_6b := iN_lt c_5 (by decide)
        refine lv_aload_n hx hb dX6_loadAt_21 rfl (lv_at hl 0 rfl) ?_
        refine lv_aload_n hx hb dX6_loadAt_22 rfl (lv_at hl 0 rfl) ?_
        refine lv_aload_n hx hb dX6_loadAt_23 rfl (lv_at hl 0 rfl) ?_
        refine fr_Vi (As := []) (rest := [.ref (md 0), .ref (md 0)]) (fs' := [[((md 0), .inr (6, [.ref (md 1), .int (nI (n)), .ref (md 2), .int (nI (len)), .int (nI (p)), .int (nI (le)), .ref (md 3), .ref (md 4)]))], [((md 1), .inl (T 0, 1872, .inl (mCp σ 0 5)))]]) (ci := 6) (q0 := (RX6, TX6, 8)) (i0 := 0) ⟨hx, hb, hml, hown, hts⟩ (kX6_begins l D T Z md n len p le σ) (cwV 0 hts gX6_loadAt_X6_begins rfl rfl rfl (by decide +kernel) ⟨Nat.le_of_ble_eq_true rfl, Nat.le_of_ble_eq_true rfl⟩) hK hN hM hP hD hS hA [0, 1] rfl rfl rfl rfl rfl rfl hl.1 rfl (Nat.le_of_ble_eq_true rfl) dX6_loadAt_24 ⟨Nat.zero_le _, Nat.zero_le _⟩ (fun H locs hP hD hS => ?_)
        refine lv_iload_n hx hb dX6_loadAt_27 rfl (lv_at hl 1 rfl) ?_
        refine fr_val e_2 ?_
        refine lv_iload_n hx hb dX6_loadAt_28 rfl (lv_at hl 2 rfl) ?_
        refine fr_val e_4 ?_
        refine lv_iload_n hx hb dX6_loadAt_29 rfl (lv_at hl 3 rfl) ?_
        refine fr_val e_6 ?_
        refine fr_Vi (As := [.int (nI 1560), .int (nI (tn t)), .int (nI (tn k)), .int (nI (tn a))]) (rest := [.ref (md 0)]) (fs' := [[((md 0), .inr (6, [.ref (md 1), .int (nI (n)), .ref (md 2), .int (nI (len)), .int (nI (p)), .int (nI (le)), .ref (md 3), .ref (md 4)]))], [((md 1), .inl (T 0, 1872, .inl (mLaS (mCp σ 0 5) 1560 (tn t) (tn k) (tn a))))]]) (ci := 6) (q0 := (RX6, TX6, 8)) (i0 := 0) ⟨hx, hb, hml, hown, hts⟩ (kX6_loadsAt l D T Z md n len p le (mCp σ 0 5) 1560 (tn t) (tn k) (tn a) (by decide) (by omega) (by omega) (by omega) (hv (tn t) (tn a) (by omega) (by omega))) (cwV 4 hts gX6_loadAt_X6_loadsAt rfl rfl rfl (by decide +kernel) ⟨Nat.le_of_ble_eq_true rfl, Nat.le_of_ble_eq_true rfl⟩) hK hN hM hP hD hS hA [0, 1] rfl rfl rfl rfl rfl rfl hl.1 rfl (Nat.le_of_ble_eq_true rfl) dX6_loadAt_30 ⟨Nat.zero_le _, Nat.zero_le _⟩ (fun H locs hP hD hS => ?_)
        refine fr_Vi (As := [.int (mLaR (mCp σ 0 5) 1560 (tn t) (tn a))]) (rest := []) (fs' := [[((md 0), .inr (6, [.ref (md 1), .int (nI (nAcc n (mLaR (mCp σ 0 5) 1560 (tn t) (tn a)))), .ref (md 2), .int (nI (len)), .int (nI (p)), .int (nI (le)), .ref (md 3), .ref (md 4)]))], [((md 1), .inl (T 0, 1872, .inl (mAcc (mLaS (mCp σ 0 5) 1560 (tn t) (tn k) (tn a)) n (mLaR (mCp σ 0 5) 1560 (tn t) (tn a)))))]]) (ci := 6) (q0 := (RX6, TX6, 8)) (i0 := 0) ⟨hx, hb, hml, hown, hts⟩ (kX6_accepts l D T Z md n len p le (mLaS (mCp σ 0 5) 1560 (tn t) (tn k) (tn a)) (mLaR (mCp σ 0 5) 1560 (tn t) (tn a)) (by omega)) (cwV 1 hts gX6_loadAt_X6_accepts rfl rfl rfl (by decide +kernel) ⟨Nat.le_of_ble_eq_true rfl, Nat.le_of_ble_eq_true rfl⟩) hK hN hM hP hD hS hA [0, 1] rfl rfl rfl rfl rfl rfl hl.1 rfl (Nat.le_of_ble_eq_true rfl) dX6_loadAt_33 ⟨Nat.zero_le _, Nat.zero_le _⟩ (fun H locs hP hD hS => ?_)
        refine lv_goto (tgt := 40) hx hb dX6_loadAt_36 (by decide) ?_
        exact fr_iret hx hb hr hlk hP hS (by first | rfl | (simp only [mAS, mAN, c_1, c_3, c_5, ↓reduceIte, Bool.false_eq_true, bI_true, bI_false, Bool.true_and, Bool.and_true, Bool.and_false, Bool.false_and, Bool.not_true, Bool.not_false, Bool.or_true, Bool.true_or, Bool.or_false, Bool.false_or] <;> rfl) | (simp [mAS, mAN, c_1, c_3, c_5, bI]; done)) (by first | rfl | (simp only [mAS, mAN, c_1, c_3, c_5, ↓reduceIte, Bool.false_eq_true, bI_true, bI_false, Bool.true_and, Bool.and_true, Bool.and_false, Bool.false_and, Bool.not_true, Bool.not_false, Bool.or_true, Bool.true_or, Bool.or_false, Bool.false_or] <;> rfl) | (simp [mAS, mAN, c_1, c_3, c_5, bI]; done)) dX6_loadAt_40

set_option maxHeartbeats 8000000 in
set_option maxRecDepth 100000 in
theorem kX6_output (l : Launch) (D : va_G) (T : Nat → ClassId) (Z : ZZ) (md : Nat → Nat) (n : Nat) (len : Nat) (p : Nat) (le : Nat) (σ : MS) (t : Int32) (a : Int32) (hn4 : n ≤ 4) : CtI l D T Z yX6_output wsX6_output ({ frames := 4, cells := 0, slots := 0, locals := 97 }) [[((md 0), .inr (6, [.ref (md 1), .int (nI (n)), .ref (md 2), .int (nI (len)), .int (nI (p)), .int (nI (le)), .ref (md 3), .ref (md 4)]))], [((md 1), .inl (T 0, 1872, .inl (σ)))]] [.ref (md 0), .int (t), .int (a)] (if iN t 4 && iN a 4 then mOuR (mCp σ 0 5) 1560 (tn t) (tn a) else -1) [[((md 0), .inr (6, [.ref (md 1), .int (nI (mAN (iN t 4 && iN a 4) n (mOuR (mCp σ 0 5) 1560 (tn t) (tn a)))), .ref (md 2), .int (nI (len)), .int (nI (p)), .int (nI (le)), .ref (md 3), .ref (md 4)]))], [((md 1), .inl (T 0, 1872, .inl (mAS (iN t 4 && iN a 4) (mOuS (mCp σ 0 5) 1560 (tn t) (tn a)) n (mOuR (mCp σ 0 5) 1560 (tn t) (tn a)) σ)))]] := by
  refine CtI.of (cc := cX6_output) (maxL := 3) (ret := (some .int)) (plainFor_of_name (by decide)) rfl rfl ?_
  intro pP eE s mM bW mE cC A hE hK hN hM hP hD hA
  obtain ⟨hx, hb, hr, hts, hown, hml, hlk⟩ := hE
  have hown : s.vm.findClass RX6 = some mM.cls := hown
  have hS : va_S A s.heap s.heap [] := va_S.rf
  have hl := lv_entry ([.ref (md 0), .int (t), .int (a)]) (n := 3) (Nat.le_of_ble_eq_true rfl)
  rw [lg_entry_eq]
  generalize (lg_sl ([.ref (md 0), .int (t), .int (a)]) ++ List.replicate (3 - (lg_sl ([.ref (md 0), .int (t), .int (a)])).length) Slot.unset).toArray = ls at hl ⊢
  have hl : lv_has ls 3 [(0, .ref (md 0)), (1, .int (t)), (2, .int (a))] := hl
  refine lv_iload_n hx hb dX6_output_0 rfl (lv_at hl 1 rfl) ?_
  refine fr_S0 (As := [.int (t)]) (rest := []) ⟨hx, hb, hml, hown, hts⟩ (kX6_isOne l D T Z t) (va_cwS 1 hts gX6_output_X6_isOne rfl rfl rfl (by decide +kernel) ⟨Nat.le_of_ble_eq_true rfl, Nat.le_of_ble_eq_true rfl⟩) hK hN hM hP hD hS hA rfl hl.1 rfl (Nat.le_of_ble_eq_true rfl) dX6_output_1 ⟨Nat.zero_le _, Nat.zero_le _⟩ (fun H locs hP hD hS => ?_)
  refine fr_ifeq_b (tgt := 31) hx hb dX6_output_4 (by decide) (fun c_1 => ?_) (fun c_1 => ?_)
  · refine lv_iconst (v := (-1)) hx hb dX6_output_31 (by decide) ?_
    exact fr_iret hx hb hr hlk hP hS (by first | rfl | (simp only [mAS, mAN, c_1, ↓reduceIte, Bool.false_eq_true, bI_true, bI_false, Bool.true_and, Bool.and_true, Bool.and_false, Bool.false_and, Bool.not_true, Bool.not_false, Bool.or_true, Bool.true_or, Bool.or_false, Bool.false_or] <;> rfl) | (simp [mAS, mAN, c_1, bI]; done)) (by first | rfl | (simp only [mAS, mAN, c_1, ↓reduceIte, Bool.false_eq_true, bI_true, bI_false, Bool.true_and, Bool.and_true, Bool.and_false, Bool.false_and, Bool.not_true, Bool.not_false, Bool.or_true, Bool.true_or, Bool.or_false, Bool.false_or] <;> rfl) | (simp [mAS, mAN, c_1, bI]; done)) dX6_output_32
  · have e_2 := iN_eq c_1
    have e_2b := iN_lt c_1 (by decide)
    refine lv_iload_n hx hb dX6_output_7 rfl (lv_at hl 2 rfl) ?_
    refine fr_S0 (As := [.int (a)]) (rest := []) ⟨hx, hb, hml, hown, hts⟩ (kX6_isOne l D T Z a) (va_cwS 1 hts gX6_output_X6_isOne rfl rfl rfl (by decide +kernel) ⟨Nat.le_of_ble_eq_true rfl, Nat.le_of_ble_eq_true rfl⟩) hK hN hM hP hD hS hA rfl hl.1 rfl (Nat.le_of_ble_eq_true rfl) dX6_output_8 ⟨Nat.zero_le _, Nat.zero_le _⟩ (fun H locs hP hD hS => ?_)
    refine fr_ifeq_b (tgt := 31) hx hb dX6_output_11 (by decide) (fun c_3 => ?_) (fun c_3 => ?_)
    · refine lv_iconst (v := (-1)) hx hb dX6_output_31 (by decide) ?_
      exact fr_iret hx hb hr hlk hP hS (by first | rfl | (simp only [mAS, mAN, c_1, c_3, ↓reduceIte, Bool.false_eq_true, bI_true, bI_false, Bool.true_and, Bool.and_true, Bool.and_false, Bool.false_and, Bool.not_true, Bool.not_false, Bool.or_true, Bool.true_or, Bool.or_false, Bool.false_or] <;> rfl) | (simp [mAS, mAN, c_1, c_3, bI]; done)) (by first | rfl | (simp only [mAS, mAN, c_1, c_3, ↓reduceIte, Bool.false_eq_true, bI_true, bI_false, Bool.true_and, Bool.and_true, Bool.and_false, Bool.false_and, Bool.not_true, Bool.not_false, Bool.or_true, Bool.true_or, Bool.or_false, Bool.false_or] <;> rfl) | (simp [mAS, mAN, c_1, c_3, bI]; done)) dX6_output_32
    · have e_4 := iN_eq c_3
      have e_4b := iN_lt c_3 (by decide)
      refine lv_aload_n hx hb dX6_output_14 rfl (lv_at hl 0 rfl) ?_
      refine lv_aload_n hx hb dX6_output_15 rfl (lv_at hl 0 rfl) ?_
      refine lv_aload_n hx hb dX6_output_16 rfl (lv_at hl 0 rfl) ?_
      refine fr_Vi (As := []) (rest := [.ref (md 0), .ref (md 0)]) (fs' := [[((md 0), .inr (6, [.ref (md 1), .int (nI (n)), .ref (md 2), .int (nI (len)), .int (nI (p)), .int (nI (le)), .ref (md 3), .ref (md 4)]))], [((md 1), .inl (T 0, 1872, .inl (mCp σ 0 5)))]]) (ci := 6) (q0 := (RX6, TX6, 8)) (i0 := 0) ⟨hx, hb, hml, hown, hts⟩ (kX6_begins l D T Z md n len p le σ) (cwV 0 hts gX6_output_X6_begins rfl rfl rfl (by decide +kernel) ⟨Nat.le_of_ble_eq_true rfl, Nat.le_of_ble_eq_true rfl⟩) hK hN hM hP hD hS hA [0, 1] rfl rfl rfl rfl rfl rfl hl.1 rfl (Nat.le_of_ble_eq_true rfl) dX6_output_17 ⟨Nat.zero_le _, Nat.zero_le _⟩ (fun H locs hP hD hS => ?_)
      refine lv_iload_n hx hb dX6_output_20 rfl (lv_at hl 1 rfl) ?_
      refine fr_val e_2 ?_
      refine lv_iload_n hx hb dX6_output_21 rfl (lv_at hl 2 rfl) ?_
      refine fr_val e_4 ?_
      refine fr_Vi (As := [.int (nI 1560), .int (nI (tn t)), .int (nI (tn a))]) (rest := [.ref (md 0)]) (fs' := [[((md 0), .inr (6, [.ref (md 1), .int (nI (n)), .ref (md 2), .int (nI (len)), .int (nI (p)), .int (nI (le)), .ref (md 3), .ref (md 4)]))], [((md 1), .inl (T 0, 1872, .inl (mOuS (mCp σ 0 5) 1560 (tn t) (tn a))))]]) (ci := 6) (q0 := (RX6, TX6, 8)) (i0 := 0) ⟨hx, hb, hml, hown, hts⟩ (kX6_outputs l D T Z md n len p le (mCp σ 0 5) 1560 (tn t) (tn a) (by decide) (by omega) (by omega)) (cwV 3 hts gX6_output_X6_outputs rfl rfl rfl (by decide +kernel) ⟨Nat.le_of_ble_eq_true rfl, Nat.le_of_ble_eq_true rfl⟩) hK hN hM hP hD hS hA [0, 1] rfl rfl rfl rfl rfl rfl hl.1 rfl (Nat.le_of_ble_eq_true rfl) dX6_output_22 ⟨Nat.zero_le _, Nat.zero_le _⟩ (fun H locs hP hD hS => ?_)
      refine fr_Vi (As := [.int (mOuR (mCp σ 0 5) 1560 (tn t) (tn a))]) (rest := []) (fs' := [[((md 0), .inr (6, [.ref (md 1), .int (nI (nAcc n (mOuR (mCp σ 0 5) 1560 (tn t) (tn a)))), .ref (md 2), .int (nI (len)), .int (nI (p)), .int (nI (le)), .ref (md 3), .ref (md 4)]))], [((md 1), .inl (T 0, 1872, .inl (mAcc (mOuS (mCp σ 0 5) 1560 (tn t) (tn a)) n (mOuR (mCp σ 0 5) 1560 (tn t) (tn a)))))]]) (ci := 6) (q0 := (RX6, TX6, 8)) (i0 := 0) ⟨hx, hb, hml, hown, hts⟩ (kX6_accepts l D T Z md n len p le (mOuS (mCp σ 0 5) 1560 (tn t) (tn a)) (mOuR (mCp σ 0 5) 1560 (tn t) (tn a)) (by omega)) (cwV 1 hts gX6_output_X6_accepts rfl rfl rfl (by decide +kernel) ⟨Nat.le_of_ble_eq_true rfl, Nat.le_of_ble_eq_true rfl⟩) hK hN hM hP hD hS hA [0, 1] rfl rfl rfl rfl rfl rfl hl.1 rfl (Nat.le_of_ble_eq_true rfl) dX6_output_25 ⟨Nat.zero_le _, Nat.zero_le _⟩ (fun H locs hP hD hS => ?_)
      refine lv_goto (tgt := 32) hx hb dX6_output_28 (by decide) ?_
      exact fr_iret hx hb hr hlk hP hS (by first | rfl | (simp only [mAS, mAN, c_1, c_3, ↓reduceIte, Bool.false_eq_true, bI_true, bI_false, Bool.true_and, Bool.and_true, Bool.and_false, Bool.false_and, Bool.not_true, Bool.not_false, Bool.or_true, Bool.true_or, Bool.or_false, Bool.false_or] <;> rfl) | (simp [mAS, mAN, c_1, c_3, bI]; done)) (by first | rfl | (simp only [mAS, mAN, c_1, c_3, ↓reduceIte, Bool.false_eq_true, bI_true, bI_false, Bool.true_and, Bool.and_true, Bool.and_false, Bool.false_and, Bool.not_true, Bool.not_false, Bool.or_true, Bool.true_or, Bool.or_false, Bool.false_or] <;> rfl) | (simp [mAS, mAN, c_1, c_3, bI]; done)) dX6_output_32

set_option maxHeartbeats 8000000 in
set_option maxRecDepth 100000 in
theorem kX6_setMode (l : Launch) (D : va_G) (T : Nat → ClassId) (Z : ZZ) (md : Nat → Nat) (n : Nat) (len : Nat) (p : Nat) (le : Nat) (σ : MS) (t : Int32) (m : Int32) (hn4 : n ≤ 4) : CtI l D T Z yX6_setMode wsX6_setMode ({ frames := 2, cells := 0, slots := 0, locals := 45 }) [[((md 0), .inr (6, [.ref (md 1), .int (nI (n)), .ref (md 2), .int (nI (len)), .int (nI (p)), .int (nI (le)), .ref (md 3), .ref (md 4)]))], [((md 1), .inl (T 0, 1872, .inl (σ)))]] [.ref (md 0), .int (t), .int (m)] (if iN t 4 then (if iN m 3 then mCp σ 0 5 (1560 + 248 + tn t) else -2) else -1) [[((md 0), .inr (6, [.ref (md 1), .int (nI (mAN (iN t 4 && iN m 3) n (mCp σ 0 5 (1560 + 248 + tn t)))), .ref (md 2), .int (nI (len)), .int (nI (p)), .int (nI (le)), .ref (md 3), .ref (md 4)]))], [((md 1), .inl (T 0, 1872, .inl (mAS (iN t 4 && iN m 3) (upd (mCp σ 0 5) (1560 + 248 + tn t) (nI (tn m))) n (mCp σ 0 5 (1560 + 248 + tn t)) σ)))]] := by
  refine CtI.of (cc := cX6_setMode) (maxL := 5) (ret := (some .int)) (plainFor_of_name (by decide)) rfl rfl ?_
  intro pP eE s mM bW mE cC A hE hK hN hM hP hD hA
  obtain ⟨hx, hb, hr, hts, hown, hml, hlk⟩ := hE
  have hown : s.vm.findClass RX6 = some mM.cls := hown
  have hS : va_S A s.heap s.heap [] := va_S.rf
  have hl := lv_entry ([.ref (md 0), .int (t), .int (m)]) (n := 5) (Nat.le_of_ble_eq_true rfl)
  rw [lg_entry_eq]
  generalize (lg_sl ([.ref (md 0), .int (t), .int (m)]) ++ List.replicate (5 - (lg_sl ([.ref (md 0), .int (t), .int (m)])).length) Slot.unset).toArray = ls at hl ⊢
  have hl : lv_has ls 5 [(0, .ref (md 0)), (1, .int (t)), (2, .int (m))] := hl
  have w_7 := hts (.fieldLink RX6 7 "PoisonedMemoryModel" "s" "[I") (by decide +kernel)
  have hinX6 : ∀ w ∈ wsX60, w ∈ wsX6_setMode := by decide +kernel
  refine lv_iload_n hx hb dX6_setMode_0 rfl (lv_at hl 1 rfl) ?_
  refine fr_S0 (As := [.int (t)]) (rest := []) ⟨hx, hb, hml, hown, hts⟩ (kX6_isOne l D T Z t) (va_cwS 1 hts gX6_setMode_X6_isOne rfl rfl rfl (by decide +kernel) ⟨Nat.le_of_ble_eq_true rfl, Nat.le_of_ble_eq_true rfl⟩) hK hN hM hP hD hS hA rfl hl.1 rfl (Nat.le_of_ble_eq_true rfl) dX6_setMode_1 ⟨Nat.zero_le _, Nat.zero_le _⟩ (fun H locs hP hD hS => ?_)
  refine fr_ifne_b (tgt := 9) hx hb dX6_setMode_4 (by decide) (fun c_1 => ?_) (fun c_1 => ?_)
  · have e_2 := iN_eq c_1
    have e_2b := iN_lt c_1 (by decide)
    refine lv_iload_n hx hb dX6_setMode_9 rfl (lv_at hl 2 rfl) ?_
    refine lv_iconst (v := nI 0) hx hb dX6_setMode_10 (by decide) ?_
    refine lv_iconst (v := nI 2) hx hb dX6_setMode_11 (by decide) ?_
    refine fr_S0 (As := [.int (m), .int (nI 0), .int (nI 2)]) (rest := []) ⟨hx, hb, hml, hown, hts⟩ (kX6_in l D T Z m (nI 0) (nI 2)) (va_cwS 3 hts gX6_setMode_X6_in rfl rfl rfl (by decide +kernel) ⟨Nat.le_of_ble_eq_true rfl, Nat.le_of_ble_eq_true rfl⟩) hK hN hM hP hD hS hA rfl hl.1 rfl (Nat.le_of_ble_eq_true rfl) dX6_setMode_12 ⟨Nat.zero_le _, Nat.zero_le _⟩ (fun H locs hP hD hS => ?_)
    refine fr_ifne_b (tgt := 21) hx hb dX6_setMode_15 (by decide) (fun c_3 => ?_) (fun c_3 => ?_)
    · have r_4 : iN m 3 = true := (inn_iN (by decide)).symm.trans c_3
      have e_5 := iN_eq r_4
      have e_5b := iN_lt r_4 (by decide)
      refine lv_aload_n hx hb dX6_setMode_21 rfl (lv_at hl 0 rfl) ?_
      refine fr_Vi (As := []) (rest := []) (fs' := [[((md 0), .inr (6, [.ref (md 1), .int (nI (n)), .ref (md 2), .int (nI (len)), .int (nI (p)), .int (nI (le)), .ref (md 3), .ref (md 4)]))], [((md 1), .inl (T 0, 1872, .inl (mCp σ 0 5)))]]) (ci := 6) (q0 := (RX6, TX6, 8)) (i0 := 0) ⟨hx, hb, hml, hown, hts⟩ (kX6_begins l D T Z md n len p le σ) (cwV 0 hts gX6_setMode_X6_begins rfl rfl rfl (by decide +kernel) ⟨Nat.le_of_ble_eq_true rfl, Nat.le_of_ble_eq_true rfl⟩) hK hN hM hP hD hS hA [0, 1] rfl rfl rfl rfl rfl rfl hl.1 rfl (Nat.le_of_ble_eq_true rfl) dX6_setMode_22 ⟨Nat.zero_le _, Nat.zero_le _⟩ (fun H locs hP hD hS => ?_)
      refine lv_istore_n (lv' := [(3, .int (nI 1560)), (0, .ref (md 0)), (1, .int (t)), (2, .int (m))]) hx hb dX6_setMode_25 rfl hl (by decide) rfl (fun ls hl => ?_)
      refine lv_aload_n hx hb dX6_setMode_26 rfl (lv_at hl 1 rfl) ?_
      refine va_get (D := D) (ci := 6) (v := .ref (md 1)) (C := RX6) (T := TX6) (N := 8) hx hb hts hinX6 hown hK (hP.at 0 rfl) 0 rfl rfl 0 (by decide) w_7 (fun _ h9 => h9) rfl dX6_setMode_27 ?_
      refine lv_iload_n hx hb dX6_setMode_30 rfl (lv_at hl 0 rfl) ?_
      refine lv_sipush (v := nI 248) hx hb dX6_setMode_31 (by decide) ?_
      refine fr_iadd (1560) (248) hx hb dX6_setMode_34 ?_
      refine lv_iload_n hx hb dX6_setMode_35 rfl (lv_at hl 2 rfl) ?_
      refine fr_val e_2 ?_
      refine fr_iadd (1808) (tn t) hx hb dX6_setMode_36 ?_
      refine fr_iald hx hb hK hP 1 ((1808 + tn t)) rfl (by omega) (by omega) dX6_setMode_37 ?_
      refine lv_istore (lv' := [(4, .int ((mCp σ 0 5) (1808 + tn t))), (3, .int (nI 1560)), (0, .ref (md 0)), (1, .int (t)), (2, .int (m))]) hx hb dX6_setMode_38 hl (by decide) rfl (fun ls hl => ?_)
      refine lv_aload_n hx hb dX6_setMode_40 rfl (lv_at hl 2 rfl) ?_
      refine va_get (D := D) (ci := 6) (v := .ref (md 1)) (C := RX6) (T := TX6) (N := 8) hx hb hts hinX6 hown hK (hP.at 0 rfl) 0 rfl rfl 0 (by decide) w_7 (fun _ h9 => h9) rfl dX6_setMode_41 ?_
      refine lv_iload_n hx hb dX6_setMode_44 rfl (lv_at hl 1 rfl) ?_
      refine lv_sipush (v := nI 248) hx hb dX6_setMode_45 (by decide) ?_
      refine fr_iadd (1560) (248) hx hb dX6_setMode_48 ?_
      refine lv_iload_n hx hb dX6_setMode_49 rfl (lv_at hl 3 rfl) ?_
      refine fr_val e_2 ?_
      refine fr_iadd (1808) (tn t) hx hb dX6_setMode_50 ?_
      refine lv_iload_n hx hb dX6_setMode_51 rfl (lv_at hl 4 rfl) ?_
      refine fr_val e_5 ?_
      refine fr_iast (fs' := [[((md 0), .inr (6, [.ref (md 1), .int (nI (n)), .ref (md 2), .int (nI (len)), .int (nI (p)), .int (nI (le)), .ref (md 3), .ref (md 4)]))], [((md 1), .inl (T 0, 1872, .inl (upd (mCp σ 0 5) (1808 + tn t) (nI (tn m)))))]]) hx hb hK hP hD hS 1 ((1808 + tn t)) rfl rfl (by omega) (by omega) dX6_setMode_52 (fun H locs hP hD hS => ?_)
      refine lv_aload_n hx hb dX6_setMode_53 rfl (lv_at hl 2 rfl) ?_
      refine lv_iload hx hb dX6_setMode_54 (lv_at hl 0 rfl) ?_
      refine fr_Vi (As := [.int ((mCp σ 0 5) (1808 + tn t))]) (rest := []) (fs' := [[((md 0), .inr (6, [.ref (md 1), .int (nI (nAcc n ((mCp σ 0 5) (1808 + tn t)))), .ref (md 2), .int (nI (len)), .int (nI (p)), .int (nI (le)), .ref (md 3), .ref (md 4)]))], [((md 1), .inl (T 0, 1872, .inl (mAcc (upd (mCp σ 0 5) (1808 + tn t) (nI (tn m))) n ((mCp σ 0 5) (1808 + tn t)))))]]) (ci := 6) (q0 := (RX6, TX6, 8)) (i0 := 0) ⟨hx, hb, hml, hown, hts⟩ (kX6_accepts l D T Z md n len p le (upd (mCp σ 0 5) (1808 + tn t) (nI (tn m))) ((mCp σ 0 5) (1808 + tn t)) (by omega)) (cwV 1 hts gX6_setMode_X6_accepts rfl rfl rfl (by decide +kernel) ⟨Nat.le_of_ble_eq_true rfl, Nat.le_of_ble_eq_true rfl⟩) hK hN hM hP hD hS hA [0, 1] rfl rfl rfl rfl rfl rfl hl.1 rfl (Nat.le_of_ble_eq_true rfl) dX6_setMode_56 ⟨Nat.zero_le _, Nat.zero_le _⟩ (fun H locs hP hD hS => ?_)
      exact fr_iret hx hb hr hlk hP hS (by first | rfl | (simp only [mAS, mAN, c_1, c_3, r_4, ↓reduceIte, Bool.false_eq_true, bI_true, bI_false, Bool.true_and, Bool.and_true, Bool.and_false, Bool.false_and, Bool.not_true, Bool.not_false, Bool.or_true, Bool.true_or, Bool.or_false, Bool.false_or] <;> rfl) | (simp [mAS, mAN, c_1, c_3, r_4, bI]; done)) (by first | rfl | (simp only [mAS, mAN, c_1, c_3, r_4, ↓reduceIte, Bool.false_eq_true, bI_true, bI_false, Bool.true_and, Bool.and_true, Bool.and_false, Bool.false_and, Bool.not_true, Bool.not_false, Bool.or_true, Bool.true_or, Bool.or_false, Bool.false_or] <;> rfl) | (simp [mAS, mAN, c_1, c_3, r_4, bI]; done)) dX6_setMode_59
    · have r_6 : iN m 3 = false := (inn_iN (by decide)).symm.trans c_3
      refine lv_bipush (v := (-2)) hx hb dX6_setMode_18 (by decide) ?_
      exact fr_iret hx hb hr hlk hP hS (by first | rfl | (simp only [mAS, mAN, c_1, c_3, r_6, ↓reduceIte, Bool.false_eq_true, bI_true, bI_false, Bool.true_and, Bool.and_true, Bool.and_false, Bool.false_and, Bool.not_true, Bool.not_false, Bool.or_true, Bool.true_or, Bool.or_false, Bool.false_or] <;> rfl) | (simp [mAS, mAN, c_1, c_3, r_6, bI]; done)) (by first | rfl | (simp only [mAS, mAN, c_1, c_3, r_6, ↓reduceIte, Bool.false_eq_true, bI_true, bI_false, Bool.true_and, Bool.and_true, Bool.and_false, Bool.false_and, Bool.not_true, Bool.not_false, Bool.or_true, Bool.true_or, Bool.or_false, Bool.false_or] <;> rfl) | (simp [mAS, mAN, c_1, c_3, r_6, bI]; done)) dX6_setMode_20
  · refine lv_iconst (v := (-1)) hx hb dX6_setMode_7 (by decide) ?_
    exact fr_iret hx hb hr hlk hP hS (by first | rfl | (simp only [mAS, mAN, c_1, ↓reduceIte, Bool.false_eq_true, bI_true, bI_false, Bool.true_and, Bool.and_true, Bool.and_false, Bool.false_and, Bool.not_true, Bool.not_false, Bool.or_true, Bool.true_or, Bool.or_false, Bool.false_or] <;> rfl) | (simp [mAS, mAN, c_1, bI]; done)) (by first | rfl | (simp only [mAS, mAN, c_1, ↓reduceIte, Bool.false_eq_true, bI_true, bI_false, Bool.true_and, Bool.and_true, Bool.and_false, Bool.false_and, Bool.not_true, Bool.not_false, Bool.or_true, Bool.true_or, Bool.or_false, Bool.false_or] <;> rfl) | (simp [mAS, mAN, c_1, bI]; done)) dX6_setMode_8
