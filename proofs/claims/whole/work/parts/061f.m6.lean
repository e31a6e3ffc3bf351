
set_option maxHeartbeats 8000000 in
set_option maxRecDepth 100000 in
theorem kX6_inject (l : Launch) (D : va_G) (T : Nat → ClassId) (Z : ZZ) (md : Nat → Nat) (n : Nat) (len : Nat) (p : Nat) (le : Nat) (σ : MS) (x : Int32) (hn4 : n ≤ 4) (hi : WH (mCp σ 0 5 (1560 + 256)) 20) : CtI l D T Z yX6_inject wsX6_inject ({ frames := 2, cells := 0, slots := 0, locals := 47 }) [[((md 0), .inr (6, [.ref (md 1), .int (nI (n)), .ref (md 2), .int (nI (len)), .int (nI (p)), .int (nI (le)), .ref (md 3), .ref (md 4)]))], [((md 1), .inl (T 0, 1872, .inl (σ)))]] [.ref (md 0), .int (x)] (if iN x 32 then mInjR (mCp σ 0 5) 1560 else -1) [[((md 0), .inr (6, [.ref (md 1), .int (nI (mAN (iN x 32) n (mInjR (mCp σ 0 5) 1560))), .ref (md 2), .int (nI (len)), .int (nI (p)), .int (nI (le)), .ref (md 3), .ref (md 4)]))], [((md 1), .inl (T 0, 1872, .inl (mAS (iN x 32) (mInjS (mCp σ 0 5) 1560 (tn x)) n (mInjR (mCp σ 0 5) 1560) σ)))]] := by
  refine CtI.of (cc := cX6_inject) (maxL := 2) (ret := (some .int)) (plainFor_of_name (by decide)) rfl rfl ?_
  intro pP eE s mM bW mE cC A hE hK hN hM hP hD hA
  obtain ⟨hx, hb, hr, hts, hown, hml, hlk⟩ := hE
  have hown : s.vm.findClass RX6 = some mM.cls := hown
  have hS : va_S A s.heap s.heap [] := va_S.rf
  have hl := lv_entry ([.ref (md 0), .int (x)]) (n := 2) (Nat.le_of_ble_eq_true rfl)
  rw [lg_entry_eq]
  generalize (lg_sl ([.ref (md 0), .int (x)]) ++ List.replicate (2 - (lg_sl ([.ref (md 0), .int (x)])).length) Slot.unset).toArray = ls at hl ⊢
  have hl : lv_has ls 2 [(0, .ref (md 0)), (1, .int (x))] := hl
  refine lv_iload_n hx hb dX6_inject_0 rfl (lv_at hl 1 rfl) ?_
  refine fr_S0 (As := [.int (x)]) (rest := []) ⟨hx, hb, hml, hown, hts⟩ (kX6_isWord l D T Z x) (va_cwS 1 hts gX6_inject_X6_isWord rfl rfl rfl (by decide +kernel) ⟨Nat.le_of_ble_eq_true rfl, Nat.le_of_ble_eq_true rfl⟩) hK hN hM hP hD hS hA rfl hl.1 rfl (Nat.le_of_ble_eq_true rfl) dX6_inject_1 ⟨Nat.zero_le _, Nat.zero_le _⟩ (fun H locs hP hD hS => ?_)
  refine fr_ifeq_b (tgt := 23) hx hb dX6_inject_4 (by decide) (fun c_1 => ?_) (fun c_1 => ?_)
  · refine lv_iconst (v := (-1)) hx hb dX6_inject_23 (by decide) ?_
    exact fr_iret hx hb hr hlk hP hS (by first | rfl | (simp only [mAS, mAN, c_1, ↓reduceIte, Bool.false_eq_true, bI_true, bI_false, Bool.true_and, Bool.and_true, Bool.and_false, Bool.false_and, Bool.not_true, Bool.not_false, Bool.or_true, Bool.true_or, Bool.or_false, Bool.false_or] <;> rfl) | (simp [mAS, mAN, c_1, bI]; done)) (by first | rfl | (simp only [mAS, mAN, c_1, ↓reduceIte, Bool.false_eq_true, bI_true, bI_false, Bool.true_and, Bool.and_true, Bool.and_false, Bool.false_and, Bool.not_true, Bool.not_false, Bool.or_true, Bool.true_or, Bool.or_false, Bool.false_or] <;> rfl) | (simp [mAS, mAN, c_1, bI]; done)) dX6_inject_24
  · have e_2 := iN_eq c_1
    have e_2b := iN_lt c_1 (by decide)
    refine lv_aload_n hx hb dX6_inject_7 rfl (lv_at hl 0 rfl) ?_
    refine lv_aload_n hx hb dX6_inject_8 rfl (lv_at hl 0 rfl) ?_
    refine lv_aload_n hx hb dX6_inject_9 rfl (lv_at hl 0 rfl) ?_
    refine fr_Vi (As := []) (rest := [.ref (md 0), .ref (md 0)]) (fs' := [[((md 0), .inr (6, [.ref (md 1), .int (nI (n)), .ref (md 2), .int (nI (len)), .int (nI (p)), .int (nI (le)), .ref (md 3), .ref (md 4)]))], [((md 1), .inl (T 0, 1872, .inl (mCp σ 0 5)))]]) (ci := 6) (q0 := (RX6, TX6, 8)) (i0 := 0) ⟨hx, hb, hml, hown, hts⟩ (kX6_begins l D T Z md n len p le σ) (cwV 0 hts gX6_inject_X6_begins rfl rfl rfl (by decide +kernel) ⟨Nat.le_of_ble_eq_true rfl, Nat.le_of_ble_eq_true rfl⟩) hK hN hM hP hD hS hA [0, 1] rfl rfl rfl rfl rfl rfl hl.1 rfl (Nat.le_of_ble_eq_true rfl) dX6_inject_10 ⟨Nat.zero_le _, Nat.zero_le _⟩ (fun H locs hP hD hS => ?_)
    refine lv_iload_n hx hb dX6_inject_13 rfl (lv_at hl 1 rfl) ?_
    refine fr_val e_2 ?_
    refine fr_Vi (As := [.int (nI 1560), .int (nI (tn x))]) (rest := [.ref (md 0)]) (fs' := [[((md 0), .inr (6, [.ref (md 1), .int (nI (n)), .ref (md 2), .int (nI (len)), .int (nI (p)), .int (nI (le)), .ref (md 3), .ref (md 4)]))], [((md 1), .inl (T 0, 1872, .inl (mInjS (mCp σ 0 5) 1560 (tn x))))]]) (ci := 6) (q0 := (RX6, TX6, 8)) (i0 := 0) ⟨hx, hb, hml, hown, hts⟩ (kX6_injects l D T Z md n len p le (mCp σ 0 5) 1560 (tn x) (by decide) (by omega) hi) (cwV 2 hts gX6_inject_X6_injects rfl rfl rfl (by decide +kernel) ⟨Nat.le_of_ble_eq_true rfl, Nat.le_of_ble_eq_true rfl⟩) hK hN hM hP hD hS hA [0, 1] rfl rfl rfl rfl rfl rfl hl.1 rfl (Nat.le_of_ble_eq_true rfl) dX6_inject_14 ⟨Nat.zero_le _, Nat.zero_le _⟩ (fun H locs hP hD hS => ?_)
    refine fr_Vi (As := [.int (mInjR (mCp σ 0 5) 1560)]) (rest := []) (fs' := [[((md 0), .inr (6, [.ref (md 1), .int (nI (nAcc n (mInjR (mCp σ 0 5) 1560))), .ref (md 2), .int (nI (len)), .int (nI (p)), .int (nI (le)), .ref (md 3), .ref (md 4)]))], [((md 1), .inl (T 0, 1872, .inl (mAcc (mInjS (mCp σ 0 5) 1560 (tn x)) n (mInjR (mCp σ 0 5) 1560))))]]) (ci := 6) (q0 := (RX6, TX6, 8)) (i0 := 0) ⟨hx, hb, hml, hown, hts⟩ (kX6_accepts l D T Z md n len p le (mInjS (mCp σ 0 5) 1560 (tn x)) (mInjR (mCp σ 0 5) 1560) (by omega)) (cwV 1 hts gX6_inject_X6_accepts rfl rfl rfl (by decide +kernel) ⟨Nat.le_of_ble_eq_true rfl, Nat.le_of_ble_eq_true rfl⟩) hK hN hM hP hD hS hA [0, 1] rfl rfl rfl rfl rfl rfl hl.1 rfl (Nat.le_of_ble_eq_true rfl) dX6_inject_17 ⟨Nat.zero_le _, Nat.zero_le _⟩ (fun H locs hP hD hS => ?_)
    refine lv_goto (tgt := 24) hx hb dX6_inject_20 (by decide) ?_
    exact fr_iret hx hb hr hlk hP hS (by first | rfl | (simp only [mAS, mAN, c_1, ↓reduceIte, Bool.false_eq_true, bI_true, bI_false, Bool.true_and, Bool.and_true, Bool.and_false, Bool.false_and, Bool.not_true, Bool.not_false, Bool.or_true, Bool.true_or, Bool.or_false, Bool.false_or] <;> rfl) | (simp [mAS, mAN, c_1, bI]; done)) (by first | rfl | (simp only [mAS, mAN, c_1, ↓reduceIte, Bool.false_eq_true, bI_true, bI_false, Bool.true_and, Bool.and_true, Bool.and_false, Bool.false_and, Bool.not_true, Bool.not_false, Bool.or_true, Bool.true_or, Bool.or_false, Bool.false_or] <;> rfl) | (simp [mAS, mAN, c_1, bI]; done)) dX6_inject_24

set_option maxHeartbeats 8000000 in
set_option maxRecDepth 100000 in
theorem kX6_setRegister (l : Launch) (D : va_G) (T : Nat → ClassId) (Z : ZZ) (md : Nat → Nat) (n : Nat) (len : Nat) (p : Nat) (le : Nat) (σ : MS) (t : Int32) (r : Int32) (x : Int32) (hn4 : n ≤ 4) : CtI l D T Z yX6_setRegister wsX6_setRegister ({ frames := 2, cells := 0, slots := 0, locals := 50 }) [[((md 0), .inr (6, [.ref (md 1), .int (nI (n)), .ref (md 2), .int (nI (len)), .int (nI (p)), .int (nI (le)), .ref (md 3), .ref (md 4)]))], [((md 1), .inl (T 0, 1872, .inl (σ)))]] [.ref (md 0), .int (t), .int (r), .int (x)] (if iN t 4 && iN r 4 then (if iN x 65536 then mSetR (mCp σ 0 5) 1560 (tn t) (tn r) else -2) else -1) [[((md 0), .inr (6, [.ref (md 1), .int (nI (mAN (iN t 4 && (iN r 4 && iN x 65536)) n (mSetR (mCp σ 0 5) 1560 (tn t) (tn r)))), .ref (md 2), .int (nI (len)), .int (nI (p)), .int (nI (le)), .ref (md 3), .ref (md 4)]))], [((md 1), .inl (T 0, 1872, .inl (mAS (iN t 4 && (iN r 4 && iN x 65536)) (mSetS (mCp σ 0 5) 1560 (tn t) (tn r) (nI (tn x))) n (mSetR (mCp σ 0 5) 1560 (tn t) (tn r)) σ)))]] := by
  refine CtI.of (cc := cX6_setRegister) (maxL := 4) (ret := (some .int)) (plainFor_of_name (by decide)) rfl rfl ?_
  intro pP eE s mM bW mE cC A hE hK hN hM hP hD hA
  obtain ⟨hx, hb, hr, hts, hown, hml, hlk⟩ := hE
  have hown : s.vm.findClass RX6 = some mM.cls := hown
  have hS : va_S A s.heap s.heap [] := va_S.rf
  have hl := lv_entry ([.ref (md 0), .int (t), .int (r), .int (x)]) (n := 4) (Nat.le_of_ble_eq_true rfl)
  rw [lg_entry_eq]
  generalize (lg_sl ([.ref (md 0), .int (t), .int (r), .int (x)]) ++ List.replicate (4 - (lg_sl ([.ref (md 0), .int (t), .int (r), .int (x)])).length) Slot.unset).toArray = ls at hl ⊢
  have hl : lv_has ls 4 [(0, .ref (md 0)), (1, .int (t)), (2, .int (r)), (3, .int (x))] := hl
  have w_109 := hts (.constant RX6 109 (65535)) (by decide +kernel)
  refine lv_iload_n hx hb dX6_setRegister_0 rfl (lv_at hl 1 rfl) ?_
  refine fr_S0 (As := [.int (t)]) (rest := []) ⟨hx, hb, hml, hown, hts⟩ (kX6_isOne l D T Z t) (va_cwS 1 hts gX6_setRegister_X6_isOne rfl rfl rfl (by decide +kernel) ⟨Nat.le_of_ble_eq_true rfl, Nat.le_of_ble_eq_true rfl⟩) hK hN hM hP hD hS hA rfl hl.1 rfl (Nat.le_of_ble_eq_true rfl) dX6_setRegister_1 ⟨Nat.zero_le _, Nat.zero_le _⟩ (fun H locs hP hD hS => ?_)
  refine fr_ifeq_b (tgt := 14) hx hb dX6_setRegister_4 (by decide) (fun c_1 => ?_) (fun c_1 => ?_)
  · refine lv_iconst (v := (-1)) hx hb dX6_setRegister_14 (by decide) ?_
    exact fr_iret hx hb hr hlk hP hS (by first | rfl | (simp only [mAS, mAN, c_1, ↓reduceIte, Bool.false_eq_true, bI_true, bI_false, Bool.true_and, Bool.and_true, Bool.and_false, Bool.false_and, Bool.not_true, Bool.not_false, Bool.or_true, Bool.true_or, Bool.or_false, Bool.false_or] <;> rfl) | (simp [mAS, mAN, c_1, bI]; done)) (by first | rfl | (simp only [mAS, mAN, c_1, ↓reduceIte, Bool.false_eq_true, bI_true, bI_false, Bool.true_and, Bool.and_true, Bool.and_false, Bool.false_and, Bool.not_true, Bool.not_false, Bool.or_true, Bool.true_or, Bool.or_false, Bool.false_or] <;> rfl) | (simp [mAS, mAN, c_1, bI]; done)) dX6_setRegister_15
  · have e_2 := iN_eq c_1
    have e_2b := iN_lt c_1 (by decide)
    refine lv_iload_n hx hb dX6_setRegister_7 rfl (lv_at hl 2 rfl) ?_
    refine fr_S0 (As := [.int (r)]) (rest := []) ⟨hx, hb, hml, hown, hts⟩ (kX6_isOne l D T Z r) (va_cwS 1 hts gX6_setRegister_X6_isOne rfl rfl rfl (by decide +kernel) ⟨Nat.le_of_ble_eq_true rfl, Nat.le_of_ble_eq_true rfl⟩) hK hN hM hP hD hS hA rfl hl.1 rfl (Nat.le_of_ble_eq_true rfl) dX6_setRegister_8 ⟨Nat.zero_le _, Nat.zero_le _⟩ (fun H locs hP hD hS => ?_)
    refine fr_ifne_b (tgt := 16) hx hb dX6_setRegister_11 (by decide) (fun c_3 => ?_) (fun c_3 => ?_)
    · have e_4 := iN_eq c_3
      have e_4b := iN_lt c_3 (by decide)
      refine lv_iload_n hx hb dX6_setRegister_16 rfl (lv_at hl 3 rfl) ?_
      refine lv_iconst (v := nI 0) hx hb dX6_setRegister_17 (by decide) ?_
      refine lv_ldc hx hb hown w_109 dX6_setRegister_18 ?_
      refine fr_val (show (65535 : Int32) = nI 65535 from rfl) ?_
      refine fr_S0 (As := [.int (x), .int (nI 0), .int (nI 65535)]) (rest := []) ⟨hx, hb, hml, hown, hts⟩ (kX6_in l D T Z x (nI 0) (nI 65535)) (va_cwS 3 hts gX6_setRegister_X6_in rfl rfl rfl (by decide +kernel) ⟨Nat.le_of_ble_eq_true rfl, Nat.le_of_ble_eq_true rfl⟩) hK hN hM hP hD hS hA rfl hl.1 rfl (Nat.le_of_ble_eq_true rfl) dX6_setRegister_20 ⟨Nat.zero_le _, Nat.zero_le _⟩ (fun H locs hP hD hS => ?_)
      refine fr_ifeq_b (tgt := 44) hx hb dX6_setRegister_23 (by decide) (fun c_5 => ?_) (fun c_5 => ?_)
      · have r_6 : iN x 65536 = false := (inn_iN (by decide)).symm.trans c_5
        refine lv_bipush (v := (-2)) hx hb dX6_setRegister_44 (by decide) ?_
        exact fr_iret hx hb hr hlk hP hS (by first | rfl | (simp only [mAS, mAN, c_1, c_3, c_5, r_6, ↓reduceIte, Bool.false_eq_true, bI_true, bI_false, Bool.true_and, Bool.and_true, Bool.and_false, Bool.false_and, Bool.not_true, Bool.not_false, Bool.or_true, Bool.true_or, Bool.or_false, Bool.false_or] <;> rfl) | (simp [mAS, mAN, c_1, c_3, c_5, r_6, bI]; done)) (by first | rfl | (simp only [mAS, mAN, c_1, c_3, c_5, r_6, ↓reduceIte, Bool.false_eq_true, bI_true, bI_false, Bool.true_and, Bool.and_true, Bool.and_false, Bool.false_and, Bool.not_true, Bool.not_false, Bool.or_true, Bool.true_or, Bool.or_false, Bool.false_or] <;> rfl) | (simp [mAS, mAN, c_1, c_3, c_5, r_6, bI]; done)) dX6_setRegister_46
      · have r_7 : iN x 65536 = true := (inn_iN (by decide)).symm.trans c_5
        have e_8 := iN_eq r_7
        have e_8b := iN_lt r_7 (by decide)
        refine lv_aload_n hx hb dX6_setRegister_26 rfl (lv_at hl 0 rfl) ?_
        refine lv_aload_n hx hb dX6_setRegister_27 rfl (lv_at hl 0 rfl) ?_
        refine lv_aload_n hx hb dX6_setRegister_28 rfl (lv_at hl 0 rfl) ?_
        refine fr_Vi (As := []) (rest := [.ref (md 0), .ref (md 0)]) (fs' := [[((md 0), .inr (6, [.ref (md 1), .int (nI (n)), .ref (md 2), .int (nI (len)), .int (nI (p)), .int (nI (le)), .ref (md 3), .ref (md 4)]))], [((md 1), .inl (T 0, 1872, .inl (mCp σ 0 5)))]]) (ci := 6) (q0 := (RX6, TX6, 8)) (i0 := 0) ⟨hx, hb, hml, hown, hts⟩ (kX6_begins l D T Z md n len p le σ) (cwV 0 hts gX6_setRegister_X6_begins rfl rfl rfl (by decide +kernel) ⟨Nat.le_of_ble_eq_true rfl, Nat.le_of_ble_eq_true rfl⟩) hK hN hM hP hD hS hA [0, 1] rfl rfl rfl rfl rfl rfl hl.1 rfl (Nat.le_of_ble_eq_true rfl) dX6_setRegister_29 ⟨Nat.zero_le _, Nat.zero_le _⟩ (fun H locs hP hD hS => ?_)
        refine lv_iload_n hx hb dX6_setRegister_32 rfl (lv_at hl 1 rfl) ?_
        refine fr_val e_2 ?_
        refine lv_iload_n hx hb dX6_setRegister_33 rfl (lv_at hl 2 rfl) ?_
        refine fr_val e_4 ?_
        refine lv_iload_n hx hb dX6_setRegister_34 rfl (lv_at hl 3 rfl) ?_
        refine fr_val e_8 ?_
        refine fr_Vi (As := [.int (nI 1560), .int (nI (tn t)), .int (nI (tn r)), .int (nI (tn x))]) (rest := [.ref (md 0)]) (fs' := [[((md 0), .inr (6, [.ref (md 1), .int (nI (n)), .ref (md 2), .int (nI (len)), .int (nI (p)), .int (nI (le)), .ref (md 3), .ref (md 4)]))], [((md 1), .inl (T 0, 1872, .inl (mSetS (mCp σ 0 5) 1560 (tn t) (tn r) (nI (tn x)))))]]) (ci := 6) (q0 := (RX6, TX6, 8)) (i0 := 0) ⟨hx, hb, hml, hown, hts⟩ (kX6_sets l D T Z md n len p le (mCp σ 0 5) 1560 (tn t) (tn r) (nI (tn x)) (by decide) (by omega) (by omega)) (cwV 4 hts gX6_setRegister_X6_sets rfl rfl rfl (by decide +kernel) ⟨Nat.le_of_ble_eq_true rfl, Nat.le_of_ble_eq_true rfl⟩) hK hN hM hP hD hS hA [0, 1] rfl rfl rfl rfl rfl rfl hl.1 rfl (Nat.le_of_ble_eq_true rfl) dX6_setRegister_35 ⟨Nat.zero_le _, Nat.zero_le _⟩ (fun H locs hP hD hS => ?_)
        refine fr_Vi (As := [.int (mSetR (mCp σ 0 5) 1560 (tn t) (tn r))]) (rest := []) (fs' := [[((md 0), .inr (6, [.ref (md 1), .int (nI (nAcc n (mSetR (mCp σ 0 5) 1560 (tn t) (tn r)))), .ref (md 2), .int (nI (len)), .int (nI (p)), .int (nI (le)), .ref (md 3), .ref (md 4)]))], [((md 1), .inl (T 0, 1872, .inl (mAcc (mSetS (mCp σ 0 5) 1560 (tn t) (tn r) (nI (tn x))) n (mSetR (mCp σ 0 5) 1560 (tn t) (tn r)))))]]) (ci := 6) (q0 := (RX6, TX6, 8)) (i0 := 0) ⟨hx, hb, hml, hown, hts⟩ (kX6_accepts l D T Z md n len p le (mSetS (mCp σ 0 5) 1560 (tn t) (tn r) (nI (tn x))) (mSetR (mCp σ 0 5) 1560 (tn t) (tn r)) (by omega)) (cwV 1 hts gX6_setRegister_X6_accepts rfl rfl rfl (by decide +kernel) ⟨Nat.le_of_ble_eq_true rfl, Nat.le_of_ble_eq_true rfl⟩) hK hN hM hP hD hS hA [0, 1] rfl rfl rfl rfl rfl rfl hl.1 rfl (Nat.le_of_ble_eq_true rfl) dX6_setRegister_38 ⟨Nat.zero_le _, Nat.zero_le _⟩ (fun H locs hP hD hS => ?_)
        refine lv_goto (tgt := 46) hx hb dX6_setRegister_41 (by decide) ?_
        exact fr_iret hx hb hr hlk hP hS (by first | rfl | (simp only [mAS, mAN, c_1, c_3, c_5, r_7, ↓reduceIte, Bool.false_eq_true, bI_true, bI_false, Bool.true_and, Bool.and_true, Bool.and_false, Bool.false_and, Bool.not_true, Bool.not_false, Bool.or_true, Bool.true_or, Bool.or_false, Bool.false_or] <;> rfl) | (simp [mAS, mAN, c_1, c_3, c_5, r_7, bI]; done)) (by first | rfl | (simp only [mAS, mAN, c_1, c_3, c_5, r_7, ↓reduceIte, Bool.false_eq_true, bI_true, bI_false, Bool.true_and, Bool.and_true, Bool.and_false, Bool.false_and, Bool.not_true, Bool.not_false, Bool.or_true, Bool.true_or, Bool.or_false, Bool.false_or] <;> rfl) | (simp [mAS, mAN, c_1, c_3, c_5, r_7, bI]; done)) dX6_setRegister_46
    · refine lv_iconst (v := (-1)) hx hb dX6_setRegister_14 (by decide) ?_
      exact fr_iret hx hb hr hlk hP hS (by first | rfl | (simp only [mAS, mAN, c_1, c_3, ↓reduceIte, Bool.false_eq_true, bI_true, bI_false, Bool.true_and, Bool.and_true, Bool.and_false, Bool.false_and, Bool.not_true, Bool.not_false, Bool.or_true, Bool.true_or, Bool.or_false, Bool.false_or] <;> rfl) | (simp [mAS, mAN, c_1, c_3, bI]; done)) (by first | rfl | (simp only [mAS, mAN, c_1, c_3, ↓reduceIte, Bool.false_eq_true, bI_true, bI_false, Bool.true_and, Bool.and_true, Bool.and_false, Bool.false_and, Bool.not_true, Bool.not_false, Bool.or_true, Bool.true_or, Bool.or_false, Bool.false_or] <;> rfl) | (simp [mAS, mAN, c_1, c_3, bI]; done)) dX6_setRegister_15

set_option maxHeartbeats 8000000 in
set_option maxRecDepth 100000 in
theorem kX6_load (l : Launch) (D : va_G) (T : Nat → ClassId) (Z : ZZ) (md : Nat → Nat) (n : Nat) (len : Nat) (p : Nat) (le : Nat) (σ : MS) (t : Int32) (r : Int32) (w : Int32) (hn4 : n ≤ 4) : CtI l D T Z yX6_load wsX6_load ({ frames := 4, cells := 0, slots := 0, locals := 95 }) [[((md 0), .inr (6, [.ref (md 1), .int (nI (n)), .ref (md 2), .int (nI (len)), .int (nI (p)), .int (nI (le)), .ref (md 3), .ref (md 4)]))], [((md 1), .inl (T 0, 1872, .inl (σ)))]] [.ref (md 0), .int (t), .int (r), .int (w)] (if iN t 4 && (iN r 4 && iN w 32) then mLdR (mCp σ 0 5) 1560 (tn t) (tn w) else -1) [[((md 0), .inr (6, [.ref (md 1), .int (nI (mAN (iN t 4 && (iN r 4 && iN w 32)) n (mLdR (mCp σ 0 5) 1560 (tn t) (tn w)))), .ref (md 2), .int (nI (len)), .int (nI (p)), .int (nI (le)), .ref (md 3), .ref (md 4)]))], [((md 1), .inl (T 0, 1872, .inl (mAS (iN t 4 && (iN r 4 && iN w 32)) (mLdS (mCp σ 0 5) 1560 (tn t) (tn r) (tn w)) n (mLdR (mCp σ 0 5) 1560 (tn t) (tn w)) σ)))]] := by
  refine CtI.of (cc := cX6_load) (maxL := 4) (ret := (some .int)) (plainFor_of_name (by decide)) rfl rfl ?_
  intro pP eE s mM bW mE cC A hE hK hN hM hP hD hA
  obtain ⟨hx, hb, hr, hts, hown, hml, hlk⟩ := hE
  have hown : s.vm.findClass RX6 = some mM.cls := hown
  have hS : va_S A s.heap s.heap [] := va_S.rf
  have hl := lv_entry ([.ref (md 0), .int (t), .int (r), .int (w)]) (n := 4) (Nat.le_of_ble_eq_true rfl)
  rw [lg_entry_eq]
  generalize (lg_sl ([.ref (md 0), .int (t), .int (r), .int (w)]) ++ List.replicate (4 - (lg_sl ([.ref (md 0), .int (t), .int (r), .int (w)])).length) Slot.unset).toArray = ls at hl ⊢
  have hl : lv_has ls 4 [(0, .ref (md 0)), (1, .int (t)), (2, .int (r)), (3, .int (w))] := hl
  refine lv_iload_n hx hb dX6_load_0 rfl (lv_at hl 1 rfl) ?_
  refine fr_S0 (As := [.int (t)]) (rest := []) ⟨hx, hb, hml, hown, hts⟩ (kX6_isOne l D T Z t) (va_cwS 1 hts gX6_load_X6_isOne rfl rfl rfl (by decide +kernel) ⟨Nat.le_of_ble_eq_true rfl, Nat.le_of_ble_eq_true rfl⟩) hK hN hM hP hD hS hA rfl hl.1 rfl (Nat.le_of_ble_eq_true rfl) dX6_load_1 ⟨Nat.zero_le _, Nat.zero_le _⟩ (fun H locs hP hD hS => ?_)
  refine fr_ifeq_b (tgt := 40) hx hb dX6_load_4 (by decide) (fun c_1 => ?_) (fun c_1 => ?_)
  · refine lv_iconst (v := (-1)) hx hb dX6_load_40 (by decide) ?_
    exact fr_iret hx hb hr hlk hP hS (by first | rfl | (simp only [mAS, mAN, c_1, ↓reduceIte, Bool.false_eq_true, bI_true, bI_false, Bool.true_and, Bool.and_true, Bool.and_false, Bool.false_and, Bool.not_true, Bool.not_false, Bool.or_true, Bool.true_or, Bool.or_false, Bool.false_or] <;> rfl) | (simp [mAS, mAN, c_1, bI]; done)) (by first | rfl | (simp only [mAS, mAN, c_1, ↓reduceIte, Bool.false_eq_true, bI_true, bI_false, Bool.true_and, Bool.and_true, Bool.and_false, Bool.false_and, Bool.not_true, Bool.not_false, Bool.or_true, Bool.true_or, Bool.or_false, Bool.false_or] <;> rfl) | (simp [mAS, mAN, c_1, bI]; done)) dX6_load_41
  · have e_2 := iN_eq c_1
    have e_2b := iN_lt c_1 (by decide)
    refine lv_iload_n hx hb dX6_load_7 rfl (lv_at hl 2 rfl) ?_
    refine fr_S0 (As := [.int (r)]) (rest := []) ⟨hx, hb, hml, hown, hts⟩ (kX6_isOne l D T Z r) (va_cwS 1 hts gX6_load_X6_isOne rfl rfl rfl (by decide +kernel) ⟨Nat.le_of_ble_eq_true rfl, Nat.le_of_ble_eq_true rfl⟩) hK hN hM hP hD hS hA rfl hl.1 rfl (Nat.le_of_ble_eq_true rfl) dX6_load_8 ⟨Nat.zero_le _, Nat.zero_le _⟩ (fun H locs hP hD hS => ?_)
    refine fr_ifeq_b (tgt := 40) hx hb dX6_load_11 (by decide) (fun c_3 => ?_) (fun c_3 => ?_)
    · refine lv_iconst (v := (-1)) hx hb dX6_load_40 (by decide) ?_
      exact fr_iret hx hb hr hlk hP hS (by first | rfl | (simp only [mAS, mAN, c_1, c_3, ↓reduceIte, Bool.false_eq_true, bI_true, bI_false, Bool.true_and, Bool.and_true, Bool.and_false, Bool.false_and, Bool.not_true, Bool.not_false, Bool.or_true, Bool.true_or, Bool.or_false, Bool.false_or] <;> rfl) | (simp [mAS, mAN, c_1, c_3, bI]; done)) (by first | rfl | (simp only [mAS, mAN, c_1, c_3, ↓reduceIte, Bool.false_eq_true, bI_true, bI_false, Bool.true_and, Bool.and_true, Bool.and_false, Bool.false_and, Bool.not_true, Bool.not_false, Bool.or_true, Bool.true_or, Bool.or_false, Bool.false_or] <;> rfl) | (simp [mAS, mAN, c_1, c_3, bI]; done)) dX6_load_41
    · have e_4 := iN_eq c_3
      have e_4b := iN_lt c_3 (by decide)
      refine lv_iload_n hx hb dX6_load_14 rfl (lv_at hl 3 rfl) ?_
      refine fr_S0 (As := [.int (w)]) (rest := []) ⟨hx, hb, hml, hown, hts⟩ (kX6_isWord l D T Z w) (va_cwS 1 hts gX6_load_X6_isWord rfl rfl rfl (by decide +kernel) ⟨Nat.le_of_ble_eq_true rfl, Nat.le_of_ble_eq_true rfl⟩) hK hN hM hP hD hS hA rfl hl.1 rfl (Nat.le_of_ble_eq_true rfl) dX6_load_15 ⟨Nat.zero_le _, Nat.zero_le _⟩ (fun H locs hP hD hS => ?_)
      refine fr_ifeq_b (tgt := 40) hx hb dX6_load_18 (by decide) (fun c_5 => ?_) (fun c_5 => ?_)
      · refine lv_iconst (v := (-1)) hx hb dX6_load_40 (by decide) ?_
        exact fr_iret hx hb hr hlk hP hS (by first | rfl | (simp only [mAS, mAN, c_1, c_3, c_5, ↓reduceIte, Bool.false_eq_true, bI_true, bI_false, Bool.true_and, Bool.and_true, Bool.and_false, Bool.false_and, Bool.not_true, Bool.not_false, Bool.or_true, Bool.true_or, Bool.or_false, Bool.false_or] <;> rfl) | (simp [mAS, mAN, c_1, c_3, c_5, bI]; done)) (by first | rfl | (simp only [mAS, mAN, c_1, c_3, c_5, ↓reduceIte, Bool.false_eq_true, bI_true, bI_false, Bool.true_and, Bool.and_true, Bool.and_false, Bool.false_and, Bool.not_true, Bool.not_false, Bool.or_true, Bool.true_or, Bool.or_false, Bool.false_or] <;> rfl) | (simp [mAS, mAN, c_1, c_3, c_5, bI]; done)) dX6_load_41
      · have e_6 := iN_eq c_5
        have e_6b := iN_lt c_5 (by decide)
        refine lv_aload_n hx hb dX6_load_21 rfl (lv_at hl 0 rfl) ?_
        refine lv_aload_n hx hb dX6_load_22 rfl (lv_at hl 0 rfl) ?_
        refine lv_aload_n hx hb dX6_load_23 rfl (lv_at hl 0 rfl) ?_
        refine fr_Vi (As := []) (rest := [.ref (md 0), .ref (md 0)]) (fs' := [[((md 0), .inr (6, [.ref (md 1), .int (nI (n)), .ref (md 2), .int (nI (len)), .int (nI (p)), .int (nI (le)), .ref (md 3), .ref (md 4)]))], [((md 1), .inl (T 0, 1872, .inl (mCp σ 0 5)))]]) (ci := 6) (q0 := (RX6, TX6, 8)) (i0 := 0) ⟨hx, hb, hml, hown, hts⟩ (kX6_begins l D T Z md n len p le σ) (cwV 0 hts gX6_load_X6_begins rfl rfl rfl (by decide +kernel) ⟨Nat.le_of_ble_eq_true rfl, Nat.le_of_ble_eq_true rfl⟩) hK hN hM hP hD hS hA [0, 1] rfl rfl rfl rfl rfl rfl hl.1 rfl (Nat.le_of_ble_eq_true rfl) dX6_load_24 ⟨Nat.zero_le _, Nat.zero_le _⟩ (fun H locs hP hD hS => ?_)
        refine lv_iload_n hx hb dX6_load_27 rfl (lv_at hl 1 rfl) ?_
        refine fr_val e_2 ?_
        refine lv_iload_n hx hb dX6_load_28 rfl (lv_at hl 2 rfl) ?_
        refine fr_val e_4 ?_
        refine lv_iload_n hx hb dX6_load_29 rfl (lv_at hl 3 rfl) ?_
        refine fr_val e_6 ?_
        refine lv_iconst (v := nI 2) hx hb dX6_load_30 (by decide) ?_
        refine fr_Vi (As := [.int (nI 1560), .int (nI (tn t)), .int (nI (tn r)), .int (nI (tn w)), .int (nI 2)]) (rest := [.ref (md 0)]) (fs' := [[((md 0), .inr (6, [.ref (md 1), .int (nI (n)), .ref (md 2), .int (nI (len)), .int (nI (p)), .int (nI (le)), .ref (md 3), .ref (md 4)]))], [((md 1), .inl (T 0, 1872, .inl (mLdS (mCp σ 0 5) 1560 (tn t) (tn r) (tn w))))]]) (ci := 6) (q0 := (RX6, TX6, 8)) (i0 := 0) ⟨hx, hb, hml, hown, hts⟩ (kX6_loads_2 l D T Z md n len p le (mCp σ 0 5) 1560 (tn t) (tn r) (tn w) (by decide) (by omega) (by omega) (by omega)) (cwV 5 hts gX6_load_X6_loads rfl rfl rfl (by decide +kernel) ⟨Nat.le_of_ble_eq_true rfl, Nat.le_of_ble_eq_true rfl⟩) hK hN hM hP hD hS hA [0, 1] rfl rfl rfl rfl rfl rfl hl.1 rfl (Nat.le_of_ble_eq_true rfl) dX6_load_31 ⟨Nat.zero_le _, Nat.zero_le _⟩ (fun H locs hP hD hS => ?_)
        refine fr_Vi (As := [.int (mLdR (mCp σ 0 5) 1560 (tn t) (tn w))]) (rest := []) (fs' := [[((md 0), .inr (6, [.ref (md 1), .int (nI (nAcc n (mLdR (mCp σ 0 5) 1560 (tn t) (tn w)))), .ref (md 2), .int (nI (len)), .int (nI (p)), .int (nI (le)), .ref (md 3), .ref (md 4)]))], [((md 1), .inl (T 0, 1872, .inl (mAcc (mLdS (mCp σ 0 5) 1560 (tn t) (tn r) (tn w)) n (mLdR (mCp σ 0 5) 1560 (tn t) (tn w)))))]]) (ci := 6) (q0 := (RX6, TX6, 8)) (i0 := 0) ⟨hx, hb, hml, hown, hts⟩ (kX6_accepts l D T Z md n len p le (mLdS (mCp σ 0 5) 1560 (tn t) (tn r) (tn w)) (mLdR (mCp σ 0 5) 1560 (tn t) (tn w)) (by omega)) (cwV 1 hts gX6_load_X6_accepts rfl rfl rfl (by decide +kernel) ⟨Nat.le_of_ble_eq_true rfl, Nat.le_of_ble_eq_true rfl⟩) hK hN hM hP hD hS hA [0, 1] rfl rfl rfl rfl rfl rfl hl.1 rfl (Nat.le_of_ble_eq_true rfl) dX6_load_34 ⟨Nat.zero_le _, Nat.zero_le _⟩ (fun H locs hP hD hS => ?_)
        refine lv_goto (tgt := 41) hx hb dX6_load_37 (by decide) ?_
        exact fr_iret hx hb hr hlk hP hS (by first | rfl | (simp only [mAS, mAN, c_1, c_3, c_5, ↓reduceIte, Bool.false_eq_true, bI_true, bI_false, Bool.true_and, Bool.and_true, Bool.and_false, Bool.false_and, Bool.not_true, Bool.not_false, Bool.or_true, Bool.true_or, Bool.or_false, Bool.false_or] <;> rfl) | (simp [mAS, mAN, c_1, c_3, c_5, bI]; done)) (by first | rfl | (simp only [mAS, mAN, c_1, c_3, c_5, ↓reduceIte, Bool.false_eq_true, bI_true, bI_false, Bool.true_and, Bool.and_true, Bool.and_false, Bool.false_and, Bool.not_true, Bool.not_false, Bool.or_true, Bool.true_or, Bool.or_false, Bool.false_or] <;> rfl) | (simp [mAS, mAN, c_1, c_3, c_5, bI]; done)) dX6_load_41

set_option maxHeartbeats 8000000 in
set_option maxRecDepth 100000 in
theorem kX6_loadByte (l : Launch) (D : va_G) (T : Nat → ClassId) (Z : ZZ) (md : Nat → Nat) (n : Nat) (len : Nat) (p : Nat) (le : Nat) (σ : MS) (t : Int32) (r : Int32) (w : Int32) (q : Int32) (hn4 : n ≤ 4) : CtI l D T Z yX6_loadByte wsX6_loadByte ({ frames := 4, cells := 0, slots := 0, locals := 95 }) [[((md 0), .inr (6, [.ref (md 1), .int (nI (n)), .ref (md 2), .int (nI (len)), .int (nI (p)), .int (nI (le)), .ref (md 3), .ref (md 4)]))], [((md 1), .inl (T 0, 1872, .inl (σ)))]] [.ref (md 0), .int (t), .int (r), .int (w), .int (q)] (if iN t 4 && (iN r 4 && iN w 32) then (if iN q 2 then mLbR (mCp σ 0 5) 1560 (tn t) (tn w) (tn q) else -2) else -1) [[((md 0), .inr (6, [.ref (md 1), .int (nI (mAN (iN t 4 && (iN r 4 && (iN w 32 && iN q 2))) n (mLbR (mCp σ 0 5) 1560 (tn t) (tn w) (tn q)))), .ref (md 2), .int (nI (len)), .int (nI (p)), .int (nI (le)), .ref (md 3), .ref (md 4)]))], [((md 1), .inl (T 0, 1872, .inl (mAS (iN t 4 && (iN r 4 && (iN w 32 && iN q 2))) (mLbS (mCp σ 0 5) 1560 (tn t) (tn r) (tn w) (tn q)) n (mLbR (mCp σ 0 5) 1560 (tn t) (tn w) (tn q)) σ)))]] := by
  refine CtI.of (cc := cX6_loadByte) (maxL := 5) (ret := (some .int)) (plainFor_of_name (by decide)) rfl rfl ?_
  intro pP eE s mM bW mE cC A hE hK hN hM hP hD hA
  obtain ⟨hx, hb, hr, hts, hown, hml, hlk⟩ := hE
  have hown : s.vm.findClass RX6 = some mM.cls := hown
  have hS : va_S A s.heap s.heap [] := va_S.rf
  have hl := lv_entry ([.ref (md 0), .int (t), .int (r), .int (w), .int (q)]) (n := 5) (Nat.le_of_ble_eq_true rfl)
  rw [lg_entry_eq]
  generalize (lg_sl ([.ref (md 0), .int (t), .int (r), .int (w), .int (q)]) ++ List.replicate (5 - (lg_sl ([.ref (md 0), .int (t), .int (r), .int (w), .int (q)])).length) Slot.unset).toArray = ls at hl ⊢
  have hl : lv_has ls 5 [(0, .ref (md 0)), (1, .int (t)), (2, .int (r)), (3, .int (w)), (4, .int (q))] := hl
  refine lv_iload_n hx hb dX6_loadByte_0 rfl (lv_at hl 1 rfl) ?_
  refine fr_S0 (As := [.int (t)]) (rest := []) ⟨hx, hb, hml, hown, hts⟩ (kX6_isOne l D T Z t) (va_cwS 1 hts gX6_loadByte_X6_isOne rfl rfl rfl (by decide +kernel) ⟨Nat.le_of_ble_eq_true rfl, Nat.le_of_ble_eq_true rfl⟩) hK hN hM hP hD hS hA rfl hl.1 rfl (Nat.le_of_ble_eq_true rfl) dX6_loadByte_1 ⟨Nat.zero_le _, Nat.zero_le _⟩ (fun H locs hP hD hS => ?_)
  refine fr_ifeq_b (tgt := 21) hx hb dX6_loadByte_4 (by decide) (fun c_1 => ?_) (fun c_1 => ?_)
  · refine lv_iconst (v := (-1)) hx hb dX6_loadByte_21 (by decide) ?_
    exact fr_iret hx hb hr hlk hP hS (by first | rfl | (simp only [mAS, mAN, c_1, ↓reduceIte, Bool.false_eq_true, bI_true, bI_false, Bool.true_and, Bool.and_true, Bool.and_false, Bool.false_and, Bool.not_true, Bool.not_false, Bool.or_true, Bool.true_or, Bool.or_false, Bool.false_or] <;> rfl) | (simp [mAS, mAN, c_1, bI]; done)) (by first | rfl | (simp only [mAS, mAN, c_1, ↓reduceIte, Bool.false_eq_true, bI_true, bI_false, Bool.true_and, Bool.and_true, Bool.and_false, Bool.false_and, Bool.not_true, Bool.not_false, Bool.or_true, Bool.true_or, Bool.or_false, Bool.false_or] <;> rfl) | (simp [mAS, mAN, c_1, bI]; done)) dX6_loadByte_22
  · have e_2 := iN_eq c_1
    have e_2b := iN_lt c_1 (by decide)
    refine lv_iload_n hx hb dX6_loadByte_7 rfl (lv_at hl 2 rfl) ?_
    refine fr_S0 (As := [.int (r)]) (rest := []) ⟨hx, hb, hml, hown, hts⟩ (kX6_isOne l D T Z r) (va_cwS 1 hts gX6_loadByte_X6_isOne rfl rfl rfl (by decide +kernel) ⟨Nat.le_of_ble_eq_true rfl, Nat.le_of_ble_eq_true rfl⟩) hK hN hM hP hD hS hA rfl hl.1 rfl (Nat.le_of_ble_eq_true rfl) dX6_loadByte_8 ⟨Nat.zero_le _, Nat.zero_le _⟩ (fun H locs hP hD hS => ?_)
    refine fr_ifeq_b (tgt := 21) hx hb dX6_loadByte_11 (by decide) (fun c_3 => ?_) (fun c_3 => ?_)
    · refine lv_iconst (v := (-1)) hx hb dX6_loadByte_21 (by decide) ?_
      exact fr_iret hx hb hr hlk hP hS (by first | rfl | (simp only [mAS, mAN, c_1, c_3, ↓reduceIte, Bool.false_eq_true, bI_true, bI_false, Bool.true_and, Bool.and_true, Bool.and_false, Bool.false_and, Bool.not_true, Bool.not_false, Bool.or_true, Bool.true_or, Bool.or_false, Bool.false_or] <;> rfl) | (simp [mAS, mAN, c_1, c_3, bI]; done)) (by first | rfl | (simp only [mAS, mAN, c_1, c_3, ↓reduceIte, Bool.false_eq_true, bI_true, bI_false, Bool.true_and, Bool.and_true, Bool.and_false, Bool.false_and, Bool.not_true, Bool.not_false, Bool.or_true, Bool.true_or, Bool.or_false, Bool.false_or] <;> rfl) | (simp [mAS, mAN, c_1, c_3, bI]; done)) dX6_loadByte_22
    · have e_4 := iN_eq c_3
      have e_4b := iN_lt c_3 (by decide)
      refine lv_iload_n hx hb dX6_loadByte_14 rfl (lv_at hl 3 rfl) ?_
      refine fr_S0 (As := [.int (w)]) (rest := []) ⟨hx, hb, hml, hown, hts⟩ (kX6_isWord l D T Z w) (va_cwS 1 hts gX6_loadByte_X6_isWord rfl rfl rfl (by decide +kernel) ⟨Nat.le_of_ble_eq_true rfl, Nat.le_of_ble_eq_true rfl⟩) hK hN hM hP hD hS hA rfl hl.1 rfl (Nat.le_of_ble_eq_true rfl) dX6_loadByte_15 ⟨Nat.zero_le _, Nat.zero_le _⟩ (fun H locs hP hD hS => ?_)
      refine fr_ifne_b (tgt := 23) hx hb dX6_loadByte_18 (by decide) (fun c_5 => ?_) (fun c_5 => ?_)
      · have e_6 := iN_eq c_5
        have e_6b := iN_lt c_5 (by decide)
        refine lv_iload hx hb dX6_loadByte_23 (lv_at hl 4 rfl) ?_
        refine lv_iconst (v := nI 0) hx hb dX6_loadByte_25 (by decide) ?_
        refine lv_iconst (v := nI 1) hx hb dX6_loadByte_26 (by decide) ?_
        refine fr_S0 (As := [.int (q), .int (nI 0), .int (nI 1)]) (rest := []) ⟨hx, hb, hml, hown, hts⟩ (kX6_in l D T Z q (nI 0) (nI 1)) (va_cwS 3 hts gX6_loadByte_X6_in rfl rfl rfl (by decide +kernel) ⟨Nat.le_of_ble_eq_true rfl, Nat.le_of_ble_eq_true rfl⟩) hK hN hM hP hD hS hA rfl hl.1 rfl (Nat.le_of_ble_eq_true rfl) dX6_loadByte_27 ⟨Nat.zero_le _, Nat.zero_le _⟩ (fun H locs hP hD hS => ?_)
        refine fr_ifeq_b (tgt := 53) hx hb dX6_loadByte_30 (by decide) (fun c_7 => ?_) (fun c_7 => ?_)
        · have r_8 : iN q 2 = false := (inn_iN (by decide)).symm.trans c_7
          refine lv_bipush (v := (-2)) hx hb dX6_loadByte_53 (by decide) ?_
          exact fr_iret hx hb hr hlk hP hS (by first | rfl | (simp only [mAS, mAN, c_1, c_3, c_5, c_7, r_8, ↓reduceIte, Bool.false_eq_true, bI_true, bI_false, Bool.true_and, Bool.and_true, Bool.and_false, Bool.false_and, Bool.not_true, Bool.not_false, Bool.or_true, Bool.true_or, Bool.or_false, Bool.false_or] <;> rfl) | (simp [mAS, mAN, c_1, c_3, c_5, c_7, r_8, bI]; done)) (by first | rfl | (simp only [mAS, mAN, c_1, c_3, c_5, c_7, r_8, ↓reduceIte, Bool.false_eq_true, bI_true, bI_false, Bool.true_and, Bool.and_true, Bool.and_false, Bool.false_and, Bool.not_true, Bool.not_false, Bool.or_true, Bool.true_or, Bool.or_false, Bool.false_or] <;> rfl) | (simp [mAS, mAN, c_1, c_3, c_5, c_7, r_8, bI]; done)) dX6_loadByte_55
        · have r_9 : iN q 2 = true := (inn_iN (by decide)).symm.trans c_7
          have e_10 := iN_eq r_9
          have e_10b := iN_lt r_9 (by decide)
          refine lv_aload_n hx hb dX6_loadByte_33 rfl (lv_at hl 0 rfl) ?_
          refine lv_aload_n hx hb dX6_loadByte_34 rfl (lv_at hl 0 rfl) ?_
          refine lv_aload_n hx hb dX6_loadByte_35 rfl (lv_at hl 0 rfl) ?_
          refine fr_Vi (As := []) (rest := [.ref (md 0), .ref (md 0)]) (fs' := [[((md 0), .inr (6, [.ref (md 1), .int (nI (n)), .ref (md 2), .int (nI (len)), .int (nI (p)), .int (nI (le)), .ref (md 3), .ref (md 4)]))], [((md 1), .inl (T 0, 1872, .inl (mCp σ 0 5)))]]) (ci := 6) (q0 := (RX6, TX6, 8)) (i0 := 0) ⟨hx, hb, hml, hown, hts⟩ (kX6_begins l D T Z md n len p le σ) (cwV 0 hts gX6_loadByte_X6_begins rfl rfl rfl (by decide +kernel) ⟨Nat.le_of_ble_eq_true rfl, Nat.le_of_ble_eq_true rfl⟩) hK hN hM hP hD hS hA [0, 1] rfl rfl rfl rfl rfl rfl hl.1 rfl (Nat.le_of_ble_eq_true rfl) dX6_loadByte_36 ⟨Nat.zero_le _, Nat.zero_le _⟩ (fun H locs hP hD hS => ?_)
          refine lv_iload_n hx hb dX6_loadByte_39 rfl (lv_at hl 1 rfl) ?_
          refine fr_val e_2 ?_
          refine lv_iload_n hx hb dX6_loadByte_40 rfl (lv_at hl 2 rfl) ?_
          refine fr_val e_4 ?_
          refine lv_iload_n hx hb dX6_loadByte_41 rfl (lv_at hl 3 rfl) ?_
          refine fr_val e_6 ?_
          refine lv_iload hx hb dX6_loadByte_42 (lv_at hl 4 rfl) ?_
          refine fr_val e_10 ?_
          refine fr_Vi (As := [.int (nI 1560), .int (nI (tn t)), .int (nI (tn r)), .int (nI (tn w)), .int (nI (tn q))]) (rest := [.ref (md 0)]) (fs' := [[((md 0), .inr (6, [.ref (md 1), .int (nI (n)), .ref (md 2), .int (nI (len)), .int (nI (p)), .int (nI (le)), .ref (md 3), .ref (md 4)]))], [((md 1), .inl (T 0, 1872, .inl (mLbS (mCp σ 0 5) 1560 (tn t) (tn r) (tn w) (tn q))))]]) (ci := 6) (q0 := (RX6, TX6, 8)) (i0 := 0) ⟨hx, hb, hml, hown, hts⟩ (kX6_loads l D T Z md n len p le (mCp σ 0 5) 1560 (tn t) (tn r) (tn w) (tn q) (by decide) (by omega) (by omega) (by omega) (by omega)) (cwV 5 hts gX6_loadByte_X6_loads rfl rfl rfl (by decide +kernel) ⟨Nat.le_of_ble_eq_true rfl, Nat.le_of_ble_eq_true rfl⟩) hK hN hM hP hD hS hA [0, 1] rfl rfl rfl rfl rfl rfl hl.1 rfl (Nat.le_of_ble_eq_true rfl) dX6_loadByte_44 ⟨Nat.zero_le _, Nat.zero_le _⟩ (fun H locs hP hD hS => ?_)
          refine fr_Vi (As := [.int (mLbR (mCp σ 0 5) 1560 (tn t) (tn w) (tn q))]) (rest := []) (fs' := [[((md 0), .inr (6, [.ref (md 1), .int (nI (nAcc n (mLbR (mCp σ 0 5) 1560 (tn t) (tn w) (tn q)))), .ref (md 2), .int (nI (len)), .int (nI (p)), .int (nI (le)), .ref (md 3), .ref (md 4)]))], [((md 1), .inl (T 0, 1872, .inl (mAcc (mLbS (mCp σ 0 5) 1560 (tn t) (tn r) (tn w) (tn q)) n (mLbR (mCp σ 0 5) 1560 (tn t) (tn w) (tn q)))))]]) (ci := 6) (q0 := (RX6, TX6, 8)) (i0 := 0) ⟨hx, hb, hml, hown, hts⟩ (kX6_accepts l D T Z md n len p le (mLbS (mCp σ 0 5) 1560 (tn t) (tn r) (tn w) (tn q)) (mLbR (mCp σ 0 5) 1560 (tn t) (tn w) (tn q)) (by omega)) (cwV 1 hts gX6_loadByte_X6_accepts rfl rfl rfl (by decide +kernel) ⟨Nat.le_of_ble_eq_true rfl, Nat.le_of_ble_eq_true rfl⟩) hK hN hM hP hD hS hA [0, 1] rfl rfl rfl rfl rfl rfl hl.1 rfl (Nat.le_of_ble_eq_true rfl) dX6_loadByte_47 ⟨Nat.zero_le _, Nat.zero_le _⟩ (fun H locs hP hD hS => ?_)
          refine lv_goto (tgt := 55) hx hb dX6_loadByte_50 (by decide) ?_
          exact fr_iret hx hb hr hlk hP hS (by first | rfl | (simp only [mAS, mAN, c_1, c_3, c_5, c_7, r_9, ↓reduceIte, Bool.false_eq_true, bI_true, bI_false, Bool.true_and, Bool.and_true, Bool.and_false, Bool.false_and, Bool.not_true, Bool.not_false, Bool.or_true, Bool.true_or, Bool.or_false, Bool.false_or] <;> rfl) | (simp [mAS, mAN, c_1, c_3, c_5, c_7, r_9, bI]; done)) (by first | rfl | (simp only [mAS, mAN, c_1, c_3, c_5, c_7, r_9, ↓reduceIte, Bool.false_eq_true, bI_true, bI_false, Bool.true_and, Bool.and_true, Bool.and_false, Bool.false_and, Bool.not_true, Bool.not_false, Bool.or_true, Bool.true_or, Bool.or_false, Bool.false_or] <;> rfl) | (simp [mAS, mAN, c_1, c_3, c_5, c_7, r_9, bI]; done)) dX6_loadByte_55
      · refine lv_iconst (v := (-1)) hx hb dX6_loadByte_21 (by decide) ?_
        exact fr_iret hx hb hr hlk hP hS (by first | rfl | (simp only [mAS, mAN, c_1, c_3, c_5, ↓reduceIte, Bool.false_eq_true, bI_true, bI_false, Bool.true_and, Bool.and_true, Bool.and_false, Bool.false_and, Bool.not_true, Bool.not_false, Bool.or_true, Bool.true_or, Bool.or_false, Bool.false_or] <;> rfl) | (simp [mAS, mAN, c_1, c_3, c_5, bI]; done)) (by first | rfl | (simp only [mAS, mAN, c_1, c_3, c_5, ↓reduceIte, Bool.false_eq_true, bI_true, bI_false, Bool.true_and, Bool.and_true, Bool.and_false, Bool.false_and, Bool.not_true, Bool.not_false, Bool.or_true, Bool.true_or, Bool.or_false, Bool.false_or] <;> rfl) | (simp [mAS, mAN, c_1, c_3, c_5, bI]; done)) dX6_loadByte_22

set_option maxHeartbeats 8000000 in
set_option maxRecDepth 100000 in
theorem kX6_store (l : Launch) (D : va_G) (T : Nat → ClassId) (Z : ZZ) (md : Nat → Nat) (n : Nat) (len : Nat) (p : Nat) (le : Nat) (σ : MS) (t : Int32) (r : Int32) (w : Int32) (hn4 : n ≤ 4) : CtI l D T Z yX6_store wsX6_store ({ frames := 3, cells := 0, slots := 0, locals := 72 }) [[((md 0), .inr (6, [.ref (md 1), .int (nI (n)), .ref (md 2), .int (nI (len)), .int (nI (p)), .int (nI (le)), .ref (md 3), .ref (md 4)]))], [((md 1), .inl (T 0, 1872, .inl (σ)))]] [.ref (md 0), .int (t), .int (r), .int (w)] (if iN t 4 && (iN r 4 && iN w 32) then mStoR (mCp σ 0 5) 1560 (tn t) (tn r) (tn w) else -1) [[((md 0), .inr (6, [.ref (md 1), .int (nI (mAN (iN t 4 && (iN r 4 && iN w 32)) n (mStoR (mCp σ 0 5) 1560 (tn t) (tn r) (tn w)))), .ref (md 2), .int (nI (len)), .int (nI (p)), .int (nI (le)), .ref (md 3), .ref (md 4)]))], [((md 1), .inl (T 0, 1872, .inl (mAS (iN t 4 && (iN r 4 && iN w 32)) (mStoS (mCp σ 0 5) 1560 (tn t) (tn r) (tn w)) n (mStoR (mCp σ 0 5) 1560 (tn t) (tn r) (tn w)) σ)))]] := by
  refine CtI.of (cc := cX6_store) (maxL := 4) (ret := (some .int)) (plainFor_of_name (by decide)) rfl rfl ?_
  intro pP eE s mM bW mE cC A hE hK hN hM hP hD hA
  obtain ⟨hx, hb, hr, hts, hown, hml, hlk⟩ := hE
  have hown : s.vm.findClass RX6 = some mM.cls := hown
  have hS : va_S A s.heap s.heap [] := va_S.rf
  have hl := lv_entry ([.ref (md 0), .int (t), .int (r), .int (w)]) (n := 4) (Nat.le_of_ble_eq_true rfl)
  rw [lg_entry_eq]
  generalize (lg_sl ([.ref (md 0), .int (t), .int (r), .int (w)]) ++ List.replicate (4 - (lg_sl ([.ref (md 0), .int (t), .int (r), .int (w)])).length) Slot.unset).toArray = ls at hl ⊢
  have hl : lv_has ls 4 [(0, .ref (md 0)), (1, .int (t)), (2, .int (r)), (3, .int (w))] := hl
  refine lv_iload_n hx hb dX6_store_0 rfl (lv_at hl 1 rfl) ?_
  refine fr_S0 (As := [.int (t)]) (rest := []) ⟨hx, hb, hml, hown, hts⟩ (kX6_isOne l D T Z t) (va_cwS 1 hts gX6_store_X6_isOne rfl rfl rfl (by decide +kernel) ⟨Nat.le_of_ble_eq_true rfl, Nat.le_of_ble_eq_true rfl⟩) hK hN hM hP hD hS hA rfl hl.1 rfl (Nat.le_of_ble_eq_true rfl) dX6_store_1 ⟨Nat.zero_le _, Nat.zero_le _⟩ (fun H locs hP hD hS => ?_)
  refine fr_ifeq_b (tgt := 39) hx hb dX6_store_4 (by decide) (fun c_1 => ?_) (fun c_1 => ?_)
  · refine lv_iconst (v := (-1)) hx hb dX6_store_39 (by decide) ?_
    exact fr_iret hx hb hr hlk hP hS (by first | rfl | (simp only [mAS, mAN, c_1, ↓reduceIte, Bool.false_eq_true, bI_true, bI_false, Bool.true_and, Bool.and_true, Bool.and_false, Bool.false_and, Bool.not_true, Bool.not_false, Bool.or_true, Bool.true_or, Bool.or_false, Bool.false_or] <;> rfl) | (simp [mAS, mAN, c_1, bI]; done)) (by first | rfl | (simp only [mAS, mAN, c_1, ↓reduceIte, Bool.false_eq_true, bI_true, bI_false, Bool.true_and, Bool.and_true, Bool.and_false, Bool.false_and, Bool.not_true, Bool.not_false, Bool.or_true, Bool.true_or, Bool.or_false, Bool.false_or] <;> rfl) | (simp [mAS, mAN, c_1, bI]; done)) dX6_store_40
  · have e_2 := iN_eq c_1
    have e_2b := iN_lt c_1 (by decide)
    refine lv_iload_n hx hb dX6_store_7 rfl (lv_at hl 2 rfl) ?_
    refine fr_S0 (As := [.int (r)]) (rest := []) ⟨hx, hb, hml, hown, hts⟩ (kX6_isOne l D T Z r) (va_cwS 1 hts gX6_store_X6_isOne rfl rfl rfl (by decide +kernel) ⟨Nat.le_of_ble_eq_true rfl, Nat.le_of_ble_eq_true rfl⟩) hK hN hM hP hD hS hA rfl hl.1 rfl (Nat.le_of_ble_eq_true rfl) dX6_store_8 ⟨Nat.zero_le _, Nat.zero_le _⟩ (fun H locs hP hD hS => ?_)
    refine fr_ifeq_b (tgt := 39) hx hb dX6_store_11 (by decide) (fun c_3 => ?_) (fun c_3 => ?_)
    · refine lv_iconst (v := (-1)) hx hb dX6_store_39 (by decide) ?_
      exact fr_iret hx hb hr hlk hP hS (by first | rfl | (simp only [mAS, mAN, c_1, c_3, ↓reduceIte, Bool.false_eq_true, bI_true, bI_false, Bool.true_and, Bool.and_true, Bool.and_false, Bool.false_and, Bool.not_true, Bool.not_false, Bool.or_true, Bool.true_or, Bool.or_false, Bool.false_or] <;> rfl) | (simp [mAS, mAN, c_1, c_3, bI]; done)) (by first | rfl | (simp only [mAS, mAN, c_1, c_3, ↓reduceIte, Bool.false_eq_true, bI_true, bI_false, Bool.true_and, Bool.and_true, Bool.and_false, Bool.false_and, Bool.not_true, Bool.not_false, Bool.or_true, Bool.true_or, Bool.or_false, Bool.false_or] <;> rfl) | (simp [mAS, mAN, c_1, c_3, bI]; done)) dX6_store_40
    · have e_4 := iN_eq c_3
      have e_4b := iN_lt c_3 (by decide)
      refine lv_iload_n hx hb dX6_store_14 rfl (lv_at hl 3 rfl) ?_
      refine fr_S0 (As := [.int (w)]) (rest := []) ⟨hx, hb, hml, hown, hts⟩ (kX6_isWord l D T Z w) (va_cwS 1 hts gX6_store_X6_isWord rfl rfl rfl (by decide +kernel) ⟨Nat.le_of_ble_eq_true rfl, Nat.le_of_ble_eq_true rfl⟩) hK hN hM hP hD hS hA rfl hl.1 rfl (Nat.le_of_ble_eq_true rfl) dX6_store_15 ⟨Nat.zero_le _, Nat.zero_le _⟩ (fun H locs hP hD hS => ?_)
      refine fr_ifeq_b (tgt := 39) hx hb dX6_store_18 (by decide) (fun c_5 => ?_) (fun c_5 => ?_)
      · refine lv_iconst (v := (-1)) hx hb dX6_store_39 (by decide) ?_
        exact fr_iret hx hb hr hlk hP hS (by first | rfl | (simp only [mAS, mAN, c_1, c_3, c_5, ↓reduceIte, Bool.false_eq_true, bI_true, bI_false, Bool.true_and, Bool.and_true, Bool.and_false, Bool.false_and, Bool.not_true, Bool.not_false, Bool.or_true, Bool.true_or, Bool.or_false, Bool.false_or] <;> rfl) | (simp [mAS, mAN, c_1, c_3, c_5, bI]; done)) (by first | rfl | (simp only [mAS, mAN, c_1, c_3, c_5, ↓reduceIte, Bool.false_eq_true, bI_true, bI_false, Bool.true_and, Bool.and_true, Bool.and_false, Bool.false_and, Bool.not_true, Bool.not_false, Bool.or_true, Bool.true_or, Bool.or_false, Bool.false_or] <;> rfl) | (simp [mAS, mAN, c_1, c_3, c_5, bI]; done)) dX6_store_40
      · have e_6 := iN_eq c_5
        have e_6b := iN_lt c_5 (by decide)
        refine lv_aload_n hx hb dX6_store_21 rfl (lv_at hl 0 rfl) ?_
        refine lv_aload_n hx hb dX6_store_22 rfl (lv_at hl 0 rfl) ?_
        refine lv_aload_n hx hb dX6_store_23 rfl (lv_at hl 0 rfl) ?_
        refine fr_Vi (As := []) (rest := [.ref (md 0), .ref (md 0)]) (fs' := [[((md 0), .inr (6, [.ref (md 1), .int (nI (n)), .ref (md 2), .int (nI (len)), .int (nI (p)), .int (nI (le)), .ref (md 3), .ref (md 4)]))], [((md 1), .inl (T 0, 1872, .inl (mCp σ 0 5)))]]) (ci := 6) (q0 := (RX6, TX6, 8)) (i0 := 0) ⟨hx, hb, hml, hown, hts⟩ (kX6_begins l D T Z md n len p le σ) (cwV 0 hts gX6_store_X6_begins rfl rfl rfl (by decide +kernel) ⟨Nat.le_of_ble_eq_true rfl, Nat.le_of_ble_eq_true rfl⟩) hK hN hM hP hD hS hA [0, 1] rfl rfl rfl rfl rfl rfl hl.1 rfl (Nat.le_of_ble_eq_true rfl) dX6_store_24 ⟨Nat.zero_le _, Nat.zero_le _⟩ (fun H locs hP hD hS => ?_)
        refine lv_iload_n hx hb dX6_store_27 rfl (lv_at hl 1 rfl) ?_
        refine fr_val e_2 ?_
        refine lv_iload_n hx hb dX6_store_28 rfl (lv_at hl 2 rfl) ?_
        refine fr_val e_4 ?_
        refine lv_iload_n hx hb dX6_store_29 rfl (lv_at hl 3 rfl) ?_
        refine fr_val e_6 ?_
        refine fr_Vi (As := [.int (nI 1560), .int (nI (tn t)), .int (nI (tn r)), .int (nI (tn w))]) (rest := [.ref (md 0)]) (fs' := [[((md 0), .inr (6, [.ref (md 1), .int (nI (n)), .ref (md 2), .int (nI (len)), .int (nI (p)), .int (nI (le)), .ref (md 3), .ref (md 4)]))], [((md 1), .inl (T 0, 1872, .inl (mStoS (mCp σ 0 5) 1560 (tn t) (tn r) (tn w))))]]) (ci := 6) (q0 := (RX6, TX6, 8)) (i0 := 0) ⟨hx, hb, hml, hown, hts⟩ (kX6_stores l D T Z md n len p le (mCp σ 0 5) 1560 (tn t) (tn r) (tn w) (by decide) (by omega) (by omega) (by omega)) (cwV 4 hts gX6_store_X6_stores rfl rfl rfl (by decide +kernel) ⟨Nat.le_of_ble_eq_true rfl, Nat.le_of_ble_eq_true rfl⟩) hK hN hM hP hD hS hA [0, 1] rfl rfl rfl rfl rfl rfl hl.1 rfl (Nat.le_of_ble_eq_true rfl) dX6_store_30 ⟨Nat.zero_le _, Nat.zero_le _⟩ (fun H locs hP hD hS => ?_)
        refine fr_Vi (As := [.int (mStoR (mCp σ 0 5) 1560 (tn t) (tn r) (tn w))]) (rest := []) (fs' := [[((md 0), .inr (6, [.ref (md 1), .int (nI (nAcc n (mStoR (mCp σ 0 5) 1560 (tn t) (tn r) (tn w)))), .ref (md 2), .int (nI (len)), .int (nI (p)), .int (nI (le)), .ref (md 3), .ref (md 4)]))], [((md 1), .inl (T 0, 1872, .inl (mAcc (mStoS (mCp σ 0 5) 1560 (tn t) (tn r) (tn w)) n (mStoR (mCp σ 0 5) 1560 (tn t) (tn r) (tn w)))))]]) (ci := 6) (q0 := (RX6, TX6, 8)) (i0 := 0) ⟨hx, hb, hml, hown, hts⟩ (kX6_accepts l D T Z md n len p le (mStoS (mCp σ 0 5) 1560 (tn t) (tn r) (tn w)) (mStoR (mCp σ 0 5) 1560 (tn t) (tn r) (tn w)) (by omega)) (cwV 1 hts gX6_store_X6_accepts rfl rfl rfl (by decide +kernel) ⟨Nat.le_of_ble_eq_true rfl, Nat.le_of_ble_eq_true rfl⟩) hK hN hM hP hD hS hA [0, 1] rfl rfl rfl rfl rfl rfl hl.1 rfl (Nat.le_of_ble_eq_true rfl) dX6_store_33 ⟨Nat.zero_le _, Nat.zero_le _⟩ (fun H locs hP hD hS => ?_)
        refine lv_goto (tgt := 40) hx hb dX6_store_36 (by decide) ?_
        exact fr_iret hx hb hr hlk hP hS (by first | rfl | (simp only [mAS, mAN, c_1, c_3, c_5, ↓reduceIte, Bool.false_eq_true, bI_true, bI_false, Bool.true_and, Bool.and_true, Bool.and_false, Bool.false_and, Bool.not_true, Bool.not_false, Bool.or_true, Bool.true_or, Bool.or_false, Bool.false_or] <;> rfl) | (simp [mAS, mAN, c_1, c_3, c_5, bI]; done)) (by first | rfl | (simp only [mAS, mAN, c_1, c_3, c_5, ↓reduceIte, Bool.false_eq_true, bI_true, bI_false, Bool.true_and, Bool.and_true, Bool.and_false, Bool.false_and, Bool.not_true, Bool.not_false, Bool.or_true, Bool.true_or, Bool.or_false, Bool.false_or] <;> rfl) | (simp [mAS, mAN, c_1, c_3, c_5, bI]; done)) dX6_store_40

set_option maxHeartbeats 8000000 in
set_option maxRecDepth 100000 in
theorem kX6_storeByte (l : Launch) (D : va_G) (T : Nat → ClassId) (Z : ZZ) (md : Nat → Nat) (n : Nat) (len : Nat) (p : Nat) (le : Nat) (σ : MS) (t : Int32) (r : Int32) (w : Int32) (q : Int32) (hn4 : n ≤ 4) : CtI l D T Z yX6_storeByte wsX6_storeByte ({ frames := 4, cells := 0, slots := 0, locals := 97 }) [[((md 0), .inr (6, [.ref (md 1), .int (nI (n)), .ref (md 2), .int (nI (len)), .int (nI (p)), .int (nI (le)), .ref (md 3), .ref (md 4)]))], [((md 1), .inl (T 0, 1872, .inl (σ)))]] [.ref (md 0), .int (t), .int (r), .int (w), .int (q)] (if iN t 4 && (iN r 4 && iN w 32) then (if iN q 2 then mStbR (mCp σ 0 5) 1560 (tn t) (tn r) (tn w) (tn q) else -2) else -1) [[((md 0), .inr (6, [.ref (md 1), .int (nI (mAN (iN t 4 && (iN r 4 && (iN w 32 && iN q 2))) n (mStbR (mCp σ 0 5) 1560 (tn t) (tn r) (tn w) (tn q)))), .ref (md 2), .int (nI (len)), .int (nI (p)), .int (nI (le)), .ref (md 3), .ref (md 4)]))], [((md 1), .inl (T 0, 1872, .inl (mAS (iN t 4 && (iN r 4 && (iN w 32 && iN q 2))) (mStbS (mCp σ 0 5) 1560 (tn t) (tn r) (tn w) (tn q)) n (mStbR (mCp σ 0 5) 1560 (tn t) (tn r) (tn w) (tn q)) σ)))]] := by
  refine CtI.of (cc := cX6_storeByte) (maxL := 5) (ret := (some .int)) (plainFor_of_name (by decide)) rfl rfl ?_
  intro pP eE s mM bW mE cC A hE hK hN hM hP hD hA
  obtain ⟨hx, hb, hr, hts, hown, hml, hlk⟩ := hE
  have hown : s.vm.findClass RX6 = some mM.cls := hown
  have hS : va_S A s.heap s.heap [] := va_S.rf
  have hl := lv_entry ([.ref (md 0), .int (t), .int (r), .int (w), .int (q)]) (n := 5) (Nat.le_of_ble_eq_true rfl)
  rw [lg_entry_eq]
  generalize (lg_sl ([.ref (md 0), .int (t), .int (r), .int (w), .int (q)]) ++ List.replicate (5 - (lg_sl ([.ref (md 0), .int (t), .int (r), .int (w), .int (q)])).length) Slot.unset).toArray = ls at hl ⊢
  have hl : lv_has ls 5 [(0, .ref (md 0)), (1, .int (t)), (2, .int (r)), (3, .int (w)), (4, .int (q))] := hl
  refine lv_iload_n hx hb dX6_storeByte_0 rfl (lv_at hl 1 rfl) ?_
  refine fr_S0 (As := [.int (t)]) (rest := []) ⟨hx, hb, hml, hown, hts⟩ (kX6_isOne l D T Z t) (va_cwS 1 hts gX6_storeByte_X6_isOne rfl rfl rfl (by decide +kernel) ⟨Nat.le_of_ble_eq_true rfl, Nat.le_of_ble_eq_true rfl⟩) hK hN hM hP hD hS hA rfl hl.1 rfl (Nat.le_of_ble_eq_true rfl) dX6_storeByte_1 ⟨Nat.zero_le _, Nat.zero_le _⟩ (fun H locs hP hD hS => ?_)
  refine fr_ifeq_b (tgt := 21) hx hb dX6_storeByte_4 (by decide) (fun c_1 => ?_) (fun c_1 => ?_)
  · refine lv_iconst (v := (-1)) hx hb dX6_storeByte_21 (by decide) ?_
    exact fr_iret hx hb hr hlk hP hS (by first | rfl | (simp only [mAS, mAN, c_1, ↓reduceIte, Bool.false_eq_true, bI_true, bI_false, Bool.true_and, Bool.and_true, Bool.and_false, Bool.false_and, Bool.not_true, Bool.not_false, Bool.or_true, Bool.true_or, Bool.or_false, Bool.false_or] <;> rfl) | (simp [mAS, mAN, c_1, bI]; done)) (by first | rfl | (simp only [mAS, mAN, c_1, ↓reduceIte, Bool.false_eq_true, bI_true, bI_false, Bool.true_and, Bool.and_true, Bool.and_false, Bool.false_and, Bool.not_true, Bool.not_false, Bool.or_true, Bool.true_or, Bool.or_false, Bool.false_or] <;> rfl) | (simp [mAS, mAN, c_1, bI]; done)) dX6_storeByte_22
  · have e_2 := iN_eq c_1
    have e_2b := iN_lt c_1 (by decide)
    refine lv_iload_n hx hb dX6_storeByte_7 rfl (lv_at hl 2 rfl) ?_
    refine fr_S0 (As := [.int (r)]) (rest := []) ⟨hx, hb, hml, hown, hts⟩ (kX6_isOne l D T Z r) (va_cwS 1 hts gX6_storeByte_X6_isOne rfl rfl rfl (by decide +kernel) ⟨Nat.le_of_ble_eq_true rfl, Nat.le_of_ble_eq_true rfl⟩) hK hN hM hP hD hS hA rfl hl.1 rfl (Nat.le_of_ble_eq_true rfl) dX6_storeByte_8 ⟨Nat.zero_le _, Nat.zero_le _⟩ (fun H locs hP hD hS => ?_)
    refine fr_ifeq_b (tgt := 21) hx hb dX6_storeByte_11 (by decide) (fun c_3 => ?_) (fun c_3 => ?_)
    · refine lv_iconst (v := (-1)) hx hb dX6_storeByte_21 (by decide) ?_
      exact fr_iret hx hb hr hlk hP hS (by first | rfl | (simp only [mAS, mAN, c_1, c_3, ↓reduceIte, Bool.false_eq_true, bI_true, bI_false, Bool.true_and, Bool.and_true, Bool.and_false, Bool.false_and, Bool.not_true, Bool.not_false, Bool.or_true, Bool.true_or, Bool.or_false, Bool.false_or] <;> rfl) | (simp [mAS, mAN, c_1, c_3, bI]; done)) (by first | rfl | (simp only [mAS, mAN, c_1, c_3, ↓reduceIte, Bool.false_eq_true, bI_true, bI_false, Bool.true_and, Bool.and_true, Bool.and_false, Bool.false_and, Bool.not_true, Bool.not_false, Bool.or_true, Bool.true_or, Bool.or_false, Bool.false_or] <;> rfl) | (simp [mAS, mAN, c_1, c_3, bI]; done)) dX6_storeByte_22
    · have e_4 := iN_eq c_3
      have e_4b := iN_lt c_3 (by decide)
      refine lv_iload_n hx hb dX6_storeByte_14 rfl (lv_at hl 3 rfl) ?_
      refine fr_S0 (As := [.int (w)]) (rest := []) ⟨hx, hb, hml, hown, hts⟩ (kX6_isWord l D T Z w) (va_cwS 1 hts gX6_storeByte_X6_isWord rfl rfl rfl (by decide +kernel) ⟨Nat.le_of_ble_eq_true rfl, Nat.le_of_ble_eq_true rfl⟩) hK hN hM hP hD hS hA rfl hl.1 rfl (Nat.le_of_ble_eq_true rfl) dX6_storeByte_15 ⟨Nat.zero_le _, Nat.zero_le _⟩ (fun H locs hP hD hS => ?_)
      refine fr_ifne_b (tgt := 23) hx hb dX6_storeByte_18 (by decide) (fun c_5 => ?_) (fun c_5 => ?_)
      · have e_6 := iN_eq c_5
        have e_6b := iN_lt c_5 (by decide)
        refine lv_iload hx hb dX6_storeByte_23 (lv_at hl 4 rfl) ?_
        refine lv_iconst (v := nI 0) hx hb dX6_storeByte_25 (by decide) ?_
        refine lv_iconst (v := nI 1) hx hb dX6_storeByte_26 (by decide) ?_
        refine fr_S0 (As := [.int (q), .int (nI 0), .int (nI 1)]) (rest := []) ⟨hx, hb, hml, hown, hts⟩ (kX6_in l D T Z q (nI 0) (nI 1)) (va_cwS 3 hts gX6_storeByte_X6_in rfl rfl rfl (by decide +kernel) ⟨Nat.le_of_ble_eq_true rfl, Nat.le_of_ble_eq_true rfl⟩) hK hN hM hP hD hS hA rfl hl.1 rfl (Nat.le_of_ble_eq_true rfl) dX6_storeByte_27 ⟨Nat.zero_le _, Nat.zero_le _⟩ (fun H locs hP hD hS => ?_)
        refine fr_ifeq_b (tgt := 53) hx hb dX6_storeByte_30 (by decide) (fun c_7 => ?_) (fun c_7 => ?_)
        · have r_8 : iN q 2 = false := (inn_iN (by decide)).symm.trans c_7
          refine lv_bipush (v := (-2)) hx hb dX6_storeByte_53 (by decide) ?_
          exact fr_iret hx hb hr hlk hP hS (by first | rfl | (simp only [mAS, mAN, c_1, c_3, c_5, c_7, r_8, ↓reduceIte, Bool.false_eq_true, bI_true, bI_false, Bool.true_and, Bool.and_true, Bool.and_false, Bool.false_and, Bool.not_true, Bool.not_false, Bool.or_true, Bool.true_or, Bool.or_false, Bool.false_or] <;> rfl) | (simp [mAS, mAN, c_1, c_3, c_5, c_7, r_8, bI]; done)) (by first | rfl | (simp only [mAS, mAN, c_1, c_3, c_5, c_7, r_8, ↓reduceIte, Bool.false_eq_true, bI_true, bI_false, Bool.true_and, Bool.and_true, Bool.and_false, Bool.false_and, Bool.not_true, Bool.not_false, Bool.or_true, Bool.true_or, Bool.or_false, Bool.false_or] <;> rfl) | (simp [mAS, mAN, c_1, c_3, c_5, c_7, r_8, bI]; done)) dX6_storeByte_55
        · have r_9 : iN q 2 = true := (inn_iN (by decide)).symm.trans c_7
          have e_10 := iN_eq r_9
          have e_10b := iN_lt r_9 (by decide)
          refine lv_aload_n hx hb dX6_storeByte_33 rfl (lv_at hl 0 rfl) ?_
          refine lv_aload_n hx hb dX6_storeByte_34 rfl (lv_at hl 0 rfl) ?_
          refine lv_aload_n hx hb dX6_storeByte_35 rfl (lv_at hl 0 rfl) ?_
          refine fr_Vi (As := []) (rest := [.ref (md 0), .ref (md 0)]) (fs' := [[((md 0), .inr (6, [.ref (md 1), .int (nI (n)), .ref (md 2), .int (nI (len)), .int (nI (p)), .int (nI (le)), .ref (md 3), .ref (md 4)]))], [((md 1), .inl (T 0, 1872, .inl (mCp σ 0 5)))]]) (ci := 6) (q0 := (RX6, TX6, 8)) (i0 := 0) ⟨hx, hb, hml, hown, hts⟩ (kX6_begins l D T Z md n len p le σ) (cwV 0 hts gX6_storeByte_X6_begins rfl rfl rfl (by decide +kernel) ⟨Nat.le_of_ble_eq_true rfl, Nat.le_of_ble_eq_true rfl⟩) hK hN hM hP hD hS hA [0, 1] rfl rfl rfl rfl rfl rfl hl.1 rfl (Nat.le_of_ble_eq_true rfl) dX6_storeByte_36 ⟨Nat.zero_le _, Nat.zero_le _⟩ (fun H locs hP hD hS => ?_)
          refine lv_iload_n hx hb dX6_storeByte_39 rfl (lv_at hl 1 rfl) ?_
          refine fr_val e_2 ?_
          refine lv_iload_n hx hb dX6_storeByte_40 rfl (lv_at hl 2 rfl) ?_
          refine fr_val e_4 ?_
          refine lv_iload_n hx hb dX6_storeByte_41 rfl (lv_at hl 3 rfl) ?_
          refine fr_val e_6 ?_
          refine lv_iload hx hb dX6_storeByte_42 (lv_at hl 4 rfl) ?_
          refine fr_val e_10 ?_
          refine fr_Vi (As := [.int (nI 1560), .int (nI (tn t)), .int (nI (tn r)), .int (nI (tn w)), .int (nI (tn q))]) (rest := [.ref (md 0)]) (fs' := [[((md 0), .inr (6, [.ref (md 1), .int (nI (n)), .ref (md 2), .int (nI (len)), .int (nI (p)), .int (nI (le)), .ref (md 3), .ref (md 4)]))], [((md 1), .inl (T 0, 1872, .inl (mStbS (mCp σ 0 5) 1560 (tn t) (tn r) (tn w) (tn q))))]]) (ci := 6) (q0 := (RX6, TX6, 8)) (i0 := 0) ⟨hx, hb, hml, hown, hts⟩ (kX6_storesByte l D T Z md n len p le (mCp σ 0 5) 1560 (tn t) (tn r) (tn w) (tn q) (by decide) (by omega) (by omega) (by omega) (by omega)) (cwV 5 hts gX6_storeByte_X6_storesByte rfl rfl rfl (by decide +kernel) ⟨Nat.le_of_ble_eq_true rfl, Nat.le_of_ble_eq_true rfl⟩) hK hN hM hP hD hS hA [0, 1] rfl rfl rfl rfl rfl rfl hl.1 rfl (Nat.le_of_ble_eq_true rfl) dX6_storeByte_44 ⟨Nat.zero_le _, Nat.zero_le _⟩ (fun H locs hP hD hS => ?_)
          refine fr_Vi (As := [.int (mStbR (mCp σ 0 5) 1560 (tn t) (tn r) (tn w) (tn q))]) (rest := []) (fs' := [[((md 0), .inr (6, [.ref (md 1), .int (nI (nAcc n (mStbR (mCp σ 0 5) 1560 (tn t) (tn r) (tn w) (tn q)))), .ref (md 2), .int (nI (len)), .int (nI (p)), .int (nI (le)), .ref (md 3), .ref (md 4)]))], [((md 1), .inl (T 0, 1872, .inl (mAcc (mStbS (mCp σ 0 5) 1560 (tn t) (tn r) (tn w) (tn q)) n (mStbR (mCp σ 0 5) 1560 (tn t) (tn r) (tn w) (tn q)))))]]) (ci := 6) (q0 := (RX6, TX6, 8)) (i0 := 0) ⟨hx, hb, hml, hown, hts⟩ (kX6_accepts l D T Z md n len p le (mStbS (mCp σ 0 5) 1560 (tn t) (tn r) (tn w) (tn q)) (mStbR (mCp σ 0 5) 1560 (tn t) (tn r) (tn w) (tn q)) (by omega)) (cwV 1 hts gX6_storeByte_X6_accepts rfl rfl rfl (by decide +kernel) ⟨Nat.le_of_ble_eq_true rfl, Nat.le_of_ble_eq_true rfl⟩) hK hN hM hP hD hS hA [0, 1] rfl rfl rfl rfl rfl rfl hl.1 rfl (Nat.le_of_ble_eq_true rfl) dX6_storeByte_47 ⟨Nat.zero_le _, Nat.zero_le _⟩ (fun H locs hP hD hS => ?_)
          refine lv_goto (tgt := 55) hx hb dX6_storeByte_50 (by decide) ?_
          exact fr_iret hx hb hr hlk hP hS (by first | rfl | (simp only [mAS, mAN, c_1, c_3, c_5, c_7, r_9, ↓reduceIte, Bool.false_eq_true, bI_true, bI_false, Bool.true_and, Bool.and_true, Bool.and_false, Bool.false_and, Bool.not_true, Bool.not_false, Bool.or_true, Bool.true_or, Bool.or_false, Bool.false_or] <;> rfl) | (simp [mAS, mAN, c_1, c_3, c_5, c_7, r_9, bI]; done)) (by first | rfl | (simp only [mAS, mAN, c_1, c_3, c_5, c_7, r_9, ↓reduceIte, Bool.false_eq_true, bI_true, bI_false, Bool.true_and, Bool.and_true, Bool.and_false, Bool.false_and, Bool.not_true, Bool.not_false, Bool.or_true, Bool.true_or, Bool.or_false, Bool.false_or] <;> rfl) | (simp [mAS, mAN, c_1, c_3, c_5, c_7, r_9, bI]; done)) dX6_storeByte_55
      · refine lv_iconst (v := (-1)) hx hb dX6_storeByte_21 (by decide) ?_
        exact fr_iret hx hb hr hlk hP hS (by first | rfl | (simp only [mAS, mAN, c_1, c_3, c_5, ↓reduceIte, Bool.false_eq_true, bI_true, bI_false, Bool.true_and, Bool.and_true, Bool.and_false, Bool.false_and, Bool.not_true, Bool.not_false, Bool.or_true, Bool.true_or, Bool.or_false, Bool.false_or] <;> rfl) | (simp [mAS, mAN, c_1, c_3, c_5, bI]; done)) (by first | rfl | (simp only [mAS, mAN, c_1, c_3, c_5, ↓reduceIte, Bool.false_eq_true, bI_true, bI_false, Bool.true_and, Bool.and_true, Bool.and_false, Bool.false_and, Bool.not_true, Bool.not_false, Bool.or_true, Bool.true_or, Bool.or_false, Bool.false_or] <;> rfl) | (simp [mAS, mAN, c_1, c_3, c_5, bI]; done)) dX6_storeByte_22
