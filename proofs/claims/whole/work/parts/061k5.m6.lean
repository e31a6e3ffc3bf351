
set_option maxHeartbeats 8000000 in
set_option maxRecDepth 100000 in
theorem kX6_carriers (l : Launch) (D : va_G) (T : Nat → ClassId) (Z : ZZ) (md : Nat → Nat) (n : Nat) (len : Nat) (p : Nat) (le : Nat) (σ : MS) (x : Int32) (hi : WH (σ 256) 20) : CtI l D T Z yX6_carriers wsX6_carriers ({ frames := 2, cells := 0, slots := 0, locals := 45 }) [[((md 0), .inr (6, [.ref (md 1), .int (nI (n)), .ref (md 2), .int (nI (len)), .int (nI (p)), .int (nI (le)), .ref (md 3), .ref (md 4)]))], [((md 1), .inl (T 0, 1872, .inl (σ)))]] [.ref (md 0), .int (x)] (if iN x (tn (σ 256)) then sumI (crG σ x) 80 else -1) [[((md 0), .inr (6, [.ref (md 1), .int (nI (n)), .ref (md 2), .int (nI (len)), .int (nI (p)), .int (nI (le)), .ref (md 3), .ref (md 4)]))], [((md 1), .inl (T 0, 1872, .inl (σ)))]] := by
  have hi2 := hi.2
  refine CtI.of (cc := cX6_carriers) (maxL := 2) (ret := (some .int)) (plainFor_of_name (by decide)) rfl rfl ?_
  intro pP eE s mM bW mE cC A hE hK hN hM hP hD hA
  obtain ⟨hx, hb, hr, hts, hown, hml, hlk⟩ := hE
  have hown : s.vm.findClass RX6 = some mM.cls := hown
  have hS : va_S A s.heap s.heap [] := va_S.rf
  have hl := lv_entry ([.ref (md 0), .int (x)]) (n := 2) (Nat.le_of_ble_eq_true rfl)
  rw [lg_entry_eq]
  generalize (lg_sl ([.ref (md 0), .int (x)]) ++ List.replicate (2 - (lg_sl ([.ref (md 0), .int (x)])).length) Slot.unset).toArray = ls at hl ⊢
  have hl : lv_has ls 2 [(0, .ref (md 0)), (1, .int (x))] := hl
  refine lv_aload_n hx hb dX6_carriers_0 rfl (lv_at hl 0 rfl) ?_
  refine lv_iload_n hx hb dX6_carriers_1 rfl (lv_at hl 1 rfl) ?_
  refine fr_Vi (As := [.int (x)]) (rest := []) (fs' := [[((md 0), .inr (6, [.ref (md 1), .int (nI (n)), .ref (md 2), .int (nI (len)), .int (nI (p)), .int (nI (le)), .ref (md 3), .ref (md 4)]))], [((md 1), .inl (T 0, 1872, .inl (σ)))]]) (ci := 6) (q0 := (RX6, TX6, 8)) (i0 := 0) ⟨hx, hb, hml, hown, hts⟩ (kX6_isOrigin l D T Z md n len p le σ x hi) (cwV 1 hts gX6_carriers_X6_isOrigin rfl rfl rfl (by decide +kernel) ⟨Nat.le_of_ble_eq_true rfl, Nat.le_of_ble_eq_true rfl⟩) hK hN hM hP hD hS hA [0, 1] rfl rfl rfl rfl rfl rfl hl.1 rfl (Nat.le_of_ble_eq_true rfl) dX6_carriers_2 ⟨Nat.zero_le _, Nat.zero_le _⟩ (fun H locs hP hD hS => ?_)
  refine fr_ifeq_b (tgt := 16) hx hb dX6_carriers_5 (by decide) (fun c_1 => ?_) (fun c_1 => ?_)
  · refine lv_iconst (v := (-1)) hx hb dX6_carriers_16 (by decide) ?_
    exact fr_iret hx hb hr hlk hP hS (by first | with_reducible rfl | (simp only [c_1, ↓reduceIte, Bool.false_eq_true, bI_true, bI_false, Bool.true_and, Bool.and_true, Bool.and_false, Bool.false_and, Bool.not_true, Bool.not_false, Bool.or_true, Bool.true_or, Bool.or_false, Bool.false_or] <;> with_reducible rfl) | (simp only [c_1, ↓reduceIte, Bool.false_eq_true, bI_true, bI_false, Bool.true_and, Bool.and_true, Bool.and_false, Bool.false_and, Bool.not_true, Bool.not_false, Bool.or_true, Bool.true_or, Bool.or_false, Bool.false_or] <;> rfl) | (simp [c_1, bI]; done)) rfl dX6_carriers_17
  · have e_2 := iN_eq c_1
    have e_2b := iN_lt c_1 (by omega)
    refine lv_aload_n hx hb dX6_carriers_8 rfl (lv_at hl 0 rfl) ?_
    refine lv_iload_n hx hb dX6_carriers_9 rfl (lv_at hl 1 rfl) ?_
    refine fr_Vi (As := [.int (x)]) (rest := []) (fs' := [[((md 0), .inr (6, [.ref (md 1), .int (nI (n)), .ref (md 2), .int (nI (len)), .int (nI (p)), .int (nI (le)), .ref (md 3), .ref (md 4)]))], [((md 1), .inl (T 0, 1872, .inl (σ)))]]) (ci := 6) (q0 := (RX6, TX6, 8)) (i0 := 0) ⟨hx, hb, hml, hown, hts⟩ (kX6_carriersOf l D T Z md n len p le σ x) (cwV 1 hts gX6_carriers_X6_carriersOf rfl rfl rfl (by decide +kernel) ⟨Nat.le_of_ble_eq_true rfl, Nat.le_of_ble_eq_true rfl⟩) hK hN hM hP hD hS hA [0, 1] rfl rfl rfl rfl rfl rfl hl.1 rfl (Nat.le_of_ble_eq_true rfl) dX6_carriers_10 ⟨Nat.zero_le _, Nat.zero_le _⟩ (fun H locs hP hD hS => ?_)
    refine lv_goto (tgt := 17) hx hb dX6_carriers_13 (by decide) ?_
    exact fr_iret hx hb hr hlk hP hS (by first | with_reducible rfl | (simp only [c_1, ↓reduceIte, Bool.false_eq_true, bI_true, bI_false, Bool.true_and, Bool.and_true, Bool.and_false, Bool.false_and, Bool.not_true, Bool.not_false, Bool.or_true, Bool.true_or, Bool.or_false, Bool.false_or] <;> with_reducible rfl) | (simp only [c_1, ↓reduceIte, Bool.false_eq_true, bI_true, bI_false, Bool.true_and, Bool.and_true, Bool.and_false, Bool.false_and, Bool.not_true, Bool.not_false, Bool.or_true, Bool.true_or, Bool.or_false, Bool.false_or] <;> rfl) | (simp [c_1, bI]; done)) rfl dX6_carriers_17
