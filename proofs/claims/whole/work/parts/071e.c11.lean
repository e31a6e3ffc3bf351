
set_option maxHeartbeats 8000000 in
set_option maxRecDepth 100000 in
theorem kX5_append (l : Launch) (D : va_G) (T : Nat → ClassId) (Z : ZZ) (AD : Nat → Nat → Nat) (ch : Nat → Nat) (len : Nat) (kd : Nat) (q : Q4) (x : Int32) (hlen : len ≤ 90) : CtI l D T Z yX5_append wsX5_append ({ frames := 1, cells := 0, slots := 0, locals := 21 }) [[(((AD 8) 0), .inr (5, [.ref ((AD 0) 0), .ref ((AD 1) 0), .ref ((AD 8) 1), .ref ((AD 9) 0), .ref ((AD 7) 0)]))], [(((AD 9) 0), .inr (4, [.ref ((AD 9) 1), .int (nI (len)), .int (nI (q.1)), .int (nI (kd)), .ref ((AD 9) 2), .int (nI (q.2.2))]))], [(((AD 9) 1), .inl (T 2, 90, .inl (nf ch)))], [(((AD 9) 2), .inl (T 0, 5, .inl (nf q.2.1)))]] [.ref ((AD 8) 0), .int (x)] (if inn x (nI 32) (nI 126) then (if len < 90 then nI (len + 1) else -4) else -2) [[(((AD 8) 0), .inr (5, [.ref ((AD 0) 0), .ref ((AD 1) 0), .ref ((AD 8) 1), .ref ((AD 9) 0), .ref ((AD 7) 0)]))], [(((AD 9) 0), .inr (4, [.ref ((AD 9) 1), .int (nI (if inn x (nI 32) (nI 126) then (if len < 90 then len + 1 else len) else len)), .int (nI (q.1)), .int (nI (kd)), .ref ((AD 9) 2), .int (nI (q.2.2))]))], [(((AD 9) 1), .inl (T 2, 90, .inl (nf (if inn x (nI 32) (nI 126) then (if len < 90 then updN ch len (tn x) else ch) else ch))))], [(((AD 9) 2), .inl (T 0, 5, .inl (nf q.2.1)))]] := by
  refine CtI.of (cc := cX5_append) (maxL := 2) (ret := (some .int)) (plainFor_of_name (by decide)) rfl rfl ?_
  intro pP eE s mM bW mE cC A hE hK hN hM hP hD hA
  obtain ⟨hx, hb, hr, hts, hown, hml, hlk⟩ := hE
  have hown : s.vm.findClass RX5 = some mM.cls := hown
  have hS : va_S A s.heap s.heap [] := va_S.rf
  have hl := lv_entry ([.ref ((AD 8) 0), .int (x)]) (n := 2) (Nat.le_of_ble_eq_true rfl)
  rw [lg_entry_eq]
  generalize (lg_sl ([.ref ((AD 8) 0), .int (x)]) ++ List.replicate (2 - (lg_sl ([.ref ((AD 8) 0), .int (x)])).length) Slot.unset).toArray = ls at hl ⊢
  have hl : lv_has ls 2 [(0, .ref ((AD 8) 0)), (1, .int (x))] := hl
  have w_29 := hts (.fieldLink RX5 29 "PoisonedMemory" "text" "LPoisonedMemory$Text;") (by decide +kernel)
  have hinX5 : ∀ w ∈ wsX50, w ∈ wsX5_append := by decide +kernel
  refine lv_iload_n hx hb dX5_append_0 rfl (lv_at hl 1 rfl) ?_
  refine lv_bipush (v := nI 32) hx hb dX5_append_1 (by decide) ?_
  refine lv_icmp_lt (tgt := 12) hx hb dX5_append_3 (by decide) (fun c_1 => ?_) (fun c_1 => ?_)
  · have c_1' := Int32.not_le.mpr c_1
    have e_2r : inn x (nI 32) (nI 126) = false := inn_lo c_1
    refine lv_bipush (v := (-2)) hx hb dX5_append_12 (by decide) ?_
    exact fr_iret hx hb hr hlk hP hS (by simp only [e_2r, ↓reduceIte, Bool.false_eq_true, bI_true, bI_false, Bool.true_and, Bool.and_true, Bool.and_false, Bool.false_and, Bool.not_true, Bool.not_false, Bool.or_true, Bool.true_or, Bool.or_false, Bool.false_or] <;> rfl) (by simp only [e_2r, ↓reduceIte, Bool.false_eq_true, bI_true, bI_false, Bool.true_and, Bool.and_true, Bool.and_false, Bool.false_and, Bool.not_true, Bool.not_false, Bool.or_true, Bool.true_or, Bool.or_false, Bool.false_or] <;> rfl) dX5_append_14
  · have c_1' := Int32.not_lt.mp c_1
    refine lv_iload_n hx hb dX5_append_6 rfl (lv_at hl 1 rfl) ?_
    refine lv_bipush (v := nI 126) hx hb dX5_append_7 (by decide) ?_
    refine lv_icmp_le (tgt := 15) hx hb dX5_append_9 (by decide) (fun c_3 => ?_) (fun c_3 => ?_)
    · have c_3' := Int32.not_lt.mpr c_3
      have e_4r : inn x (nI 32) (nI 126) = true := inn_of c_1 c_3
      obtain ⟨e_4, e_4a, e_4b⟩ := inn_eq (by decide) (by decide) e_4r
      refine lv_aload_n hx hb dX5_append_15 rfl (lv_at hl 0 rfl) ?_
      refine va_get (D := D) (ci := 5) (v := .ref ((AD 9) 0)) (C := RX5) (T := TX5) (N := 5) hx hb hts hinX5 hown hK (hP.at 0 rfl) 0 rfl rfl 3 (by decide) w_29 (fun _ h9 => h9) rfl dX5_append_16 ?_
      refine lv_iload_n hx hb dX5_append_19 rfl (lv_at hl 1 rfl) ?_
      refine fr_val e_4 ?_
      refine lv_i2c hx hb dX5_append_20 (v := nI (tn x)) ((pk_char _).trans (by rw [pk_tn (by omega), Nat.mod_eq_of_lt (by omega)])) ?_
      refine fr_Vi (As := [.int (nI (tn x))]) (rest := []) (fs' := [[(((AD 8) 0), .inr (5, [.ref ((AD 0) 0), .ref ((AD 1) 0), .ref ((AD 8) 1), .ref ((AD 9) 0), .ref ((AD 7) 0)]))], [(((AD 9) 0), .inr (4, [.ref ((AD 9) 1), .int (nI (if len < 90 then len + 1 else len)), .int (nI (q.1)), .int (nI (kd)), .ref ((AD 9) 2), .int (nI (q.2.2))]))], [(((AD 9) 1), .inl (T 2, 90, .inl (nf (if len < 90 then updN ch len (tn x) else ch))))], [(((AD 9) 2), .inl (T 0, 5, .inl (nf q.2.1)))]]) (ci := 4) (q0 := (RX4, TX4, 6)) (i0 := 1) ⟨hx, hb, hml, hown, hts⟩ (kX4_add l D T Z (AD 9) ch len kd q (tn x) (by omega) (by omega)) (cwV 1 hts gX5_append_X4_add rfl rfl rfl (by decide +kernel) ⟨Nat.le_of_ble_eq_true rfl, Nat.le_of_ble_eq_true rfl⟩) hK hN hM hP hD hS hA [1, 2, 3] rfl rfl rfl rfl rfl rfl hl.1 rfl (Nat.le_of_ble_eq_true rfl) dX5_append_21 ⟨Nat.zero_le _, Nat.zero_le _⟩ (fun H locs hP hD hS => ?_)
      exact fr_iret hx hb hr hlk hP hS (by simp only [e_4r, ↓reduceIte, Bool.false_eq_true, bI_true, bI_false, Bool.true_and, Bool.and_true, Bool.and_false, Bool.false_and, Bool.not_true, Bool.not_false, Bool.or_true, Bool.true_or, Bool.or_false, Bool.false_or] <;> rfl) (by simp only [e_4r, ↓reduceIte, Bool.false_eq_true, bI_true, bI_false, Bool.true_and, Bool.and_true, Bool.and_false, Bool.false_and, Bool.not_true, Bool.not_false, Bool.or_true, Bool.true_or, Bool.or_false, Bool.false_or] <;> rfl) dX5_append_24
    · have c_3' := Int32.not_le.mp c_3
      have e_5r : inn x (nI 32) (nI 126) = false := inn_hi c_3
      refine lv_bipush (v := (-2)) hx hb dX5_append_12 (by decide) ?_
      exact fr_iret hx hb hr hlk hP hS (by simp only [e_5r, ↓reduceIte, Bool.false_eq_true, bI_true, bI_false, Bool.true_and, Bool.and_true, Bool.and_false, Bool.false_and, Bool.not_true, Bool.not_false, Bool.or_true, Bool.true_or, Bool.or_false, Bool.false_or] <;> rfl) (by simp only [e_5r, ↓reduceIte, Bool.false_eq_true, bI_true, bI_false, Bool.true_and, Bool.and_true, Bool.and_false, Bool.false_and, Bool.not_true, Bool.not_false, Bool.or_true, Bool.true_or, Bool.or_false, Bool.false_or] <;> rfl) dX5_append_14
