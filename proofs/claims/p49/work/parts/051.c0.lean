
set_option maxHeartbeats 8000000 in
set_option maxRecDepth 100000 in
theorem kX0_isPoisoned (l : Launch) (D : va_G) (T : Nat → ClassId) (Z : ZZ) (a0 : Nat) (a1 : Nat) (a2 : Nat) (a3 : Nat) (n : Nat) (v : Nat → Int32) (o : Nat → Int32) (h : Nat → Int32) (k : Nat) (hk : k < n) (hn : n < 2 ^ 31) : CtI l D T Z yX0_isPoisoned wsX0_isPoisoned ({ frames := 0, cells := 0, slots := 0, locals := 0 }) [[(a0, .inr (0, [.ref a1, .ref a2, .ref a3]))], [(a1, .inl (T 0, n, .inl (v)))], [(a2, .inl (T 0, n, .inl (o)))], [(a3, .inl (T 0, n, .inl (h)))]] [.ref a0, .int (nI (k))] (bI (ps (o k))) [[(a0, .inr (0, [.ref a1, .ref a2, .ref a3]))], [(a1, .inl (T 0, n, .inl (v)))], [(a2, .inl (T 0, n, .inl (o)))], [(a3, .inl (T 0, n, .inl (h)))]] := by
  refine CtI.of (cc := cX0_isPoisoned) (maxL := 2) (ret := (some .boolean)) (plainFor_of_name (by decide)) rfl rfl ?_
  intro pP eE s mM bW mE cC A hE hK hN hM hP hD hA
  obtain ⟨hx, hb, hr, hts, hown, hml, hlk⟩ := hE
  have hown : s.vm.findClass RX0 = some mM.cls := hown
  have hS : va_S A s.heap s.heap [] := va_S.rf
  have hl := lv_entry ([.ref a0, .int (nI (k))]) (n := 2) (Nat.le_of_ble_eq_true rfl)
  rw [lg_entry_eq]
  generalize (lg_sl ([.ref a0, .int (nI (k))]) ++ List.replicate (2 - (lg_sl ([.ref a0, .int (nI (k))])).length) Slot.unset).toArray = ls at hl ⊢
  have hl : lv_has ls 2 [(0, .ref a0), (1, .int (nI (k)))] := hl
  have w_15 := hts (.fieldLink RX0 15 "PoisonedMemory$Cells" "origins" "[I") (by decide +kernel)
  have hinX0 : ∀ w ∈ wsX00, w ∈ wsX0_isPoisoned := by decide +kernel
  refine lv_aload_n hx hb dX0_isPoisoned_0 rfl (lv_at hl 0 rfl) ?_
  refine va_get (D := D) (ci := 0) (v := .ref a2) (C := RX0) (T := TX0) (N := 3) hx hb hts hinX0 hown hK (hP.at 0 rfl) 0 rfl rfl 1 (by decide) w_15 (fun _ h9 => h9) rfl dX0_isPoisoned_1 ?_
  refine lv_iload_n hx hb dX0_isPoisoned_4 rfl (lv_at hl 1 rfl) ?_
  refine fr_iald hx hb hK hP 2 (k) rfl (by omega) (by omega) dX0_isPoisoned_5 ?_
  refine lv_bipush (v := (-6)) hx hb dX0_isPoisoned_6 (by decide) ?_
  refine lv_icmp_eq (tgt := 15) hx hb dX0_isPoisoned_8 (by decide) (fun c_1 => ?_) (fun c_1 => ?_)
  · refine lv_iconst (v := nI 0) hx hb dX0_isPoisoned_15 (by decide) ?_
    exact fr_zret hx hb hr hlk hP hS (by first | rfl | (simp only [ps, bI, c_1, ↓reduceIte, Bool.false_eq_true, bI_true, bI_false, Bool.true_and, Bool.and_true, Bool.and_false, Bool.false_and, Bool.not_true, Bool.not_false, Bool.or_true, Bool.true_or, Bool.or_false, Bool.false_or] <;> rfl) | (simp [ps, bI, c_1, bI]; done)) rfl rfl dX0_isPoisoned_16
  · refine lv_iconst (v := nI 1) hx hb dX0_isPoisoned_11 (by decide) ?_
    refine lv_goto (tgt := 16) hx hb dX0_isPoisoned_12 (by decide) ?_
    exact fr_zret hx hb hr hlk hP hS (by first | rfl | (simp only [ps, bI, c_1, ↓reduceIte, Bool.false_eq_true, bI_true, bI_false, Bool.true_and, Bool.and_true, Bool.and_false, Bool.false_and, Bool.not_true, Bool.not_false, Bool.or_true, Bool.true_or, Bool.or_false, Bool.false_or] <;> rfl) | (simp [ps, bI, c_1, bI]; done)) rfl rfl dX0_isPoisoned_16

set_option maxHeartbeats 8000000 in
set_option maxRecDepth 100000 in
theorem kX0_setMark (l : Launch) (D : va_G) (T : Nat → ClassId) (Z : ZZ) (a0 : Nat) (a1 : Nat) (a2 : Nat) (a3 : Nat) (n : Nat) (v : Nat → Int32) (o : Nat → Int32) (h : Nat → Int32) (k : Nat) (x : Int32) (y : Int32) (hk : k < n) (hn : n < 2 ^ 31) : CtV l D T Z yX0_setMark wsX0_setMark ({ frames := 0, cells := 0, slots := 0, locals := 0 }) [[(a0, .inr (0, [.ref a1, .ref a2, .ref a3]))], [(a1, .inl (T 0, n, .inl (v)))], [(a2, .inl (T 0, n, .inl (o)))], [(a3, .inl (T 0, n, .inl (h)))]] [.ref a0, .int (nI (k)), .int (x), .int (y)] [[(a0, .inr (0, [.ref a1, .ref a2, .ref a3]))], [(a1, .inl (T 0, n, .inl (v)))], [(a2, .inl (T 0, n, .inl (upd o k x)))], [(a3, .inl (T 0, n, .inl (upd h k y)))]] := by
  refine CtV.of (cc := cX0_setMark) (maxL := 4) (ret := none) (plainFor_of_name (by decide)) rfl rfl ?_
  intro pP eE s mM bW mE cC A hE hK hN hM hP hD hA
  obtain ⟨hx, hb, hr, hts, hown, hml, hlk⟩ := hE
  have hown : s.vm.findClass RX0 = some mM.cls := hown
  have hS : va_S A s.heap s.heap [] := va_S.rf
  have hl := lv_entry ([.ref a0, .int (nI (k)), .int (x), .int (y)]) (n := 4) (Nat.le_of_ble_eq_true rfl)
  rw [lg_entry_eq]
  generalize (lg_sl ([.ref a0, .int (nI (k)), .int (x), .int (y)]) ++ List.replicate (4 - (lg_sl ([.ref a0, .int (nI (k)), .int (x), .int (y)])).length) Slot.unset).toArray = ls at hl ⊢
  have hl : lv_has ls 4 [(0, .ref a0), (1, .int (nI (k))), (2, .int (x)), (3, .int (y))] := hl
  have w_15 := hts (.fieldLink RX0 15 "PoisonedMemory$Cells" "origins" "[I") (by decide +kernel)
  have hinX0 : ∀ w ∈ wsX00, w ∈ wsX0_setMark := by decide +kernel
  have w_18 := hts (.fieldLink RX0 18 "PoisonedMemory$Cells" "hops" "[I") (by decide +kernel)
  refine lv_aload_n hx hb dX0_setMark_0 rfl (lv_at hl 0 rfl) ?_
  refine va_get (D := D) (ci := 0) (v := .ref a2) (C := RX0) (T := TX0) (N := 3) hx hb hts hinX0 hown hK (hP.at 0 rfl) 0 rfl rfl 1 (by decide) w_15 (fun _ h9 => h9) rfl dX0_setMark_1 ?_
  refine lv_iload_n hx hb dX0_setMark_4 rfl (lv_at hl 1 rfl) ?_
  refine lv_iload_n hx hb dX0_setMark_5 rfl (lv_at hl 2 rfl) ?_
  refine fr_iast (fs' := [[(a0, .inr (0, [.ref a1, .ref a2, .ref a3]))], [(a1, .inl (T 0, n, .inl (v)))], [(a2, .inl (T 0, n, .inl (upd o k x)))], [(a3, .inl (T 0, n, .inl (h)))]]) hx hb hK hP hD hS 2 (k) rfl rfl (by omega) (by omega) dX0_setMark_6 (fun H locs hP hD hS => ?_)
  refine lv_aload_n hx hb dX0_setMark_7 rfl (lv_at hl 0 rfl) ?_
  refine va_get (D := D) (ci := 0) (v := .ref a3) (C := RX0) (T := TX0) (N := 3) hx hb hts hinX0 hown hK (hP.at 0 rfl) 0 rfl rfl 2 (by decide) w_18 (fun _ h9 => h9) rfl dX0_setMark_8 ?_
  refine lv_iload_n hx hb dX0_setMark_11 rfl (lv_at hl 1 rfl) ?_
  refine lv_iload_n hx hb dX0_setMark_12 rfl (lv_at hl 3 rfl) ?_
  refine fr_iast (fs' := [[(a0, .inr (0, [.ref a1, .ref a2, .ref a3]))], [(a1, .inl (T 0, n, .inl (v)))], [(a2, .inl (T 0, n, .inl (upd o k x)))], [(a3, .inl (T 0, n, .inl (upd h k y)))]]) hx hb hK hP hD hS 3 (k) rfl rfl (by omega) (by omega) dX0_setMark_13 (fun H locs hP hD hS => ?_)
  exact fr_vret hx hb hr hlk hP hS rfl dX0_setMark_14

set_option maxHeartbeats 8000000 in
set_option maxRecDepth 100000 in
theorem kX0_setClean (l : Launch) (D : va_G) (T : Nat → ClassId) (Z : ZZ) (a0 : Nat) (a1 : Nat) (a2 : Nat) (a3 : Nat) (n : Nat) (v : Nat → Int32) (o : Nat → Int32) (h : Nat → Int32) (k : Nat) (x : Int32) (hk : k < n) (hn : n < 2 ^ 31) : CtV l D T Z yX0_setClean wsX0_setClean ({ frames := 1, cells := 0, slots := 0, locals := 23 }) [[(a0, .inr (0, [.ref a1, .ref a2, .ref a3]))], [(a1, .inl (T 0, n, .inl (v)))], [(a2, .inl (T 0, n, .inl (o)))], [(a3, .inl (T 0, n, .inl (h)))]] [.ref a0, .int (nI (k)), .int (x)] [[(a0, .inr (0, [.ref a1, .ref a2, .ref a3]))], [(a1, .inl (T 0, n, .inl (upd v k x)))], [(a2, .inl (T 0, n, .inl (upd o k (-6))))], [(a3, .inl (T 0, n, .inl (upd h k (-6))))]] := by
  refine CtV.of (cc := cX0_setClean) (maxL := 3) (ret := none) (plainFor_of_name (by decide)) rfl rfl ?_
  intro pP eE s mM bW mE cC A hE hK hN hM hP hD hA
  obtain ⟨hx, hb, hr, hts, hown, hml, hlk⟩ := hE
  have hown : s.vm.findClass RX0 = some mM.cls := hown
  have hS : va_S A s.heap s.heap [] := va_S.rf
  have hl := lv_entry ([.ref a0, .int (nI (k)), .int (x)]) (n := 3) (Nat.le_of_ble_eq_true rfl)
  rw [lg_entry_eq]
  generalize (lg_sl ([.ref a0, .int (nI (k)), .int (x)]) ++ List.replicate (3 - (lg_sl ([.ref a0, .int (nI (k)), .int (x)])).length) Slot.unset).toArray = ls at hl ⊢
  have hl : lv_has ls 3 [(0, .ref a0), (1, .int (nI (k))), (2, .int (x))] := hl
  have w_9 := hts (.fieldLink RX0 9 "PoisonedMemory$Cells" "values" "[I") (by decide +kernel)
  have hinX0 : ∀ w ∈ wsX00, w ∈ wsX0_setClean := by decide +kernel
  refine lv_aload_n hx hb dX0_setClean_0 rfl (lv_at hl 0 rfl) ?_
  refine va_get (D := D) (ci := 0) (v := .ref a1) (C := RX0) (T := TX0) (N := 3) hx hb hts hinX0 hown hK (hP.at 0 rfl) 0 rfl rfl 0 (by decide) w_9 (fun _ h9 => h9) rfl dX0_setClean_1 ?_
  refine lv_iload_n hx hb dX0_setClean_4 rfl (lv_at hl 1 rfl) ?_
  refine lv_iload_n hx hb dX0_setClean_5 rfl (lv_at hl 2 rfl) ?_
  refine fr_iast (fs' := [[(a0, .inr (0, [.ref a1, .ref a2, .ref a3]))], [(a1, .inl (T 0, n, .inl (upd v k x)))], [(a2, .inl (T 0, n, .inl (o)))], [(a3, .inl (T 0, n, .inl (h)))]]) hx hb hK hP hD hS 1 (k) rfl rfl (by omega) (by omega) dX0_setClean_6 (fun H locs hP hD hS => ?_)
  refine lv_aload_n hx hb dX0_setClean_7 rfl (lv_at hl 0 rfl) ?_
  refine lv_iload_n hx hb dX0_setClean_8 rfl (lv_at hl 1 rfl) ?_
  refine lv_bipush (v := (-6)) hx hb dX0_setClean_9 (by decide) ?_
  refine lv_bipush (v := (-6)) hx hb dX0_setClean_11 (by decide) ?_
  refine fr_Vv (As := [.int (nI (k)), .int ((-6)), .int ((-6))]) (rest := []) (fs' := [[(a0, .inr (0, [.ref a1, .ref a2, .ref a3]))], [(a1, .inl (T 0, n, .inl (upd v k x)))], [(a2, .inl (T 0, n, .inl (upd o k (-6))))], [(a3, .inl (T 0, n, .inl (upd h k (-6))))]]) (ci := 0) (q0 := (RX0, TX0, 3)) (i0 := 0) ⟨hx, hb, hml, hown, hts⟩ (kX0_setMark l D T Z a0 a1 a2 a3 n (upd v k x) o h k (-6) (-6) (by omega) (by omega)) (cwV 3 hts gX0_setClean_X0_setMark rfl rfl rfl (by decide +kernel) ⟨Nat.le_of_ble_eq_true rfl, Nat.le_of_ble_eq_true rfl⟩) hK hN hM hP hD hS hA [0, 1, 2, 3] rfl rfl rfl rfl rfl rfl hl.1 rfl (Nat.le_of_ble_eq_true rfl) dX0_setClean_13 ⟨Nat.zero_le _, Nat.zero_le _⟩ (fun H locs hP hD hS => ?_)
  exact fr_vret hx hb hr hlk hP hS rfl dX0_setClean_16

set_option maxHeartbeats 8000000 in
set_option maxRecDepth 100000 in
theorem kX0_setEqual (l : Launch) (D : va_G) (T : Nat → ClassId) (Z : ZZ) (a0 : Nat) (a1 : Nat) (a2 : Nat) (a3 : Nat) (n : Nat) (v : Nat → Int32) (o : Nat → Int32) (h : Nat → Int32) (b0 : Nat) (b1 : Nat) (b2 : Nat) (b3 : Nat) (n2 : Nat) (v2 : Nat → Int32) (o2 : Nat → Int32) (h2 : Nat → Int32) (k : Nat) (j : Nat) (hk : k < n) (hn : n < 2 ^ 31) (hj : j < n2) (hn2 : n2 < 2 ^ 31) : CtV l D T Z yX0_setEqual wsX0_setEqual ({ frames := 1, cells := 0, slots := 0, locals := 23 }) [[(a0, .inr (0, [.ref a1, .ref a2, .ref a3]))], [(a1, .inl (T 0, n, .inl (v)))], [(a2, .inl (T 0, n, .inl (o)))], [(a3, .inl (T 0, n, .inl (h)))], [(b0, .inr (0, [.ref b1, .ref b2, .ref b3]))], [(b1, .inl (T 0, n2, .inl (v2)))], [(b2, .inl (T 0, n2, .inl (o2)))], [(b3, .inl (T 0, n2, .inl (h2)))]] [.ref a0, .int (nI (k)), .ref b0, .int (nI (j))] [[(a0, .inr (0, [.ref a1, .ref a2, .ref a3]))], [(a1, .inl (T 0, n, .inl (upd v k (v2 j))))], [(a2, .inl (T 0, n, .inl (upd o k (o2 j))))], [(a3, .inl (T 0, n, .inl (upd h k (h2 j))))], [(b0, .inr (0, [.ref b1, .ref b2, .ref b3]))], [(b1, .inl (T 0, n2, .inl (v2)))], [(b2, .inl (T 0, n2, .inl (o2)))], [(b3, .inl (T 0, n2, .inl (h2)))]] := by
  refine CtV.of (cc := cX0_setEqual) (maxL := 4) (ret := none) (plainFor_of_name (by decide)) rfl rfl ?_
  intro pP eE s mM bW mE cC A hE hK hN hM hP hD hA
  obtain ⟨hx, hb, hr, hts, hown, hml, hlk⟩ := hE
  have hown : s.vm.findClass RX0 = some mM.cls := hown
  have hS : va_S A s.heap s.heap [] := va_S.rf
  have hl := lv_entry ([.ref a0, .int (nI (k)), .ref b0, .int (nI (j))]) (n := 4) (Nat.le_of_ble_eq_true rfl)
  rw [lg_entry_eq]
  generalize (lg_sl ([.ref a0, .int (nI (k)), .ref b0, .int (nI (j))]) ++ List.replicate (4 - (lg_sl ([.ref a0, .int (nI (k)), .ref b0, .int (nI (j))])).length) Slot.unset).toArray = ls at hl ⊢
  have hl : lv_has ls 4 [(0, .ref a0), (1, .int (nI (k))), (2, .ref b0), (3, .int (nI (j)))] := hl
  have w_9 := hts (.fieldLink RX0 9 "PoisonedMemory$Cells" "values" "[I") (by decide +kernel)
  have hinX0 : ∀ w ∈ wsX00, w ∈ wsX0_setEqual := by decide +kernel
  have w_15 := hts (.fieldLink RX0 15 "PoisonedMemory$Cells" "origins" "[I") (by decide +kernel)
  have w_18 := hts (.fieldLink RX0 18 "PoisonedMemory$Cells" "hops" "[I") (by decide +kernel)
  refine lv_aload_n hx hb dX0_setEqual_0 rfl (lv_at hl 0 rfl) ?_
  refine va_get (D := D) (ci := 0) (v := .ref a1) (C := RX0) (T := TX0) (N := 3) hx hb hts hinX0 hown hK (hP.at 0 rfl) 0 rfl rfl 0 (by decide) w_9 (fun _ h9 => h9) rfl dX0_setEqual_1 ?_
  refine lv_iload_n hx hb dX0_setEqual_4 rfl (lv_at hl 1 rfl) ?_
  refine lv_aload_n hx hb dX0_setEqual_5 rfl (lv_at hl 2 rfl) ?_
  refine va_get (D := D) (ci := 0) (v := .ref b1) (C := RX0) (T := TX0) (N := 3) hx hb hts hinX0 hown hK (hP.at 4 rfl) 0 rfl rfl 0 (by decide) w_9 (fun _ h9 => h9) rfl dX0_setEqual_6 ?_
  refine lv_iload_n hx hb dX0_setEqual_9 rfl (lv_at hl 3 rfl) ?_
  refine fr_iald hx hb hK hP 5 (j) rfl (by omega) (by omega) dX0_setEqual_10 ?_
  refine fr_iast (fs' := [[(a0, .inr (0, [.ref a1, .ref a2, .ref a3]))], [(a1, .inl (T 0, n, .inl (upd v k (v2 j))))], [(a2, .inl (T 0, n, .inl (o)))], [(a3, .inl (T 0, n, .inl (h)))], [(b0, .inr (0, [.ref b1, .ref b2, .ref b3]))], [(b1, .inl (T 0, n2, .inl (v2)))], [(b2, .inl (T 0, n2, .inl (o2)))], [(b3, .inl (T 0, n2, .inl (h2)))]]) hx hb hK hP hD hS 1 (k) rfl rfl (by omega) (by omega) dX0_setEqual_11 (fun H locs hP hD hS => ?_)
  refine lv_aload_n hx hb dX0_setEqual_12 rfl (lv_at hl 0 rfl) ?_
  refine lv_iload_n hx hb dX0_setEqual_13 rfl (lv_at hl 1 rfl) ?_
  refine lv_aload_n hx hb dX0_setEqual_14 rfl (lv_at hl 2 rfl) ?_
  refine va_get (D := D) (ci := 0) (v := .ref b2) (C := RX0) (T := TX0) (N := 3) hx hb hts hinX0 hown hK (hP.at 4 rfl) 0 rfl rfl 1 (by decide) w_15 (fun _ h9 => h9) rfl dX0_setEqual_15 ?_
  refine lv_iload_n hx hb dX0_setEqual_18 rfl (lv_at hl 3 rfl) ?_
  refine fr_iald hx hb hK hP 6 (j) rfl (by omega) (by omega) dX0_setEqual_19 ?_
  refine lv_aload_n hx hb dX0_setEqual_20 rfl (lv_at hl 2 rfl) ?_
  refine va_get (D := D) (ci := 0) (v := .ref b3) (C := RX0) (T := TX0) (N := 3) hx hb hts hinX0 hown hK (hP.at 4 rfl) 0 rfl rfl 2 (by decide) w_18 (fun _ h9 => h9) rfl dX0_setEqual_21 ?_
  refine lv_iload_n hx hb dX0_setEqual_24 rfl (lv_at hl 3 rfl) ?_
  refine fr_iald hx hb hK hP 7 (j) rfl (by omega) (by omega) dX0_setEqual_25 ?_
  refine fr_Vv (As := [.int (nI (k)), .int (o2 j), .int (h2 j)]) (rest := []) (fs' := [[(a0, .inr (0, [.ref a1, .ref a2, .ref a3]))], [(a1, .inl (T 0, n, .inl (upd v k (v2 j))))], [(a2, .inl (T 0, n, .inl (upd o k (o2 j))))], [(a3, .inl (T 0, n, .inl (upd h k (h2 j))))], [(b0, .inr (0, [.ref b1, .ref b2, .ref b3]))], [(b1, .inl (T 0, n2, .inl (v2)))], [(b2, .inl (T 0, n2, .inl (o2)))], [(b3, .inl (T 0, n2, .inl (h2)))]]) (ci := 0) (q0 := (RX0, TX0, 3)) (i0 := 0) ⟨hx, hb, hml, hown, hts⟩ (kX0_setMark l D T Z a0 a1 a2 a3 n (upd v k (v2 j)) o h k (o2 j) (h2 j) (by omega) (by omega)) (cwV 3 hts gX0_setEqual_X0_setMark rfl rfl rfl (by decide +kernel) ⟨Nat.le_of_ble_eq_true rfl, Nat.le_of_ble_eq_true rfl⟩) hK hN hM hP hD hS hA [0, 1, 2, 3] rfl rfl rfl rfl rfl rfl hl.1 rfl (Nat.le_of_ble_eq_true rfl) dX0_setEqual_26 ⟨Nat.zero_le _, Nat.zero_le _⟩ (fun H locs hP hD hS => ?_)
  exact fr_vret hx hb hr hlk hP hS rfl dX0_setEqual_29

set_option maxHeartbeats 8000000 in
set_option maxRecDepth 100000 in
theorem kX0_copyMark (l : Launch) (D : va_G) (T : Nat → ClassId) (Z : ZZ) (a0 : Nat) (a1 : Nat) (a2 : Nat) (a3 : Nat) (n : Nat) (v : Nat → Int32) (o : Nat → Int32) (h : Nat → Int32) (b0 : Nat) (b1 : Nat) (b2 : Nat) (b3 : Nat) (n2 : Nat) (v2 : Nat → Int32) (o2 : Nat → Int32) (h2 : Nat → Int32) (k : Nat) (j : Nat) (hk : k < n) (hn : n < 2 ^ 31) (hj : j < n2) (hn2 : n2 < 2 ^ 31) : CtV l D T Z yX0_copyMark wsX0_copyMark ({ frames := 1, cells := 0, slots := 0, locals := 23 }) [[(a0, .inr (0, [.ref a1, .ref a2, .ref a3]))], [(a1, .inl (T 0, n, .inl (v)))], [(a2, .inl (T 0, n, .inl (o)))], [(a3, .inl (T 0, n, .inl (h)))], [(b0, .inr (0, [.ref b1, .ref b2, .ref b3]))], [(b1, .inl (T 0, n2, .inl (v2)))], [(b2, .inl (T 0, n2, .inl (o2)))], [(b3, .inl (T 0, n2, .inl (h2)))]] [.ref a0, .int (nI (k)), .ref b0, .int (nI (j))] [[(a0, .inr (0, [.ref a1, .ref a2, .ref a3]))], [(a1, .inl (T 0, n, .inl (v)))], [(a2, .inl (T 0, n, .inl (upd o k (o2 j))))], [(a3, .inl (T 0, n, .inl (upd h k (hp (o2 j) (h2 j)))))], [(b0, .inr (0, [.ref b1, .ref b2, .ref b3]))], [(b1, .inl (T 0, n2, .inl (v2)))], [(b2, .inl (T 0, n2, .inl (o2)))], [(b3, .inl (T 0, n2, .inl (h2)))]] := by
  refine CtV.of (cc := cX0_copyMark) (maxL := 4) (ret := none) (plainFor_of_name (by decide)) rfl rfl ?_
  intro pP eE s mM bW mE cC A hE hK hN hM hP hD hA
  obtain ⟨hx, hb, hr, hts, hown, hml, hlk⟩ := hE
  have hown : s.vm.findClass RX0 = some mM.cls := hown
  have hS : va_S A s.heap s.heap [] := va_S.rf
  have hl := lv_entry ([.ref a0, .int (nI (k)), .ref b0, .int (nI (j))]) (n := 4) (Nat.le_of_ble_eq_true rfl)
  rw [lg_entry_eq]
  generalize (lg_sl ([.ref a0, .int (nI (k)), .ref b0, .int (nI (j))]) ++ List.replicate (4 - (lg_sl ([.ref a0, .int (nI (k)), .ref b0, .int (nI (j))])).length) Slot.unset).toArray = ls at hl ⊢
  have hl : lv_has ls 4 [(0, .ref a0), (1, .int (nI (k))), (2, .ref b0), (3, .int (nI (j)))] := hl
  have w_15 := hts (.fieldLink RX0 15 "PoisonedMemory$Cells" "origins" "[I") (by decide +kernel)
  have hinX0 : ∀ w ∈ wsX00, w ∈ wsX0_copyMark := by decide +kernel
  have w_18 := hts (.fieldLink RX0 18 "PoisonedMemory$Cells" "hops" "[I") (by decide +kernel)
  have w_35 := hts (.methodLink RX0 35 Lib.Math.min.name) (by decide +kernel)
  have w_35st := hts (.static Lib.Math.min.name) (by decide +kernel)
  have w_mathini := hts (.initialized "java/lang/Math") (by decide +kernel)
  have w_35co := hts (.code Lib.Math.min.name Lib.Math.min.code 2 (some .int)) (by decide +kernel)
  refine lv_aload_n hx hb dX0_copyMark_0 rfl (lv_at hl 2 rfl) ?_
  refine lv_iload_n hx hb dX0_copyMark_1 rfl (lv_at hl 3 rfl) ?_
  refine fr_Vi (As := [.int (nI (j))]) (rest := []) (fs' := [[(a0, .inr (0, [.ref a1, .ref a2, .ref a3]))], [(a1, .inl (T 0, n, .inl (v)))], [(a2, .inl (T 0, n, .inl (o)))], [(a3, .inl (T 0, n, .inl (h)))], [(b0, .inr (0, [.ref b1, .ref b2, .ref b3]))], [(b1, .inl (T 0, n2, .inl (v2)))], [(b2, .inl (T 0, n2, .inl (o2)))], [(b3, .inl (T 0, n2, .inl (h2)))]]) (ci := 0) (q0 := (RX0, TX0, 3)) (i0 := 4) ⟨hx, hb, hml, hown, hts⟩ (kX0_isPoisoned l D T Z b0 b1 b2 b3 n2 v2 o2 h2 j (by omega) (by omega)) (cwV 1 hts gX0_copyMark_X0_isPoisoned rfl rfl rfl (by decide +kernel) ⟨Nat.le_of_ble_eq_true rfl, Nat.le_of_ble_eq_true rfl⟩) hK hN hM hP hD hS hA [4, 5, 6, 7] rfl rfl rfl rfl rfl rfl hl.1 rfl (Nat.le_of_ble_eq_true rfl) dX0_copyMark_2 ⟨Nat.zero_le _, Nat.zero_le _⟩ (fun H locs hP hD hS => ?_)
  refine fr_ifeq_b (tgt := 35) hx hb dX0_copyMark_5 (by decide) (fun c_1 => ?_) (fun c_1 => ?_)
  · refine lv_aload_n hx hb dX0_copyMark_35 rfl (lv_at hl 0 rfl) ?_
    refine lv_iload_n hx hb dX0_copyMark_36 rfl (lv_at hl 1 rfl) ?_
    refine lv_bipush (v := (-6)) hx hb dX0_copyMark_37 (by decide) ?_
    refine lv_bipush (v := (-6)) hx hb dX0_copyMark_39 (by decide) ?_
    refine fr_Vv (As := [.int (nI (k)), .int ((-6)), .int ((-6))]) (rest := []) (fs' := [[(a0, .inr (0, [.ref a1, .ref a2, .ref a3]))], [(a1, .inl (T 0, n, .inl (v)))], [(a2, .inl (T 0, n, .inl (upd o k (-6))))], [(a3, .inl (T 0, n, .inl (upd h k (-6))))], [(b0, .inr (0, [.ref b1, .ref b2, .ref b3]))], [(b1, .inl (T 0, n2, .inl (v2)))], [(b2, .inl (T 0, n2, .inl (o2)))], [(b3, .inl (T 0, n2, .inl (h2)))]]) (ci := 0) (q0 := (RX0, TX0, 3)) (i0 := 0) ⟨hx, hb, hml, hown, hts⟩ (kX0_setMark l D T Z a0 a1 a2 a3 n v o h k (-6) (-6) (by omega) (by omega)) (cwV 3 hts gX0_copyMark_X0_setMark rfl rfl rfl (by decide +kernel) ⟨Nat.le_of_ble_eq_true rfl, Nat.le_of_ble_eq_true rfl⟩) hK hN hM hP hD hS hA [0, 1, 2, 3] rfl rfl rfl rfl rfl rfl hl.1 rfl (Nat.le_of_ble_eq_true rfl) dX0_copyMark_41 ⟨Nat.zero_le _, Nat.zero_le _⟩ (fun H locs hP hD hS => ?_)
    exact fr_vret hx hb hr hlk hP hS (by rw [show hp _ _ = -6 from by simp only [hp, c_1, Bool.false_eq_true, ↓reduceIte], ps_f c_1]) dX0_copyMark_44
  · refine lv_aload_n hx hb dX0_copyMark_8 rfl (lv_at hl 0 rfl) ?_
    refine lv_iload_n hx hb dX0_copyMark_9 rfl (lv_at hl 1 rfl) ?_
    refine lv_aload_n hx hb dX0_copyMark_10 rfl (lv_at hl 2 rfl) ?_
    refine va_get (D := D) (ci := 0) (v := .ref b2) (C := RX0) (T := TX0) (N := 3) hx hb hts hinX0 hown hK (hP.at 4 rfl) 0 rfl rfl 1 (by decide) w_15 (fun _ h9 => h9) rfl dX0_copyMark_11 ?_
    refine lv_iload_n hx hb dX0_copyMark_14 rfl (lv_at hl 3 rfl) ?_
    refine fr_iald hx hb hK hP 6 (j) rfl (by omega) (by omega) dX0_copyMark_15 ?_
    refine lv_aload_n hx hb dX0_copyMark_16 rfl (lv_at hl 2 rfl) ?_
    refine va_get (D := D) (ci := 0) (v := .ref b3) (C := RX0) (T := TX0) (N := 3) hx hb hts hinX0 hown hK (hP.at 4 rfl) 0 rfl rfl 2 (by decide) w_18 (fun _ h9 => h9) rfl dX0_copyMark_17 ?_
    refine lv_iload_n hx hb dX0_copyMark_20 rfl (lv_at hl 3 rfl) ?_
    refine fr_iald hx hb hK hP 7 (j) rfl (by omega) (by omega) dX0_copyMark_21 ?_
    refine lv_iconst (v := nI 1) hx hb dX0_copyMark_22 (by decide) ?_
    refine lv_iadd hx hb dX0_copyMark_23 ?_
    refine lv_bipush (v := nI 99) hx hb dX0_copyMark_24 (by decide) ?_
    refine va_mmin hx hb (hml.trans hl.1.symm) hown w_35 w_35st w_mathini w_35co (Nat.le_of_ble_eq_true rfl) (Nat.le_of_ble_eq_true rfl) (Nat.zero_le _) (Nat.zero_le _) dX0_copyMark_26 ?_
    refine fr_Vv (As := [.int (nI (k)), .int (o2 j), .int (if nI 99 < (h2 j) + (nI 1) then nI 99 else (h2 j) + (nI 1))]) (rest := []) (fs' := [[(a0, .inr (0, [.ref a1, .ref a2, .ref a3]))], [(a1, .inl (T 0, n, .inl (v)))], [(a2, .inl (T 0, n, .inl (upd o k (o2 j))))], [(a3, .inl (T 0, n, .inl (upd h k (if nI 99 < (h2 j) + (nI 1) then nI 99 else (h2 j) + (nI 1)))))], [(b0, .inr (0, [.ref b1, .ref b2, .ref b3]))], [(b1, .inl (T 0, n2, .inl (v2)))], [(b2, .inl (T 0, n2, .inl (o2)))], [(b3, .inl (T 0, n2, .inl (h2)))]]) (ci := 0) (q0 := (RX0, TX0, 3)) (i0 := 0) ⟨hx, hb, hml, hown, hts⟩ (kX0_setMark l D T Z a0 a1 a2 a3 n v o h k (o2 j) (if nI 99 < (h2 j) + (nI 1) then nI 99 else (h2 j) + (nI 1)) (by omega) (by omega)) (cwV 3 hts gX0_copyMark_X0_setMark rfl rfl rfl (by decide +kernel) ⟨Nat.le_of_ble_eq_true rfl, Nat.le_of_ble_eq_true rfl⟩) hK hN hM hP hD hS hA [0, 1, 2, 3] rfl rfl rfl rfl rfl rfl hl.1 rfl (Nat.le_of_ble_eq_true rfl) dX0_copyMark_29 ⟨Nat.zero_le _, Nat.zero_le _⟩ (fun H locs hP hD hS => ?_)
    refine lv_goto (tgt := 44) hx hb dX0_copyMark_32 (by decide) ?_
    exact fr_vret hx hb hr hlk hP hS (by simp only [hp, c_1, ↓reduceIte] <;> rfl) dX0_copyMark_44

set_option maxHeartbeats 8000000 in
set_option maxRecDepth 100000 in
theorem kX0_copyMark_s (l : Launch) (D : va_G) (T : Nat → ClassId) (Z : ZZ) (a0 : Nat) (a1 : Nat) (a2 : Nat) (a3 : Nat) (n : Nat) (v : Nat → Int32) (o : Nat → Int32) (h : Nat → Int32) (k : Nat) (j : Nat) (hk : k < n) (hn : n < 2 ^ 31) (hj : j < n) : CtV l D T Z yX0_copyMark wsX0_copyMark ({ frames := 1, cells := 0, slots := 0, locals := 23 }) [[(a0, .inr (0, [.ref a1, .ref a2, .ref a3]))], [(a1, .inl (T 0, n, .inl (v)))], [(a2, .inl (T 0, n, .inl (o)))], [(a3, .inl (T 0, n, .inl (h)))]] [.ref a0, .int (nI (k)), .ref a0, .int (nI (j))] [[(a0, .inr (0, [.ref a1, .ref a2, .ref a3]))], [(a1, .inl (T 0, n, .inl (v)))], [(a2, .inl (T 0, n, .inl (upd o k (o j))))], [(a3, .inl (T 0, n, .inl (upd h k (hp (o j) (h j)))))]] := by
  refine CtV.of (cc := cX0_copyMark) (maxL := 4) (ret := none) (plainFor_of_name (by decide)) rfl rfl ?_
  intro pP eE s mM bW mE cC A hE hK hN hM hP hD hA
  obtain ⟨hx, hb, hr, hts, hown, hml, hlk⟩ := hE
  have hown : s.vm.findClass RX0 = some mM.cls := hown
  have hS : va_S A s.heap s.heap [] := va_S.rf
  have hl := lv_entry ([.ref a0, .int (nI (k)), .ref a0, .int (nI (j))]) (n := 4) (Nat.le_of_ble_eq_true rfl)
  rw [lg_entry_eq]
  generalize (lg_sl ([.ref a0, .int (nI (k)), .ref a0, .int (nI (j))]) ++ List.replicate (4 - (lg_sl ([.ref a0, .int (nI (k)), .ref a0, .int (nI (j))])).length) Slot.unset).toArray = ls at hl ⊢
  have hl : lv_has ls 4 [(0, .ref a0), (1, .int (nI (k))), (2, .ref a0), (3, .int (nI (j)))] := hl
  have w_15 := hts (.fieldLink RX0 15 "PoisonedMemory$Cells" "origins" "[I") (by decide +kernel)
  have hinX0 : ∀ w ∈ wsX00, w ∈ wsX0_copyMark := by decide +kernel
  have w_18 := hts (.fieldLink RX0 18 "PoisonedMemory$Cells" "hops" "[I") (by decide +kernel)
  have w_35 := hts (.methodLink RX0 35 Lib.Math.min.name) (by decide +kernel)
  have w_35st := hts (.static Lib.Math.min.name) (by decide +kernel)
  have w_mathini := hts (.initialized "java/lang/Math") (by decide +kernel)
  have w_35co := hts (.code Lib.Math.min.name Lib.Math.min.code 2 (some .int)) (by decide +kernel)
  refine lv_aload_n hx hb dX0_copyMark_0 rfl (lv_at hl 2 rfl) ?_
  refine lv_iload_n hx hb dX0_copyMark_1 rfl (lv_at hl 3 rfl) ?_
  refine fr_Vi (As := [.int (nI (j))]) (rest := []) (fs' := [[(a0, .inr (0, [.ref a1, .ref a2, .ref a3]))], [(a1, .inl (T 0, n, .inl (v)))], [(a2, .inl (T 0, n, .inl (o)))], [(a3, .inl (T 0, n, .inl (h)))]]) (ci := 0) (q0 := (RX0, TX0, 3)) (i0 := 0) ⟨hx, hb, hml, hown, hts⟩ (kX0_isPoisoned l D T Z a0 a1 a2 a3 n v o h j (by omega) (by omega)) (cwV 1 hts gX0_copyMark_X0_isPoisoned rfl rfl rfl (by decide +kernel) ⟨Nat.le_of_ble_eq_true rfl, Nat.le_of_ble_eq_true rfl⟩) hK hN hM hP hD hS hA [0, 1, 2, 3] rfl rfl rfl rfl rfl rfl hl.1 rfl (Nat.le_of_ble_eq_true rfl) dX0_copyMark_2 ⟨Nat.zero_le _, Nat.zero_le _⟩ (fun H locs hP hD hS => ?_)
  refine fr_ifeq_b (tgt := 35) hx hb dX0_copyMark_5 (by decide) (fun c_1 => ?_) (fun c_1 => ?_)
  · refine lv_aload_n hx hb dX0_copyMark_35 rfl (lv_at hl 0 rfl) ?_
    refine lv_iload_n hx hb dX0_copyMark_36 rfl (lv_at hl 1 rfl) ?_
    refine lv_bipush (v := (-6)) hx hb dX0_copyMark_37 (by decide) ?_
    refine lv_bipush (v := (-6)) hx hb dX0_copyMark_39 (by decide) ?_
    refine fr_Vv (As := [.int (nI (k)), .int ((-6)), .int ((-6))]) (rest := []) (fs' := [[(a0, .inr (0, [.ref a1, .ref a2, .ref a3]))], [(a1, .inl (T 0, n, .inl (v)))], [(a2, .inl (T 0, n, .inl (upd o k (-6))))], [(a3, .inl (T 0, n, .inl (upd h k (-6))))]]) (ci := 0) (q0 := (RX0, TX0, 3)) (i0 := 0) ⟨hx, hb, hml, hown, hts⟩ (kX0_setMark l D T Z a0 a1 a2 a3 n v o h k (-6) (-6) (by omega) (by omega)) (cwV 3 hts gX0_copyMark_X0_setMark rfl rfl rfl (by decide +kernel) ⟨Nat.le_of_ble_eq_true rfl, Nat.le_of_ble_eq_true rfl⟩) hK hN hM hP hD hS hA [0, 1, 2, 3] rfl rfl rfl rfl rfl rfl hl.1 rfl (Nat.le_of_ble_eq_true rfl) dX0_copyMark_41 ⟨Nat.zero_le _, Nat.zero_le _⟩ (fun H locs hP hD hS => ?_)
    exact fr_vret hx hb hr hlk hP hS (by rw [show hp _ _ = -6 from by simp only [hp, c_1, Bool.false_eq_true, ↓reduceIte], ps_f c_1]) dX0_copyMark_44
  · refine lv_aload_n hx hb dX0_copyMark_8 rfl (lv_at hl 0 rfl) ?_
    refine lv_iload_n hx hb dX0_copyMark_9 rfl (lv_at hl 1 rfl) ?_
    refine lv_aload_n hx hb dX0_copyMark_10 rfl (lv_at hl 2 rfl) ?_
    refine va_get (D := D) (ci := 0) (v := .ref a2) (C := RX0) (T := TX0) (N := 3) hx hb hts hinX0 hown hK (hP.at 0 rfl) 0 rfl rfl 1 (by decide) w_15 (fun _ h9 => h9) rfl dX0_copyMark_11 ?_
    refine lv_iload_n hx hb dX0_copyMark_14 rfl (lv_at hl 3 rfl) ?_
    refine fr_iald hx hb hK hP 2 (j) rfl (by omega) (by omega) dX0_copyMark_15 ?_
    refine lv_aload_n hx hb dX0_copyMark_16 rfl (lv_at hl 2 rfl) ?_
    refine va_get (D := D) (ci := 0) (v := .ref a3) (C := RX0) (T := TX0) (N := 3) hx hb hts hinX0 hown hK (hP.at 0 rfl) 0 rfl rfl 2 (by decide) w_18 (fun _ h9 => h9) rfl dX0_copyMark_17 ?_
    refine lv_iload_n hx hb dX0_copyMark_20 rfl (lv_at hl 3 rfl) ?_
    refine fr_iald hx hb hK hP 3 (j) rfl (by omega) (by omega) dX0_copyMark_21 ?_
    refine lv_iconst (v := nI 1) hx hb dX0_copyMark_22 (by decide) ?_
    refine lv_iadd hx hb dX0_copyMark_23 ?_
    refine lv_bipush (v := nI 99) hx hb dX0_copyMark_24 (by decide) ?_
    refine va_mmin hx hb (hml.trans hl.1.symm) hown w_35 w_35st w_mathini w_35co (Nat.le_of_ble_eq_true rfl) (Nat.le_of_ble_eq_true rfl) (Nat.zero_le _) (Nat.zero_le _) dX0_copyMark_26 ?_
    refine fr_Vv (As := [.int (nI (k)), .int (o j), .int (if nI 99 < (h j) + (nI 1) then nI 99 else (h j) + (nI 1))]) (rest := []) (fs' := [[(a0, .inr (0, [.ref a1, .ref a2, .ref a3]))], [(a1, .inl (T 0, n, .inl (v)))], [(a2, .inl (T 0, n, .inl (upd o k (o j))))], [(a3, .inl (T 0, n, .inl (upd h k (if nI 99 < (h j) + (nI 1) then nI 99 else (h j) + (nI 1)))))]]) (ci := 0) (q0 := (RX0, TX0, 3)) (i0 := 0) ⟨hx, hb, hml, hown, hts⟩ (kX0_setMark l D T Z a0 a1 a2 a3 n v o h k (o j) (if nI 99 < (h j) + (nI 1) then nI 99 else (h j) + (nI 1)) (by omega) (by omega)) (cwV 3 hts gX0_copyMark_X0_setMark rfl rfl rfl (by decide +kernel) ⟨Nat.le_of_ble_eq_true rfl, Nat.le_of_ble_eq_true rfl⟩) hK hN hM hP hD hS hA [0, 1, 2, 3] rfl rfl rfl rfl rfl rfl hl.1 rfl (Nat.le_of_ble_eq_true rfl) dX0_copyMark_29 ⟨Nat.zero_le _, Nat.zero_le _⟩ (fun H locs hP hD hS => ?_)
    refine lv_goto (tgt := 44) hx hb dX0_copyMark_32 (by decide) ?_
    exact fr_vret hx hb hr hlk hP hS (by simp only [hp, c_1, ↓reduceIte] <;> rfl) dX0_copyMark_44

set_option maxHeartbeats 8000000 in
set_option maxRecDepth 100000 in
theorem kX0_become (l : Launch) (D : va_G) (T : Nat → ClassId) (Z : ZZ) (a0 : Nat) (a1 : Nat) (a2 : Nat) (a3 : Nat) (n : Nat) (v : Nat → Int32) (o : Nat → Int32) (h : Nat → Int32) (b0 : Nat) (b1 : Nat) (b2 : Nat) (b3 : Nat) (v2 : Nat → Int32) (o2 : Nat → Int32) (h2 : Nat → Int32) (hn : n < 2 ^ 31) : CtV l D T Z yX0_become wsX0_become ({ frames := 1, cells := 0, slots := 0, locals := 18 }) [[(a0, .inr (0, [.ref a1, .ref a2, .ref a3]))], [(a1, .inl (T 0, n, .inl (v)))], [(a2, .inl (T 0, n, .inl (o)))], [(a3, .inl (T 0, n, .inl (h)))], [(b0, .inr (0, [.ref b1, .ref b2, .ref b3]))], [(b1, .inl (T 0, n, .inl (v2)))], [(b2, .inl (T 0, n, .inl (o2)))], [(b3, .inl (T 0, n, .inl (h2)))]] [.ref a0, .ref b0] [[(a0, .inr (0, [.ref a1, .ref a2, .ref a3]))], [(a1, .inl (T 0, n, .inl (v2)))], [(a2, .inl (T 0, n, .inl (o2)))], [(a3, .inl (T 0, n, .inl (h2)))], [(b0, .inr (0, [.ref b1, .ref b2, .ref b3]))], [(b1, .inl (T 0, n, .inl (v2)))], [(b2, .inl (T 0, n, .inl (o2)))], [(b3, .inl (T 0, n, .inl (h2)))]] := by
  refine CtV.of (cc := cX0_become) (maxL := 2) (ret := none) (plainFor_of_name (by decide)) rfl rfl ?_
  intro pP eE s mM bW mE cC A hE hK hN hM hP hD hA
  obtain ⟨hx, hb, hr, hts, hown, hml, hlk⟩ := hE
  have hown : s.vm.findClass RX0 = some mM.cls := hown
  have hS : va_S A s.heap s.heap [] := va_S.rf
  have hl := lv_entry ([.ref a0, .ref b0]) (n := 2) (Nat.le_of_ble_eq_true rfl)
  rw [lg_entry_eq]
  generalize (lg_sl ([.ref a0, .ref b0]) ++ List.replicate (2 - (lg_sl ([.ref a0, .ref b0])).length) Slot.unset).toArray = ls at hl ⊢
  have hl : lv_has ls 2 [(0, .ref a0), (1, .ref b0)] := hl
  have w_9 := hts (.fieldLink RX0 9 "PoisonedMemory$Cells" "values" "[I") (by decide +kernel)
  have hinX0 : ∀ w ∈ wsX00, w ∈ wsX0_become := by decide +kernel
  have w_41 := hts (.methodLink RX0 41 arraycopyName) (by decide +kernel)
  have w_acn := hts (.native arraycopyName) (by decide +kernel)
  have w_acs := hts (.static arraycopyName) (by decide +kernel)
  have w_sysini := hts (.initialized "java/lang/System") (by decide +kernel)
  have w_15 := hts (.fieldLink RX0 15 "PoisonedMemory$Cells" "origins" "[I") (by decide +kernel)
  have w_18 := hts (.fieldLink RX0 18 "PoisonedMemory$Cells" "hops" "[I") (by decide +kernel)
  refine lv_aload_n hx hb dX0_become_0 rfl (lv_at hl 1 rfl) ?_
  refine va_get (D := D) (ci := 0) (v := .ref b1) (C := RX0) (T := TX0) (N := 3) hx hb hts hinX0 hown hK (hP.at 4 rfl) 0 rfl rfl 0 (by decide) w_9 (fun _ h9 => h9) rfl dX0_become_1 ?_
  refine lv_iconst (v := nI 0) hx hb dX0_become_4 (by decide) ?_
  refine lv_aload_n hx hb dX0_become_5 rfl (lv_at hl 0 rfl) ?_
  refine va_get (D := D) (ci := 0) (v := .ref a1) (C := RX0) (T := TX0) (N := 3) hx hb hts hinX0 hown hK (hP.at 0 rfl) 0 rfl rfl 0 (by decide) w_9 (fun _ h9 => h9) rfl dX0_become_6 ?_
  refine lv_iconst (v := nI 0) hx hb dX0_become_9 (by decide) ?_
  refine lv_aload_n hx hb dX0_become_10 rfl (lv_at hl 0 rfl) ?_
  refine va_get (D := D) (ci := 0) (v := .ref a1) (C := RX0) (T := TX0) (N := 3) hx hb hts hinX0 hown hK (hP.at 0 rfl) 0 rfl rfl 0 (by decide) w_9 (fun _ h9 => h9) rfl dX0_become_11 ?_
  refine va_alen (v := nI (n)) hx hb hK (hP.at 1 rfl) 0 0 rfl rfl rfl dX0_become_14 ?_
  refine fr_acopy (fs' := [[(a0, .inr (0, [.ref a1, .ref a2, .ref a3]))], [(a1, .inl (T 0, n, .inl (v2)))], [(a2, .inl (T 0, n, .inl (o)))], [(a3, .inl (T 0, n, .inl (h)))], [(b0, .inr (0, [.ref b1, .ref b2, .ref b3]))], [(b1, .inl (T 0, n, .inl (v2)))], [(b2, .inl (T 0, n, .inl (o2)))], [(b3, .inl (T 0, n, .inl (h2)))]]) (ty := .int) hx hb (hml.trans hl.1.symm) hown w_41 w_acn w_acs w_sysini hK hP hD hS 5 1 0 n rfl rfl rfl rfl (fun _ _ => rfl) (by omega) (by decide) (Nat.le_of_ble_eq_true rfl) (by decide) dX0_become_15 (fun H locs hP hD hS => ?_)
  refine lv_aload_n hx hb dX0_become_18 rfl (lv_at hl 1 rfl) ?_
  refine va_get (D := D) (ci := 0) (v := .ref b2) (C := RX0) (T := TX0) (N := 3) hx hb hts hinX0 hown hK (hP.at 4 rfl) 0 rfl rfl 1 (by decide) w_15 (fun _ h9 => h9) rfl dX0_become_19 ?_
  refine lv_iconst (v := nI 0) hx hb dX0_become_22 (by decide) ?_
  refine lv_aload_n hx hb dX0_become_23 rfl (lv_at hl 0 rfl) ?_
  refine va_get (D := D) (ci := 0) (v := .ref a2) (C := RX0) (T := TX0) (N := 3) hx hb hts hinX0 hown hK (hP.at 0 rfl) 0 rfl rfl 1 (by decide) w_15 (fun _ h9 => h9) rfl dX0_become_24 ?_
  refine lv_iconst (v := nI 0) hx hb dX0_become_27 (by decide) ?_
  refine lv_aload_n hx hb dX0_become_28 rfl (lv_at hl 0 rfl) ?_
  refine va_get (D := D) (ci := 0) (v := .ref a2) (C := RX0) (T := TX0) (N := 3) hx hb hts hinX0 hown hK (hP.at 0 rfl) 0 rfl rfl 1 (by decide) w_15 (fun _ h9 => h9) rfl dX0_become_29 ?_
  refine va_alen (v := nI (n)) hx hb hK (hP.at 2 rfl) 0 0 rfl rfl rfl dX0_become_32 ?_
  refine fr_acopy (fs' := [[(a0, .inr (0, [.ref a1, .ref a2, .ref a3]))], [(a1, .inl (T 0, n, .inl (v2)))], [(a2, .inl (T 0, n, .inl (o2)))], [(a3, .inl (T 0, n, .inl (h)))], [(b0, .inr (0, [.ref b1, .ref b2, .ref b3]))], [(b1, .inl (T 0, n, .inl (v2)))], [(b2, .inl (T 0, n, .inl (o2)))], [(b3, .inl (T 0, n, .inl (h2)))]]) (ty := .int) hx hb (hml.trans hl.1.symm) hown w_41 w_acn w_acs w_sysini hK hP hD hS 6 2 0 n rfl rfl rfl rfl (fun _ _ => rfl) (by omega) (by decide) (Nat.le_of_ble_eq_true rfl) (by decide) dX0_become_33 (fun H locs hP hD hS => ?_)
  refine lv_aload_n hx hb dX0_become_36 rfl (lv_at hl 1 rfl) ?_
  refine va_get (D := D) (ci := 0) (v := .ref b3) (C := RX0) (T := TX0) (N := 3) hx hb hts hinX0 hown hK (hP.at 4 rfl) 0 rfl rfl 2 (by decide) w_18 (fun _ h9 => h9) rfl dX0_become_37 ?_
  refine lv_iconst (v := nI 0) hx hb dX0_become_40 (by decide) ?_
  refine lv_aload_n hx hb dX0_become_41 rfl (lv_at hl 0 rfl) ?_
  refine va_get (D := D) (ci := 0) (v := .ref a3) (C := RX0) (T := TX0) (N := 3) hx hb hts hinX0 hown hK (hP.at 0 rfl) 0 rfl rfl 2 (by decide) w_18 (fun _ h9 => h9) rfl dX0_become_42 ?_
  refine lv_iconst (v := nI 0) hx hb dX0_become_45 (by decide) ?_
  refine lv_aload_n hx hb dX0_become_46 rfl (lv_at hl 0 rfl) ?_
  refine va_get (D := D) (ci := 0) (v := .ref a3) (C := RX0) (T := TX0) (N := 3) hx hb hts hinX0 hown hK (hP.at 0 rfl) 0 rfl rfl 2 (by decide) w_18 (fun _ h9 => h9) rfl dX0_become_47 ?_
  refine va_alen (v := nI (n)) hx hb hK (hP.at 3 rfl) 0 0 rfl rfl rfl dX0_become_50 ?_
  refine fr_acopy (fs' := [[(a0, .inr (0, [.ref a1, .ref a2, .ref a3]))], [(a1, .inl (T 0, n, .inl (v2)))], [(a2, .inl (T 0, n, .inl (o2)))], [(a3, .inl (T 0, n, .inl (h2)))], [(b0, .inr (0, [.ref b1, .ref b2, .ref b3]))], [(b1, .inl (T 0, n, .inl (v2)))], [(b2, .inl (T 0, n, .inl (o2)))], [(b3, .inl (T 0, n, .inl (h2)))]]) (ty := .int) hx hb (hml.trans hl.1.symm) hown w_41 w_acn w_acs w_sysini hK hP hD hS 7 3 0 n rfl rfl rfl rfl (fun _ _ => rfl) (by omega) (by decide) (Nat.le_of_ble_eq_true rfl) (by decide) dX0_become_51 (fun H locs hP hD hS => ?_)
  exact fr_vret hx hb hr hlk hP hS rfl dX0_become_54

set_option maxHeartbeats 8000000 in
set_option maxRecDepth 100000 in
theorem kX0_countPoisoned (l : Launch) (D : va_G) (T : Nat → ClassId) (Z : ZZ) (a0 : Nat) (a1 : Nat) (a2 : Nat) (a3 : Nat) (n : Nat) (v : Nat → Int32) (o : Nat → Int32) (h : Nat → Int32) (i : Nat) (j : Nat) (hij : i ≤ j) (hj : j ≤ n) (hn : n < 2 ^ 31) : CtI l D T Z yX0_countPoisoned wsX0_countPoisoned ({ frames := 1, cells := 0, slots := 0, locals := 21 }) [[(a0, .inr (0, [.ref a1, .ref a2, .ref a3]))], [(a1, .inl (T 0, n, .inl (v)))], [(a2, .inl (T 0, n, .inl (o)))], [(a3, .inl (T 0, n, .inl (h)))]] [.ref a0, .int (nI (i)), .int (nI (j))] (nI (cntP o i (j - i))) [[(a0, .inr (0, [.ref a1, .ref a2, .ref a3]))], [(a1, .inl (T 0, n, .inl (v)))], [(a2, .inl (T 0, n, .inl (o)))], [(a3, .inl (T 0, n, .inl (h)))]] := by
  refine CtI.of (cc := cX0_countPoisoned) (maxL := 5) (ret := (some .int)) (plainFor_of_name (by decide)) rfl rfl ?_
  intro pP eE s mM bW mE cC A hE hK hN hM hP hD hA
  obtain ⟨hx, hb, hr, hts, hown, hml, hlk⟩ := hE
  have hown : s.vm.findClass RX0 = some mM.cls := hown
  have hS : va_S A s.heap s.heap [] := va_S.rf
  have hl := lv_entry ([.ref a0, .int (nI (i)), .int (nI (j))]) (n := 5) (Nat.le_of_ble_eq_true rfl)
  rw [lg_entry_eq]
  generalize (lg_sl ([.ref a0, .int (nI (i)), .int (nI (j))]) ++ List.replicate (5 - (lg_sl ([.ref a0, .int (nI (i)), .int (nI (j))])).length) Slot.unset).toArray = ls at hl ⊢
  have hl : lv_has ls 5 [(0, .ref a0), (1, .int (nI (i))), (2, .int (nI (j)))] := hl
  refine lv_iconst (v := nI 0) hx hb dX0_countPoisoned_0 (by decide) ?_
  refine lv_istore_n (lv' := [(3, .int (nI 0)), (0, .ref a0), (1, .int (nI (i))), (2, .int (nI (j)))]) hx hb dX0_countPoisoned_1 rfl hl (by decide) rfl (fun ls hl => ?_)
  refine lv_iload_n hx hb dX0_countPoisoned_2 rfl (lv_at hl 2 rfl) ?_
  refine lv_istore (lv' := [(4, .int (nI (i))), (3, .int (nI 0)), (0, .ref a0), (1, .int (nI (i))), (2, .int (nI (j)))]) hx hb dX0_countPoisoned_3 hl (by decide) rfl (fun ls hl => ?_)
  have loop5 : ∀ (n9 k9 : Nat), k9 ≤ (j - i) → (j - i) < k9 + n9 → ∀ (H : Heap) (locs : List Loc), frP D [[(a0, .inr (0, [.ref a1, .ref a2, .ref a3]))], [(a1, .inl (T 0, n, .inl (v)))], [(a2, .inl (T 0, n, .inl (o)))], [(a3, .inl (T 0, n, .inl (h)))]] H → va_D A ([[(a0, .inr (0, [.ref a1, .ref a2, .ref a3]))], [(a1, .inl (T 0, n, .inl (v)))], [(a2, .inl (T 0, n, .inl (o)))], [(a3, .inl (T 0, n, .inl (h)))]] : List va_W).flatten → va_S A s.heap H locs → ∀ (ls : Array Slot), lv_has ls 5 [(4, .int (nI ((i + k9)))), (3, .int (nI ((cntP o i k9)))), (0, .ref a0), (1, .int (nI (i))), (2, .int (nI (j)))] → W pP l eE ({ frames := 1, cells := 0, slots := 0, locals := 21 }) s mM ([.ref a0, .int (nI (i)), .int (nI (j))] : List Value).toArray bW mE cC H locs 0 0 (MQ bW (QcI D [[(a0, .inr (0, [.ref a1, .ref a2, .ref a3]))], [(a1, .inl (T 0, n, .inl (v)))], [(a2, .inl (T 0, n, .inl (o)))], [(a3, .inl (T 0, n, .inl (h)))]] (nI (cntP o i (j - i))) A) ([.ref a0, .int (nI (i)), .int (nI (j))] : List Value).toArray s 0 0 A) (F0 mM 5 ls []) := by
    intro n9
    induction n9 with
    | zero => intro k9 h1 h2; exact absurd h2 (by omega)
    | succ n9 ih =>
      intro k9 hk1 hk2 H locs hP hD hS ls hl
      refine lv_iload hx hb dX0_countPoisoned_5 (lv_at hl 0 rfl) ?_
      refine lv_iload_n hx hb dX0_countPoisoned_7 rfl (lv_at hl 4 rfl) ?_
      refine fr_icmp_ge ((i + k9)) (j) (by omega) (by omega) (tgt := 29) hx hb dX0_countPoisoned_8 (by decide) (fun c_1 => ?_) (fun c_1 => ?_)
      · have c_1' := Nat.not_lt.mpr c_1
        refine lv_iload_n hx hb dX0_countPoisoned_29 rfl (lv_at hl 1 rfl) ?_
        exact fr_iret hx hb hr hlk hP hS (by rw [show j - i = k9 from by omega]) rfl dX0_countPoisoned_30
      · have c_1' := Nat.not_le.mpr c_1
        refine lv_aload_n hx hb dX0_countPoisoned_11 rfl (lv_at hl 2 rfl) ?_
        refine lv_iload hx hb dX0_countPoisoned_12 (lv_at hl 0 rfl) ?_
        refine fr_Vi (As := [.int (nI ((i + k9)))]) (rest := []) (fs' := [[(a0, .inr (0, [.ref a1, .ref a2, .ref a3]))], [(a1, .inl (T 0, n, .inl (v)))], [(a2, .inl (T 0, n, .inl (o)))], [(a3, .inl (T 0, n, .inl (h)))]]) (ci := 0) (q0 := (RX0, TX0, 3)) (i0 := 0) ⟨hx, hb, hml, hown, hts⟩ (kX0_isPoisoned l D T Z a0 a1 a2 a3 n v o h (i + k9) (by omega) (by omega)) (cwV 1 hts gX0_countPoisoned_X0_isPoisoned rfl rfl rfl (by decide +kernel) ⟨Nat.le_of_ble_eq_true rfl, Nat.le_of_ble_eq_true rfl⟩) hK hN hM hP hD hS hA [0, 1, 2, 3] rfl rfl rfl rfl rfl rfl hl.1 rfl (Nat.le_of_ble_eq_true rfl) dX0_countPoisoned_14 ⟨Nat.zero_le _, Nat.zero_le _⟩ (fun H locs hP hD hS => ?_)
        refine fr_ifeq_b (tgt := 23) hx hb dX0_countPoisoned_17 (by decide) (fun c_2 => ?_) (fun c_2 => ?_)
        · refine fr_iinc ((i + k9)) (((i + k9) + 1)) (nI_inc _) (lv' := [(4, .int (nI (((i + k9) + 1)))), (3, .int (nI ((cntP o i k9)))), (0, .ref a0), (1, .int (nI (i))), (2, .int (nI (j)))]) (k := 0) hx hb dX0_countPoisoned_23 hl rfl (by decide) rfl (fun ls hl => ?_)
          refine lv_goto (tgt := 5) hx hb dX0_countPoisoned_26 (by decide) ?_
          have q_3 : (nI (((i + k9) + 1)) : Int32) = nI ((i + (k9 + 1))) := (by first | rfl | (simp only [cntP, cnt, c_1, c_1', c_2, ↓reduceIte, Bool.false_eq_true, bI_true, bI_false, Bool.true_and, Bool.and_true, Bool.and_false, Bool.false_and, Bool.not_true, Bool.not_false, Bool.or_true, Bool.true_or, Bool.or_false, Bool.false_or] <;> rfl) | (simp [cntP, cnt, c_1, c_1', c_2]; done))
          rw [q_3] at hl
          have q_4 : (nI ((cntP o i k9)) : Int32) = nI ((cntP o i (k9 + 1))) := (by first | rfl | (simp only [cntP, cnt, c_1, c_1', c_2, ↓reduceIte, Bool.false_eq_true, bI_true, bI_false, Bool.true_and, Bool.and_true, Bool.and_false, Bool.false_and, Bool.not_true, Bool.not_false, Bool.or_true, Bool.true_or, Bool.or_false, Bool.false_or] <;> rfl) | (simp [cntP, cnt, c_1, c_1', c_2]; done))
          rw [q_4] at hl
          exact ih  ((k9 + 1)) (by omega) (by omega) H locs hP hD hS ls (lv_sub hl [0, 1, 2, 3, 4] rfl)
        · refine fr_iinc ((cntP o i k9)) (((cntP o i k9) + 1)) (nI_inc _) (lv' := [(3, .int (nI (((cntP o i k9) + 1)))), (4, .int (nI ((i + k9)))), (0, .ref a0), (1, .int (nI (i))), (2, .int (nI (j)))]) (k := 1) hx hb dX0_countPoisoned_20 hl rfl (by decide) rfl (fun ls hl => ?_)
          refine fr_iinc ((i + k9)) (((i + k9) + 1)) (nI_inc _) (lv' := [(4, .int (nI (((i + k9) + 1)))), (3, .int (nI (((cntP o i k9) + 1)))), (0, .ref a0), (1, .int (nI (i))), (2, .int (nI (j)))]) (k := 1) hx hb dX0_countPoisoned_23 hl rfl (by decide) rfl (fun ls hl => ?_)
          refine lv_goto (tgt := 5) hx hb dX0_countPoisoned_26 (by decide) ?_
          have q_5 : (nI (((i + k9) + 1)) : Int32) = nI ((i + (k9 + 1))) := (by first | rfl | (simp only [cntP, cnt, c_1, c_1', c_2, ↓reduceIte, Bool.false_eq_true, bI_true, bI_false, Bool.true_and, Bool.and_true, Bool.and_false, Bool.false_and, Bool.not_true, Bool.not_false, Bool.or_true, Bool.true_or, Bool.or_false, Bool.false_or] <;> rfl) | (simp [cntP, cnt, c_1, c_1', c_2]; done))
          rw [q_5] at hl
          have q_6 : (nI (((cntP o i k9) + 1)) : Int32) = nI ((cntP o i (k9 + 1))) := (by first | rfl | (simp only [cntP, cnt, c_1, c_1', c_2, ↓reduceIte, Bool.false_eq_true, bI_true, bI_false, Bool.true_and, Bool.and_true, Bool.and_false, Bool.false_and, Bool.not_true, Bool.not_false, Bool.or_true, Bool.true_or, Bool.or_false, Bool.false_or] <;> rfl) | (simp [cntP, cnt, c_1, c_1', c_2]; done))
          rw [q_6] at hl
          exact ih  ((k9 + 1)) (by omega) (by omega) H locs hP hD hS ls (lv_sub hl [0, 1, 2, 3, 4] rfl)
  have q_7 : (nI (i) : Int32) = nI ((i + 0)) := (by first | rfl | (simp only [cntP, cnt, ↓reduceIte, Bool.false_eq_true, bI_true, bI_false, Bool.true_and, Bool.and_true, Bool.and_false, Bool.false_and, Bool.not_true, Bool.not_false, Bool.or_true, Bool.true_or, Bool.or_false, Bool.false_or] <;> rfl) | (simp [cntP, cnt]; done))
  rw [q_7] at hl
  have q_8 : (nI 0 : Int32) = nI ((cntP o i 0)) := (by first | rfl | (simp only [cntP, cnt, ↓reduceIte, Bool.false_eq_true, bI_true, bI_false, Bool.true_and, Bool.and_true, Bool.and_false, Bool.false_and, Bool.not_true, Bool.not_false, Bool.or_true, Bool.true_or, Bool.or_false, Bool.false_or] <;> rfl) | (simp [cntP, cnt]; done))
  rw [q_8] at hl
  exact loop5 ((j - i) + 1) (0) (by omega) (by omega) _ _ hP hD hS ls (lv_sub hl [0, 1, 2, 3, 4] rfl)

set_option maxHeartbeats 8000000 in
set_option maxRecDepth 100000 in
theorem kX0_countOrigin (l : Launch) (D : va_G) (T : Nat → ClassId) (Z : ZZ) (a0 : Nat) (a1 : Nat) (a2 : Nat) (a3 : Nat) (n : Nat) (v : Nat → Int32) (o : Nat → Int32) (h : Nat → Int32) (x : Int32) (hn : n < 2 ^ 31) : CtI l D T Z yX0_countOrigin wsX0_countOrigin ({ frames := 0, cells := 0, slots := 0, locals := 0 }) [[(a0, .inr (0, [.ref a1, .ref a2, .ref a3]))], [(a1, .inl (T 0, n, .inl (v)))], [(a2, .inl (T 0, n, .inl (o)))], [(a3, .inl (T 0, n, .inl (h)))]] [.ref a0, .int (x)] (nI (cntE o x n)) [[(a0, .inr (0, [.ref a1, .ref a2, .ref a3]))], [(a1, .inl (T 0, n, .inl (v)))], [(a2, .inl (T 0, n, .inl (o)))], [(a3, .inl (T 0, n, .inl (h)))]] := by
  refine CtI.of (cc := cX0_countOrigin) (maxL := 4) (ret := (some .int)) (plainFor_of_name (by decide)) rfl rfl ?_
  intro pP eE s mM bW mE cC A hE hK hN hM hP hD hA
  obtain ⟨hx, hb, hr, hts, hown, hml, hlk⟩ := hE
  have hown : s.vm.findClass RX0 = some mM.cls := hown
  have hS : va_S A s.heap s.heap [] := va_S.rf
  have hl := lv_entry ([.ref a0, .int (x)]) (n := 4) (Nat.le_of_ble_eq_true rfl)
  rw [lg_entry_eq]
  generalize (lg_sl ([.ref a0, .int (x)]) ++ List.replicate (4 - (lg_sl ([.ref a0, .int (x)])).length) Slot.unset).toArray = ls at hl ⊢
  have hl : lv_has ls 4 [(0, .ref a0), (1, .int (x))] := hl
  have w_15 := hts (.fieldLink RX0 15 "PoisonedMemory$Cells" "origins" "[I") (by decide +kernel)
  have hinX0 : ∀ w ∈ wsX00, w ∈ wsX0_countOrigin := by decide +kernel
  refine lv_iconst (v := nI 0) hx hb dX0_countOrigin_0 (by decide) ?_
  refine lv_istore_n (lv' := [(2, .int (nI 0)), (0, .ref a0), (1, .int (x))]) hx hb dX0_countOrigin_1 rfl hl (by decide) rfl (fun ls hl => ?_)
  refine lv_iconst (v := nI 0) hx hb dX0_countOrigin_2 (by decide) ?_
  refine lv_istore_n (lv' := [(3, .int (nI 0)), (2, .int (nI 0)), (0, .ref a0), (1, .int (x))]) hx hb dX0_countOrigin_3 rfl hl (by decide) rfl (fun ls hl => ?_)
  have loop4 : ∀ (n9 k9 : Nat), k9 ≤ n → n < k9 + n9 → ∀ (H : Heap) (locs : List Loc), frP D [[(a0, .inr (0, [.ref a1, .ref a2, .ref a3]))], [(a1, .inl (T 0, n, .inl (v)))], [(a2, .inl (T 0, n, .inl (o)))], [(a3, .inl (T 0, n, .inl (h)))]] H → va_D A ([[(a0, .inr (0, [.ref a1, .ref a2, .ref a3]))], [(a1, .inl (T 0, n, .inl (v)))], [(a2, .inl (T 0, n, .inl (o)))], [(a3, .inl (T 0, n, .inl (h)))]] : List va_W).flatten → va_S A s.heap H locs → ∀ (ls : Array Slot), lv_has ls 4 [(3, .int (nI (k9))), (2, .int (nI ((cntE o x k9)))), (0, .ref a0), (1, .int (x))] → W pP l eE ({ frames := 0, cells := 0, slots := 0, locals := 0 }) s mM ([.ref a0, .int (x)] : List Value).toArray bW mE cC H locs 0 0 (MQ bW (QcI D [[(a0, .inr (0, [.ref a1, .ref a2, .ref a3]))], [(a1, .inl (T 0, n, .inl (v)))], [(a2, .inl (T 0, n, .inl (o)))], [(a3, .inl (T 0, n, .inl (h)))]] (nI (cntE o x n)) A) ([.ref a0, .int (x)] : List Value).toArray s 0 0 A) (F0 mM 4 ls []) := by
    intro n9
    induction n9 with
    | zero => intro k9 h1 h2; exact absurd h2 (by omega)
    | succ n9 ih =>
      intro k9 hk1 hk2 H locs hP hD hS ls hl
      refine lv_iload_n hx hb dX0_countOrigin_4 rfl (lv_at hl 0 rfl) ?_
      refine lv_aload_n hx hb dX0_countOrigin_5 rfl (lv_at hl 2 rfl) ?_
      refine va_get (D := D) (ci := 0) (v := .ref a2) (C := RX0) (T := TX0) (N := 3) hx hb hts hinX0 hown hK (hP.at 0 rfl) 0 rfl rfl 1 (by decide) w_15 (fun _ h9 => h9) rfl dX0_countOrigin_6 ?_
      refine va_alen (v := nI (n)) hx hb hK (hP.at 2 rfl) 0 0 rfl rfl rfl dX0_countOrigin_9 ?_
      refine fr_icmp_ge (k9) (n) (by omega) (by omega) (tgt := 32) hx hb dX0_countOrigin_10 (by decide) (fun c_1 => ?_) (fun c_1 => ?_)
      · have c_1' := Nat.not_lt.mpr c_1
        refine lv_iload_n hx hb dX0_countOrigin_32 rfl (lv_at hl 1 rfl) ?_
        exact fr_iret hx hb hr hlk hP hS (by rw [show n = k9 from by omega]) rfl dX0_countOrigin_33
      · have c_1' := Nat.not_le.mpr c_1
        refine lv_aload_n hx hb dX0_countOrigin_13 rfl (lv_at hl 2 rfl) ?_
        refine va_get (D := D) (ci := 0) (v := .ref a2) (C := RX0) (T := TX0) (N := 3) hx hb hts hinX0 hown hK (hP.at 0 rfl) 0 rfl rfl 1 (by decide) w_15 (fun _ h9 => h9) rfl dX0_countOrigin_14 ?_
        refine lv_iload_n hx hb dX0_countOrigin_17 rfl (lv_at hl 0 rfl) ?_
        refine fr_iald hx hb hK hP 2 (k9) rfl (by omega) (by omega) dX0_countOrigin_18 ?_
        refine lv_iload_n hx hb dX0_countOrigin_19 rfl (lv_at hl 3 rfl) ?_
        refine lv_icmp_ne (tgt := 26) hx hb dX0_countOrigin_20 (by decide) (fun c_2 => ?_) (fun c_2 => ?_)
        · refine fr_iinc (k9) ((k9 + 1)) (nI_inc _) (lv' := [(3, .int (nI ((k9 + 1)))), (2, .int (nI ((cntE o x k9)))), (0, .ref a0), (1, .int (x))]) (k := 0) hx hb dX0_countOrigin_26 hl rfl (by decide) rfl (fun ls hl => ?_)
          refine lv_goto (tgt := 4) hx hb dX0_countOrigin_29 (by decide) ?_
          have q_3 : (nI ((cntE o x k9)) : Int32) = nI ((cntE o x (k9 + 1))) := (by first | rfl | (simp only [cntE, cnt, decide_true, decide_false, c_1, c_1', c_2, ↓reduceIte, Bool.false_eq_true, bI_true, bI_false, Bool.true_and, Bool.and_true, Bool.and_false, Bool.false_and, Bool.not_true, Bool.not_false, Bool.or_true, Bool.true_or, Bool.or_false, Bool.false_or] <;> rfl) | (simp [cntE, cnt, decide_true, decide_false, c_1, c_1', c_2]; done))
          rw [q_3] at hl
          exact ih  ((k9 + 1)) (by omega) (by omega) H locs hP hD hS ls (lv_sub hl [0, 1, 2, 3] rfl)
        · refine fr_iinc ((cntE o x k9)) (((cntE o x k9) + 1)) (nI_inc _) (lv' := [(2, .int (nI (((cntE o x k9) + 1)))), (3, .int (nI (k9))), (0, .ref a0), (1, .int (x))]) (k := 1) hx hb dX0_countOrigin_23 hl rfl (by decide) rfl (fun ls hl => ?_)
          refine fr_iinc (k9) ((k9 + 1)) (nI_inc _) (lv' := [(3, .int (nI ((k9 + 1)))), (2, .int (nI (((cntE o x k9) + 1)))), (0, .ref a0), (1, .int (x))]) (k := 1) hx hb dX0_countOrigin_26 hl rfl (by decide) rfl (fun ls hl => ?_)
          refine lv_goto (tgt := 4) hx hb dX0_countOrigin_29 (by decide) ?_
          have q_4 : (nI (((cntE o x k9) + 1)) : Int32) = nI ((cntE o x (k9 + 1))) := (by first | rfl | (simp only [cntE, cnt, decide_true, decide_false, c_1, c_1', c_2, ↓reduceIte, Bool.false_eq_true, bI_true, bI_false, Bool.true_and, Bool.and_true, Bool.and_false, Bool.false_and, Bool.not_true, Bool.not_false, Bool.or_true, Bool.true_or, Bool.or_false, Bool.false_or] <;> rfl) | (simp [cntE, cnt, decide_true, decide_false, c_1, c_1', c_2]; done))
          rw [q_4] at hl
          exact ih  ((k9 + 1)) (by omega) (by omega) H locs hP hD hS ls (lv_sub hl [0, 1, 2, 3] rfl)
  have q_5 : (nI 0 : Int32) = nI ((cntE o x 0)) := (by first | rfl | (simp only [cntE, cnt, decide_true, decide_false, ↓reduceIte, Bool.false_eq_true, bI_true, bI_false, Bool.true_and, Bool.and_true, Bool.and_false, Bool.false_and, Bool.not_true, Bool.not_false, Bool.or_true, Bool.true_or, Bool.or_false, Bool.false_or] <;> rfl) | (simp [cntE, cnt, decide_true, decide_false]; done))
  rw [q_5] at hl
  exact loop4 (n + 1) (0) (by omega) (by omega) _ _ hP hD hS ls (lv_sub hl [0, 1, 2, 3] rfl)

set_option maxHeartbeats 8000000 in
set_option maxRecDepth 100000 in
theorem kX0_mostHops (l : Launch) (D : va_G) (T : Nat → ClassId) (Z : ZZ) (a0 : Nat) (a1 : Nat) (a2 : Nat) (a3 : Nat) (n : Nat) (v : Nat → Int32) (o : Nat → Int32) (h : Nat → Int32) (x : Int32) (hn : n < 2 ^ 31) : CtI l D T Z yX0_mostHops wsX0_mostHops ({ frames := 1, cells := 0, slots := 0, locals := 13 }) [[(a0, .inr (0, [.ref a1, .ref a2, .ref a3]))], [(a1, .inl (T 0, n, .inl (v)))], [(a2, .inl (T 0, n, .inl (o)))], [(a3, .inl (T 0, n, .inl (h)))]] [.ref a0, .int (x)] (mh o h x n) [[(a0, .inr (0, [.ref a1, .ref a2, .ref a3]))], [(a1, .inl (T 0, n, .inl (v)))], [(a2, .inl (T 0, n, .inl (o)))], [(a3, .inl (T 0, n, .inl (h)))]] := by
  refine CtI.of (cc := cX0_mostHops) (maxL := 4) (ret := (some .int)) (plainFor_of_name (by decide)) rfl rfl ?_
  intro pP eE s mM bW mE cC A hE hK hN hM hP hD hA
  obtain ⟨hx, hb, hr, hts, hown, hml, hlk⟩ := hE
  have hown : s.vm.findClass RX0 = some mM.cls := hown
  have hS : va_S A s.heap s.heap [] := va_S.rf
  have hl := lv_entry ([.ref a0, .int (x)]) (n := 4) (Nat.le_of_ble_eq_true rfl)
  rw [lg_entry_eq]
  generalize (lg_sl ([.ref a0, .int (x)]) ++ List.replicate (4 - (lg_sl ([.ref a0, .int (x)])).length) Slot.unset).toArray = ls at hl ⊢
  have hl : lv_has ls 4 [(0, .ref a0), (1, .int (x))] := hl
  have w_15 := hts (.fieldLink RX0 15 "PoisonedMemory$Cells" "origins" "[I") (by decide +kernel)
  have hinX0 : ∀ w ∈ wsX00, w ∈ wsX0_mostHops := by decide +kernel
  have w_18 := hts (.fieldLink RX0 18 "PoisonedMemory$Cells" "hops" "[I") (by decide +kernel)
  have w_47 := hts (.methodLink RX0 47 Lib.Math.max.name) (by decide +kernel)
  have w_47st := hts (.static Lib.Math.max.name) (by decide +kernel)
  have w_mathini := hts (.initialized "java/lang/Math") (by decide +kernel)
  have w_47co := hts (.code Lib.Math.max.name Lib.Math.max.code 2 (some .int)) (by decide +kernel)
  refine lv_bipush (v := (-6)) hx hb dX0_mostHops_0 (by decide) ?_
  refine lv_istore_n (lv' := [(2, .int ((-6))), (0, .ref a0), (1, .int (x))]) hx hb dX0_mostHops_2 rfl hl (by decide) rfl (fun ls hl => ?_)
  refine lv_iconst (v := nI 0) hx hb dX0_mostHops_3 (by decide) ?_
  refine lv_istore_n (lv' := [(3, .int (nI 0)), (2, .int ((-6))), (0, .ref a0), (1, .int (x))]) hx hb dX0_mostHops_4 rfl hl (by decide) rfl (fun ls hl => ?_)
  have loop5 : ∀ (n9 k9 : Nat), k9 ≤ n → n < k9 + n9 → ∀ (H : Heap) (locs : List Loc), frP D [[(a0, .inr (0, [.ref a1, .ref a2, .ref a3]))], [(a1, .inl (T 0, n, .inl (v)))], [(a2, .inl (T 0, n, .inl (o)))], [(a3, .inl (T 0, n, .inl (h)))]] H → va_D A ([[(a0, .inr (0, [.ref a1, .ref a2, .ref a3]))], [(a1, .inl (T 0, n, .inl (v)))], [(a2, .inl (T 0, n, .inl (o)))], [(a3, .inl (T 0, n, .inl (h)))]] : List va_W).flatten → va_S A s.heap H locs → ∀ (ls : Array Slot), lv_has ls 4 [(3, .int (nI (k9))), (2, .int (mh o h x k9)), (0, .ref a0), (1, .int (x))] → W pP l eE ({ frames := 1, cells := 0, slots := 0, locals := 13 }) s mM ([.ref a0, .int (x)] : List Value).toArray bW mE cC H locs 0 0 (MQ bW (QcI D [[(a0, .inr (0, [.ref a1, .ref a2, .ref a3]))], [(a1, .inl (T 0, n, .inl (v)))], [(a2, .inl (T 0, n, .inl (o)))], [(a3, .inl (T 0, n, .inl (h)))]] (mh o h x n) A) ([.ref a0, .int (x)] : List Value).toArray s 0 0 A) (F0 mM 5 ls []) := by
    intro n9
    induction n9 with
    | zero => intro k9 h1 h2; exact absurd h2 (by omega)
    | succ n9 ih =>
      intro k9 hk1 hk2 H locs hP hD hS ls hl
      refine lv_iload_n hx hb dX0_mostHops_5 rfl (lv_at hl 0 rfl) ?_
      refine lv_aload_n hx hb dX0_mostHops_6 rfl (lv_at hl 2 rfl) ?_
      refine va_get (D := D) (ci := 0) (v := .ref a2) (C := RX0) (T := TX0) (N := 3) hx hb hts hinX0 hown hK (hP.at 0 rfl) 0 rfl rfl 1 (by decide) w_15 (fun _ h9 => h9) rfl dX0_mostHops_7 ?_
      refine va_alen (v := nI (n)) hx hb hK (hP.at 2 rfl) 0 0 rfl rfl rfl dX0_mostHops_10 ?_
      refine fr_icmp_ge (k9) (n) (by omega) (by omega) (tgt := 41) hx hb dX0_mostHops_11 (by decide) (fun c_1 => ?_) (fun c_1 => ?_)
      · have c_1' := Nat.not_lt.mpr c_1
        refine lv_iload_n hx hb dX0_mostHops_41 rfl (lv_at hl 1 rfl) ?_
        exact fr_iret hx hb hr hlk hP hS (by rw [show n = k9 from by omega]) rfl dX0_mostHops_42
      · have c_1' := Nat.not_le.mpr c_1
        refine lv_aload_n hx hb dX0_mostHops_14 rfl (lv_at hl 2 rfl) ?_
        refine va_get (D := D) (ci := 0) (v := .ref a2) (C := RX0) (T := TX0) (N := 3) hx hb hts hinX0 hown hK (hP.at 0 rfl) 0 rfl rfl 1 (by decide) w_15 (fun _ h9 => h9) rfl dX0_mostHops_15 ?_
        refine lv_iload_n hx hb dX0_mostHops_18 rfl (lv_at hl 0 rfl) ?_
        refine fr_iald hx hb hK hP 2 (k9) rfl (by omega) (by omega) dX0_mostHops_19 ?_
        refine lv_iload_n hx hb dX0_mostHops_20 rfl (lv_at hl 3 rfl) ?_
        refine lv_icmp_ne (tgt := 35) hx hb dX0_mostHops_21 (by decide) (fun c_2 => ?_) (fun c_2 => ?_)
        · refine fr_iinc (k9) ((k9 + 1)) (nI_inc _) (lv' := [(3, .int (nI ((k9 + 1)))), (2, .int (mh o h x k9)), (0, .ref a0), (1, .int (x))]) (k := 0) hx hb dX0_mostHops_35 hl rfl (by decide) rfl (fun ls hl => ?_)
          refine lv_goto (tgt := 5) hx hb dX0_mostHops_38 (by decide) ?_
          have q_3 : (mh o h x k9 : Int32) = mh o h x (k9 + 1) := (by first | rfl | (simp only [mh, c_1, c_1', c_2, ↓reduceIte, Bool.false_eq_true, bI_true, bI_false, Bool.true_and, Bool.and_true, Bool.and_false, Bool.false_and, Bool.not_true, Bool.not_false, Bool.or_true, Bool.true_or, Bool.or_false, Bool.false_or] <;> rfl) | (simp [mh, c_1, c_1', c_2]; done))
          rw [q_3] at hl
          exact ih  ((k9 + 1)) (by omega) (by omega) H locs hP hD hS ls (lv_sub hl [0, 1, 2, 3] rfl)
        · refine lv_iload_n hx hb dX0_mostHops_24 rfl (lv_at hl 1 rfl) ?_
          refine lv_aload_n hx hb dX0_mostHops_25 rfl (lv_at hl 2 rfl) ?_
          refine va_get (D := D) (ci := 0) (v := .ref a3) (C := RX0) (T := TX0) (N := 3) hx hb hts hinX0 hown hK (hP.at 0 rfl) 0 rfl rfl 2 (by decide) w_18 (fun _ h9 => h9) rfl dX0_mostHops_26 ?_
          refine lv_iload_n hx hb dX0_mostHops_29 rfl (lv_at hl 0 rfl) ?_
          refine fr_iald hx hb hK hP 3 (k9) rfl (by omega) (by omega) dX0_mostHops_30 ?_
          refine va_mmax hx hb (hml.trans hl.1.symm) hown w_47 w_47st w_mathini w_47co (Nat.le_of_ble_eq_true rfl) (Nat.le_of_ble_eq_true rfl) (Nat.zero_le _) (Nat.zero_le _) dX0_mostHops_31 ?_
          refine lv_istore_n (lv' := [(2, .int (if mh o h x k9 < h k9 then h k9 else mh o h x k9)), (3, .int (nI (k9))), (0, .ref a0), (1, .int (x))]) hx hb dX0_mostHops_34 rfl hl (by decide) rfl (fun ls hl => ?_)
          refine fr_iinc (k9) ((k9 + 1)) (nI_inc _) (lv' := [(3, .int (nI ((k9 + 1)))), (2, .int (if mh o h x k9 < h k9 then h k9 else mh o h x k9)), (0, .ref a0), (1, .int (x))]) (k := 1) hx hb dX0_mostHops_35 hl rfl (by decide) rfl (fun ls hl => ?_)
          refine lv_goto (tgt := 5) hx hb dX0_mostHops_38 (by decide) ?_
          have q_4 : (if mh o h x k9 < h k9 then h k9 else mh o h x k9 : Int32) = mh o h x (k9 + 1) := (by first | rfl | (simp only [mh, c_1, c_1', c_2, ↓reduceIte, Bool.false_eq_true, bI_true, bI_false, Bool.true_and, Bool.and_true, Bool.and_false, Bool.false_and, Bool.not_true, Bool.not_false, Bool.or_true, Bool.true_or, Bool.or_false, Bool.false_or] <;> rfl) | (simp [mh, c_1, c_1', c_2]; done))
          rw [q_4] at hl
          exact ih  ((k9 + 1)) (by omega) (by omega) H locs hP hD hS ls (lv_sub hl [0, 1, 2, 3] rfl)
  have q_5 : ((-6) : Int32) = mh o h x 0 := (by first | rfl | (simp only [mh, ↓reduceIte, Bool.false_eq_true, bI_true, bI_false, Bool.true_and, Bool.and_true, Bool.and_false, Bool.false_and, Bool.not_true, Bool.not_false, Bool.or_true, Bool.true_or, Bool.or_false, Bool.false_or] <;> rfl) | (simp [mh]; done))
  rw [q_5] at hl
  exact loop5 (n + 1) (0) (by omega) (by omega) _ _ hP hD hS ls (lv_sub hl [0, 1, 2, 3] rfl)
