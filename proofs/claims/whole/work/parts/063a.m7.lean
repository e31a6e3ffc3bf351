
set_option maxHeartbeats 8000000 in
set_option maxRecDepth 100000 in
theorem kX6_sign (l : Launch) (D : va_G) (T : Nat → ClassId) (Z : ZZ) (md : Nat → Nat) (n : Nat) (len : Nat) (p : Nat) (le : Nat) (ch : Nat → Nat) (hch : ∀ k, ch k < 128) (hlen : len ≤ 90) (hp : p ≤ 90) : CtI l D T Z yX6_sign wsX6_sign ({ frames := 0, cells := 0, slots := 0, locals := 0 }) [[((md 0), .inr (6, [.ref (md 1), .int (nI (n)), .ref (md 2), .int (nI (len)), .int (nI (p)), .int (nI (le)), .ref (md 3), .ref (md 4)]))], [((md 2), .inl (T 0, 90, .inl (nf ch)))]] [.ref (md 0)] (nI (sg ch len p)) [[((md 0), .inr (6, [.ref (md 1), .int (nI (n)), .ref (md 2), .int (nI (len)), .int (nI (p)), .int (nI (le)), .ref (md 3), .ref (md 4)]))], [((md 2), .inl (T 0, 90, .inl (nf ch)))]] := by
  have hc9 := hch p
  have hs9 := sg_lt (len := len) (p := p) hch
  refine CtI.of (cc := cX6_sign) (maxL := 1) (ret := (some .int)) (plainFor_of_name (by decide)) rfl rfl ?_
  intro pP eE s mM bW mE cC A hE hK hN hM hP hD hA
  obtain ⟨hx, hb, hr, hts, hown, hml, hlk⟩ := hE
  have hown : s.vm.findClass RX6 = some mM.cls := hown
  have hS : va_S A s.heap s.heap [] := va_S.rf
  have hl := lv_entry ([.ref (md 0)]) (n := 1) (Nat.le_of_ble_eq_true rfl)
  rw [lg_entry_eq]
  generalize (lg_sl ([.ref (md 0)]) ++ List.replicate (1 - (lg_sl ([.ref (md 0)])).length) Slot.unset).toArray = ls at hl ⊢
  have hl : lv_has ls 1 [(0, .ref (md 0))] := hl
  have w_142 := hts (.fieldLink RX6 142 "PoisonedMemoryModel" "at" "I") (by decide +kernel)
  have hinX6 : ∀ w ∈ wsX60, w ∈ wsX6_sign := by decide +kernel
  have w_139 := hts (.fieldLink RX6 139 "PoisonedMemoryModel" "length" "I") (by decide +kernel)
  have w_13 := hts (.fieldLink RX6 13 "PoisonedMemoryModel" "text" "[I") (by decide +kernel)
  refine lv_aload_n hx hb dX6_sign_0 rfl (lv_at hl 0 rfl) ?_
  refine va_get (D := D) (ci := 6) (v := .int (nI (p))) (C := RX6) (T := TX6) (N := 8) hx hb hts hinX6 hown hK (hP.at 0 rfl) 0 rfl rfl 4 (by decide) w_142 (fun _ h9 => h9) rfl dX6_sign_1 ?_
  refine lv_aload_n hx hb dX6_sign_4 rfl (lv_at hl 0 rfl) ?_
  refine va_get (D := D) (ci := 6) (v := .int (nI (len))) (C := RX6) (T := TX6) (N := 8) hx hb hts hinX6 hown hK (hP.at 0 rfl) 0 rfl rfl 3 (by decide) w_139 (fun _ h9 => h9) rfl dX6_sign_5 ?_
  refine fr_icmp_ge (p) (len) (by omega) (by omega) (tgt := 23) hx hb dX6_sign_8 (by decide) (fun c_1 => ?_) (fun c_1 => ?_)
  · have c_1' := Nat.not_lt.mpr c_1
    refine lv_iconst (v := nI 0) hx hb dX6_sign_23 (by decide) ?_
    exact fr_iret hx hb hr hlk hP hS (by first | rfl | (simp only [sg, c_1, c_1', ↓reduceIte, Bool.false_eq_true, bI_true, bI_false, Bool.true_and, Bool.and_true, Bool.and_false, Bool.false_and, Bool.not_true, Bool.not_false, Bool.or_true, Bool.true_or, Bool.or_false, Bool.false_or] <;> rfl) | (simp [sg, c_1, c_1', bI]; done)) rfl dX6_sign_24
  · have c_1' := Nat.not_le.mpr c_1
    refine lv_aload_n hx hb dX6_sign_11 rfl (lv_at hl 0 rfl) ?_
    refine va_get (D := D) (ci := 6) (v := .ref (md 2)) (C := RX6) (T := TX6) (N := 8) hx hb hts hinX6 hown hK (hP.at 0 rfl) 0 rfl rfl 2 (by decide) w_13 (fun _ h9 => h9) rfl dX6_sign_12 ?_
    refine lv_aload_n hx hb dX6_sign_15 rfl (lv_at hl 0 rfl) ?_
    refine va_get (D := D) (ci := 6) (v := .int (nI (p))) (C := RX6) (T := TX6) (N := 8) hx hb hts hinX6 hown hK (hP.at 0 rfl) 0 rfl rfl 4 (by decide) w_142 (fun _ h9 => h9) rfl dX6_sign_16 ?_
    refine fr_iald hx hb hK hP 1 (p) rfl (by omega) (by omega) dX6_sign_19 ?_
    refine fr_val (show (nf ch) p = nI (ch p) from rfl) ?_
    refine lv_goto (tgt := 24) hx hb dX6_sign_20 (by decide) ?_
    exact fr_iret hx hb hr hlk hP hS (by first | rfl | (simp only [sg, c_1, c_1', ↓reduceIte, Bool.false_eq_true, bI_true, bI_false, Bool.true_and, Bool.and_true, Bool.and_false, Bool.false_and, Bool.not_true, Bool.not_false, Bool.or_true, Bool.true_or, Bool.or_false, Bool.false_or] <;> rfl) | (simp [sg, c_1, c_1', bI]; done)) rfl dX6_sign_24

set_option maxHeartbeats 8000000 in
set_option maxRecDepth 100000 in
theorem kX6_takes (l : Launch) (D : va_G) (T : Nat → ClassId) (Z : ZZ) (md : Nat → Nat) (n : Nat) (len : Nat) (p : Nat) (le : Nat) (ch : Nat → Nat) (c : Nat) (hch : ∀ k, ch k < 128) (hlen : len ≤ 90) (hp : p ≤ 90) (hc7 : 0 < c) (hc8 : c < 128) : CtI l D T Z yX6_takes wsX6_takes ({ frames := 1, cells := 0, slots := 0, locals := 20 }) [[((md 0), .inr (6, [.ref (md 1), .int (nI (n)), .ref (md 2), .int (nI (len)), .int (nI (p)), .int (nI (le)), .ref (md 3), .ref (md 4)]))], [((md 2), .inl (T 0, 90, .inl (nf ch)))]] [.ref (md 0), .int (nI (c))] (bI (decide (sg ch len p = c))) [[((md 0), .inr (6, [.ref (md 1), .int (nI (n)), .ref (md 2), .int (nI (len)), .int (nI (tkP ch len c p)), .int (nI (le)), .ref (md 3), .ref (md 4)]))], [((md 2), .inl (T 0, 90, .inl (nf ch)))]] := by
  have hc9 := hch p
  have hs9 := sg_lt (len := len) (p := p) hch
  refine CtI.of (cc := cX6_takes) (maxL := 3) (ret := (some .boolean)) (plainFor_of_name (by decide)) rfl rfl ?_
  intro pP eE s mM bW mE cC A hE hK hN hM hP hD hA
  obtain ⟨hx, hb, hr, hts, hown, hml, hlk⟩ := hE
  have hown : s.vm.findClass RX6 = some mM.cls := hown
  have hS : va_S A s.heap s.heap [] := va_S.rf
  have hl := lv_entry ([.ref (md 0), .int (nI (c))]) (n := 3) (Nat.le_of_ble_eq_true rfl)
  rw [lg_entry_eq]
  generalize (lg_sl ([.ref (md 0), .int (nI (c))]) ++ List.replicate (3 - (lg_sl ([.ref (md 0), .int (nI (c))])).length) Slot.unset).toArray = ls at hl ⊢
  have hl : lv_has ls 3 [(0, .ref (md 0)), (1, .int (nI (c)))] := hl
  have w_142 := hts (.fieldLink RX6 142 "PoisonedMemoryModel" "at" "I") (by decide +kernel)
  have hinX6 : ∀ w ∈ wsX60, w ∈ wsX6_takes := by decide +kernel
  refine lv_aload_n hx hb dX6_takes_0 rfl (lv_at hl 0 rfl) ?_
  refine fr_Vi (As := []) (rest := []) (fs' := [[((md 0), .inr (6, [.ref (md 1), .int (nI (n)), .ref (md 2), .int (nI (len)), .int (nI (p)), .int (nI (le)), .ref (md 3), .ref (md 4)]))], [((md 2), .inl (T 0, 90, .inl (nf ch)))]]) (ci := 6) (q0 := (RX6, TX6, 8)) (i0 := 0) ⟨hx, hb, hml, hown, hts⟩ (kX6_sign l D T Z md n len p le ch hch hlen (by first | omega | (dsimp only; omega))) (cwV 0 hts gX6_takes_X6_sign rfl rfl rfl (by decide +kernel) ⟨Nat.le_of_ble_eq_true rfl, Nat.le_of_ble_eq_true rfl⟩) hK hN hM hP hD hS hA [0, 1] rfl rfl rfl rfl rfl rfl hl.1 rfl (Nat.le_of_ble_eq_true rfl) dX6_takes_1 ⟨Nat.zero_le _, Nat.zero_le _⟩ (fun H locs hP hD hS => ?_)
  refine lv_iload_n hx hb dX6_takes_4 rfl (lv_at hl 1 rfl) ?_
  refine fr_icmp_ne (sg ch len p) (c) (by omega) (by omega) (tgt := 12) hx hb dX6_takes_5 (by decide) (fun c_1 => ?_) (fun c_1 => ?_)
  · refine lv_iconst (v := nI 0) hx hb dX6_takes_12 (by decide) ?_
    refine lv_istore_n (lv' := [(2, .int (nI 0)), (0, .ref (md 0)), (1, .int (nI (c)))]) hx hb dX6_takes_13 rfl hl (by decide) rfl (fun ls hl => ?_)
    refine lv_aload_n hx hb dX6_takes_14 rfl (lv_at hl 1 rfl) ?_
    refine lv_dup hx hb dX6_takes_15 rfl ?_
    refine va_get (D := D) (ci := 6) (v := .int (nI (p))) (C := RX6) (T := TX6) (N := 8) hx hb hts hinX6 hown hK (hP.at 0 rfl) 0 rfl rfl 4 (by decide) w_142 (fun _ h9 => h9) rfl dX6_takes_16 ?_
    refine lv_iload_n hx hb dX6_takes_19 rfl (lv_at hl 0 rfl) ?_
    refine lv_if_eq (tgt := 27) hx hb dX6_takes_20 (by decide) (fun _ => ?_) (fun z => absurd (by decide) z)
    refine lv_iconst (v := nI 0) hx hb dX6_takes_27 (by decide) ?_
    refine fr_iadd (p) (0) hx hb dX6_takes_28 ?_
    refine fr_put (T := T) (C := RX6) (TT := TX6) (N := 8) (ci := 6) (v := .int (nI ((p + 0)))) (fs' := [[((md 0), .inr (6, [.ref (md 1), .int (nI (n)), .ref (md 2), .int (nI (len)), .int (nI ((p + 0))), .int (nI (le)), .ref (md 3), .ref (md 4)]))], [((md 2), .inl (T 0, 90, .inl (nf ch)))]]) (ty := .int) hx hb hts hinX6 tyX6 tyX6_ok nmX6 hown hK hP hD hS 0 rfl rfl 4 (by decide) rfl w_142 rfl rfl (by decide +kernel) rfl rfl (Nat.le_of_ble_eq_true rfl) dX6_takes_29 (fun H locs hP hD hS => ?_)
    refine lv_iload_n hx hb dX6_takes_32 rfl (lv_at hl 0 rfl) ?_
    exact fr_zret hx hb hr hlk hP hS (by first | rfl | (simp only [tkP, decide_true, decide_false, c_1, ↓reduceIte, Bool.false_eq_true, bI_true, bI_false, Bool.true_and, Bool.and_true, Bool.and_false, Bool.false_and, Bool.not_true, Bool.not_false, Bool.or_true, Bool.true_or, Bool.or_false, Bool.false_or] <;> rfl) | (simp [tkP, decide_true, decide_false, c_1, bI]; done)) (by first | rfl | (simp only [tkP, decide_true, decide_false, c_1, ↓reduceIte, Bool.false_eq_true, bI_true, bI_false, Bool.true_and, Bool.and_true, Bool.and_false, Bool.false_and, Bool.not_true, Bool.not_false, Bool.or_true, Bool.true_or, Bool.or_false, Bool.false_or] <;> rfl) | (simp [tkP, decide_true, decide_false, c_1, bI]; done)) rfl dX6_takes_33
  · refine lv_iconst (v := nI 1) hx hb dX6_takes_8 (by decide) ?_
    refine lv_goto (tgt := 13) hx hb dX6_takes_9 (by decide) ?_
    refine lv_istore_n (lv' := [(2, .int (nI 1)), (0, .ref (md 0)), (1, .int (nI (c)))]) hx hb dX6_takes_13 rfl hl (by decide) rfl (fun ls hl => ?_)
    refine lv_aload_n hx hb dX6_takes_14 rfl (lv_at hl 1 rfl) ?_
    refine lv_dup hx hb dX6_takes_15 rfl ?_
    refine va_get (D := D) (ci := 6) (v := .int (nI (p))) (C := RX6) (T := TX6) (N := 8) hx hb hts hinX6 hown hK (hP.at 0 rfl) 0 rfl rfl 4 (by decide) w_142 (fun _ h9 => h9) rfl dX6_takes_16 ?_
    refine lv_iload_n hx hb dX6_takes_19 rfl (lv_at hl 0 rfl) ?_
    refine lv_if_eq (tgt := 27) hx hb dX6_takes_20 (by decide) (fun z => absurd z (by decide)) (fun _ => ?_)
    refine lv_iconst (v := nI 1) hx hb dX6_takes_23 (by decide) ?_
    refine lv_goto (tgt := 28) hx hb dX6_takes_24 (by decide) ?_
    refine fr_iadd (p) (1) hx hb dX6_takes_28 ?_
    refine fr_put (T := T) (C := RX6) (TT := TX6) (N := 8) (ci := 6) (v := .int (nI ((p + 1)))) (fs' := [[((md 0), .inr (6, [.ref (md 1), .int (nI (n)), .ref (md 2), .int (nI (len)), .int (nI ((p + 1))), .int (nI (le)), .ref (md 3), .ref (md 4)]))], [((md 2), .inl (T 0, 90, .inl (nf ch)))]]) (ty := .int) hx hb hts hinX6 tyX6 tyX6_ok nmX6 hown hK hP hD hS 0 rfl rfl 4 (by decide) rfl w_142 rfl rfl (by decide +kernel) rfl rfl (Nat.le_of_ble_eq_true rfl) dX6_takes_29 (fun H locs hP hD hS => ?_)
    refine lv_iload_n hx hb dX6_takes_32 rfl (lv_at hl 0 rfl) ?_
    exact fr_zret hx hb hr hlk hP hS (by first | rfl | (simp only [tkP, decide_true, decide_false, c_1, ↓reduceIte, Bool.false_eq_true, bI_true, bI_false, Bool.true_and, Bool.and_true, Bool.and_false, Bool.false_and, Bool.not_true, Bool.not_false, Bool.or_true, Bool.true_or, Bool.or_false, Bool.false_or] <;> rfl) | (simp [tkP, decide_true, decide_false, c_1, bI]; done)) (by first | rfl | (simp only [tkP, decide_true, decide_false, c_1, ↓reduceIte, Bool.false_eq_true, bI_true, bI_false, Bool.true_and, Bool.and_true, Bool.and_false, Bool.false_and, Bool.not_true, Bool.not_false, Bool.or_true, Bool.true_or, Bool.or_false, Bool.false_or] <;> rfl) | (simp [tkP, decide_true, decide_false, c_1, bI]; done)) rfl dX6_takes_33

set_option maxHeartbeats 8000000 in
set_option maxRecDepth 100000 in
theorem kX6_readsDigits_2 (l : Launch) (D : va_G) (T : Nat → ClassId) (Z : ZZ) (md : Nat → Nat) (n : Nat) (len : Nat) (p : Nat) (le : Nat) (ch : Nat → Nat) (nu : Nat → Nat) (hch : ∀ k, ch k < 128) (hlen : len ≤ 90) (hp : p ≤ 90) : CtI l D T Z yX6_readsDigits wsX6_readsDigits ({ frames := 1, cells := 0, slots := 0, locals := 22 }) [[((md 0), .inr (6, [.ref (md 1), .int (nI (n)), .ref (md 2), .int (nI (len)), .int (nI (p)), .int (nI (le)), .ref (md 3), .ref (md 4)]))], [((md 2), .inl (T 0, 90, .inl (nf ch)))], [((md 3), .inl (T 0, 5, .inl (nf nu)))]] [.ref (md 0), .int (nI 2)] (bI ((dgR ch len 2 0 p nu).1)) [[((md 0), .inr (6, [.ref (md 1), .int (nI (n)), .ref (md 2), .int (nI (len)), .int (nI ((dgR ch len 2 0 p nu).2.1)), .int (nI (le)), .ref (md 3), .ref (md 4)]))], [((md 2), .inl (T 0, 90, .inl (nf ch)))], [((md 3), .inl (T 0, 5, .inl (nf ((dgR ch len 2 0 p nu).2.2))))]] := by
  have hc9 := hch p
  have hs9 := sg_lt (len := len) (p := p) hch
  have hs1 := sg_lt (len := len) (p := p + 1) hch
  have hi0 := sg_in (ch := ch) (len := len) (p := p)
  have hi1 := sg_in (ch := ch) (len := len) (p := p + 1)
  refine CtI.of (cc := cX6_readsDigits) (maxL := 3) (ret := (some .boolean)) (plainFor_of_name (by decide)) rfl rfl ?_
  intro pP eE s mM bW mE cC A hE hK hN hM hP hD hA
  obtain ⟨hx, hb, hr, hts, hown, hml, hlk⟩ := hE
  have hown : s.vm.findClass RX6 = some mM.cls := hown
  have hS : va_S A s.heap s.heap [] := va_S.rf
  have hl := lv_entry ([.ref (md 0), .int (nI 2)]) (n := 3) (Nat.le_of_ble_eq_true rfl)
  rw [lg_entry_eq]
  generalize (lg_sl ([.ref (md 0), .int (nI 2)]) ++ List.replicate (3 - (lg_sl ([.ref (md 0), .int (nI 2)])).length) Slot.unset).toArray = ls at hl ⊢
  have hl : lv_has ls 3 [(0, .ref (md 0)), (1, .int (nI 2))] := hl
  have w_16 := hts (.fieldLink RX6 16 "PoisonedMemoryModel" "numbers" "[I") (by decide +kernel)
  have hinX6 : ∀ w ∈ wsX60, w ∈ wsX6_readsDigits := by decide +kernel
  have w_142 := hts (.fieldLink RX6 142 "PoisonedMemoryModel" "at" "I") (by decide +kernel)
  refine lv_iconst (v := nI 0) hx hb dX6_readsDigits_0 (by decide) ?_
  refine lv_istore_n (lv' := [(2, .int (nI 0)), (0, .ref (md 0)), (1, .int (nI 2))]) hx hb dX6_readsDigits_1 rfl hl (by decide) rfl (fun ls hl => ?_)
  refine lv_iload_n hx hb dX6_readsDigits_2 rfl (lv_at hl 0 rfl) ?_
  refine lv_iload_n hx hb dX6_readsDigits_3 rfl (lv_at hl 2 rfl) ?_
  refine fr_icmp_ge 0 2 (by decide) (by decide) (tgt := 52) hx hb dX6_readsDigits_4 (by decide) (fun z => absurd z (by decide)) (fun _ => ?_)
  refine lv_aload_n hx hb dX6_readsDigits_7 rfl (lv_at hl 1 rfl) ?_
  refine fr_Vi (As := []) (rest := []) (fs' := [[((md 0), .inr (6, [.ref (md 1), .int (nI (n)), .ref (md 2), .int (nI (len)), .int (nI (p)), .int (nI (le)), .ref (md 3), .ref (md 4)]))], [((md 2), .inl (T 0, 90, .inl (nf ch)))], [((md 3), .inl (T 0, 5, .inl (nf nu)))]]) (ci := 6) (q0 := (RX6, TX6, 8)) (i0 := 0) ⟨hx, hb, hml, hown, hts⟩ (kX6_sign l D T Z md n len p le ch hch hlen (by first | omega | (dsimp only; omega))) (cwV 0 hts gX6_readsDigits_X6_sign rfl rfl rfl (by decide +kernel) ⟨Nat.le_of_ble_eq_true rfl, Nat.le_of_ble_eq_true rfl⟩) hK hN hM hP hD hS hA [0, 1] rfl rfl rfl rfl rfl rfl hl.1 rfl (Nat.le_of_ble_eq_true rfl) dX6_readsDigits_8 ⟨Nat.zero_le _, Nat.zero_le _⟩ (fun H locs hP hD hS => ?_)
  refine lv_bipush (v := nI 48) hx hb dX6_readsDigits_11 (by decide) ?_
  refine lv_bipush (v := nI 51) hx hb dX6_readsDigits_13 (by decide) ?_
  refine fr_S0 (As := [.int (nI (sg ch len p)), .int (nI 48), .int (nI 51)]) (rest := []) ⟨hx, hb, hml, hown, hts⟩ (kX6_in_n l D T Z (sg ch len p) 48 51 (by omega) (by decide) (by decide)) (va_cwS 3 hts gX6_readsDigits_X6_in rfl rfl rfl (by decide +kernel) ⟨Nat.le_of_ble_eq_true rfl, Nat.le_of_ble_eq_true rfl⟩) hK hN hM hP hD hS hA rfl hl.1 rfl (Nat.le_of_ble_eq_true rfl) dX6_readsDigits_15 ⟨Nat.zero_le _, Nat.zero_le _⟩ (fun H locs hP hD hS => ?_)
  refine fr_ifne_b (tgt := 23) hx hb dX6_readsDigits_18 (by decide) (fun c_1 => ?_) (fun c_1 => ?_)
  · have c_1d := innN_t c_1
    have c_1l := sg_in (ch := ch) (len := len) (p := p) (by omega)
    refine lv_aload_n hx hb dX6_readsDigits_23 rfl (lv_at hl 1 rfl) ?_
    refine va_get (D := D) (ci := 6) (v := .ref (md 3)) (C := RX6) (T := TX6) (N := 8) hx hb hts hinX6 hown hK (hP.at 0 rfl) 0 rfl rfl 6 (by decide) w_16 (fun _ h9 => h9) rfl dX6_readsDigits_24 ?_
    refine lv_iload_n hx hb dX6_readsDigits_27 rfl (lv_at hl 0 rfl) ?_
    refine lv_aload_n hx hb dX6_readsDigits_28 rfl (lv_at hl 1 rfl) ?_
    refine fr_Vi (As := []) (rest := [.int (nI 0), .ref (md 3)]) (fs' := [[((md 0), .inr (6, [.ref (md 1), .int (nI (n)), .ref (md 2), .int (nI (len)), .int (nI (p)), .int (nI (le)), .ref (md 3), .ref (md 4)]))], [((md 2), .inl (T 0, 90, .inl (nf ch)))], [((md 3), .inl (T 0, 5, .inl (nf nu)))]]) (ci := 6) (q0 := (RX6, TX6, 8)) (i0 := 0) ⟨hx, hb, hml, hown, hts⟩ (kX6_sign l D T Z md n len p le ch hch hlen (by first | omega | (dsimp only; omega))) (cwV 0 hts gX6_readsDigits_X6_sign rfl rfl rfl (by decide +kernel) ⟨Nat.le_of_ble_eq_true rfl, Nat.le_of_ble_eq_true rfl⟩) hK hN hM hP hD hS hA [0, 1] rfl rfl rfl rfl rfl rfl hl.1 rfl (Nat.le_of_ble_eq_true rfl) dX6_readsDigits_29 ⟨Nat.zero_le _, Nat.zero_le _⟩ (fun H locs hP hD hS => ?_)
    refine lv_bipush (v := nI 48) hx hb dX6_readsDigits_32 (by decide) ?_
    refine fr_isub (sg ch len p) (48) (by omega) hx hb dX6_readsDigits_34 ?_
    refine fr_iastn (g := nu) (fs' := [[((md 0), .inr (6, [.ref (md 1), .int (nI (n)), .ref (md 2), .int (nI (len)), .int (nI (p)), .int (nI (le)), .ref (md 3), .ref (md 4)]))], [((md 2), .inl (T 0, 90, .inl (nf ch)))], [((md 3), .inl (T 0, 5, .inl (nf (updN nu 0 (sg ch len p - 48)))))]]) hx hb hK hP hD hS 2 (0) rfl rfl (by decide) (by decide) dX6_readsDigits_35 (fun H locs hP hD hS => ?_)
    refine lv_aload_n hx hb dX6_readsDigits_36 rfl (lv_at hl 1 rfl) ?_
    refine lv_dup hx hb dX6_readsDigits_37 rfl ?_
    refine va_get (D := D) (ci := 6) (v := .int (nI (p))) (C := RX6) (T := TX6) (N := 8) hx hb hts hinX6 hown hK (hP.at 0 rfl) 0 rfl rfl 4 (by decide) w_142 (fun _ h9 => h9) rfl dX6_readsDigits_38 ?_
    refine lv_iconst (v := nI 1) hx hb dX6_readsDigits_41 (by decide) ?_
    refine fr_iadd (p) (1) hx hb dX6_readsDigits_42 ?_
    refine fr_put (T := T) (C := RX6) (TT := TX6) (N := 8) (ci := 6) (v := .int (nI ((p + 1)))) (fs' := [[((md 0), .inr (6, [.ref (md 1), .int (nI (n)), .ref (md 2), .int (nI (len)), .int (nI ((p + 1))), .int (nI (le)), .ref (md 3), .ref (md 4)]))], [((md 2), .inl (T 0, 90, .inl (nf ch)))], [((md 3), .inl (T 0, 5, .inl (nf (updN nu 0 (sg ch len p - 48)))))]]) (ty := .int) hx hb hts hinX6 tyX6 tyX6_ok nmX6 hown hK hP hD hS 0 rfl rfl 4 (by decide) rfl w_142 rfl rfl (by decide +kernel) rfl rfl (Nat.le_of_ble_eq_true rfl) dX6_readsDigits_43 (fun H locs hP hD hS => ?_)
    refine fr_iinc (0) (1) (nI_inc _) (lv' := [(2, .int (nI 1)), (0, .ref (md 0)), (1, .int (nI 2))]) (k := 0) hx hb dX6_readsDigits_46 hl rfl (by decide) rfl (fun ls hl => ?_)
    refine lv_goto (tgt := 2) hx hb dX6_readsDigits_49 (by decide) ?_
    refine lv_iload_n hx hb dX6_readsDigits_2 rfl (lv_at hl 0 rfl) ?_
    refine lv_iload_n hx hb dX6_readsDigits_3 rfl (lv_at hl 2 rfl) ?_
    refine fr_icmp_ge 1 2 (by decide) (by decide) (tgt := 52) hx hb dX6_readsDigits_4 (by decide) (fun z => absurd z (by decide)) (fun _ => ?_)
    refine lv_aload_n hx hb dX6_readsDigits_7 rfl (lv_at hl 1 rfl) ?_
    refine fr_Vi (As := []) (rest := []) (fs' := [[((md 0), .inr (6, [.ref (md 1), .int (nI (n)), .ref (md 2), .int (nI (len)), .int (nI ((p + 1))), .int (nI (le)), .ref (md 3), .ref (md 4)]))], [((md 2), .inl (T 0, 90, .inl (nf ch)))], [((md 3), .inl (T 0, 5, .inl (nf (updN nu 0 (sg ch len p - 48)))))]]) (ci := 6) (q0 := (RX6, TX6, 8)) (i0 := 0) ⟨hx, hb, hml, hown, hts⟩ (kX6_sign l D T Z md n len (p + 1) le ch hch hlen (by first | omega | (dsimp only; omega))) (cwV 0 hts gX6_readsDigits_X6_sign rfl rfl rfl (by decide +kernel) ⟨Nat.le_of_ble_eq_true rfl, Nat.le_of_ble_eq_true rfl⟩) hK hN hM hP hD hS hA [0, 1] rfl rfl rfl rfl rfl rfl hl.1 rfl (Nat.le_of_ble_eq_true rfl) dX6_readsDigits_8 ⟨Nat.zero_le _, Nat.zero_le _⟩ (fun H locs hP hD hS => ?_)
    refine lv_bipush (v := nI 48) hx hb dX6_readsDigits_11 (by decide) ?_
    refine lv_bipush (v := nI 51) hx hb dX6_readsDigits_13 (by decide) ?_
    refine fr_S0 (As := [.int (nI (sg ch len (p + 1))), .int (nI 48), .int (nI 51)]) (rest := []) ⟨hx, hb, hml, hown, hts⟩ (kX6_in_n l D T Z (sg ch len (p + 1)) 48 51 (by omega) (by decide) (by decide)) (va_cwS 3 hts gX6_readsDigits_X6_in rfl rfl rfl (by decide +kernel) ⟨Nat.le_of_ble_eq_true rfl, Nat.le_of_ble_eq_true rfl⟩) hK hN hM hP hD hS hA rfl hl.1 rfl (Nat.le_of_ble_eq_true rfl) dX6_readsDigits_15 ⟨Nat.zero_le _, Nat.zero_le _⟩ (fun H locs hP hD hS => ?_)
    refine fr_ifne_b (tgt := 23) hx hb dX6_readsDigits_18 (by decide) (fun c_2 => ?_) (fun c_2 => ?_)
    · have c_2d := innN_t c_2
      have c_2l := sg_in (ch := ch) (len := len) (p := (p + 1)) (by omega)
      refine lv_aload_n hx hb dX6_readsDigits_23 rfl (lv_at hl 1 rfl) ?_
      refine va_get (D := D) (ci := 6) (v := .ref (md 3)) (C := RX6) (T := TX6) (N := 8) hx hb hts hinX6 hown hK (hP.at 0 rfl) 0 rfl rfl 6 (by decide) w_16 (fun _ h9 => h9) rfl dX6_readsDigits_24 ?_
      refine lv_iload_n hx hb dX6_readsDigits_27 rfl (lv_at hl 0 rfl) ?_
      refine lv_aload_n hx hb dX6_readsDigits_28 rfl (lv_at hl 1 rfl) ?_
      refine fr_Vi (As := []) (rest := [.int (nI 1), .ref (md 3)]) (fs' := [[((md 0), .inr (6, [.ref (md 1), .int (nI (n)), .ref (md 2), .int (nI (len)), .int (nI ((p + 1))), .int (nI (le)), .ref (md 3), .ref (md 4)]))], [((md 2), .inl (T 0, 90, .inl (nf ch)))], [((md 3), .inl (T 0, 5, .inl (nf (updN nu 0 (sg ch len p - 48)))))]]) (ci := 6) (q0 := (RX6, TX6, 8)) (i0 := 0) ⟨hx, hb, hml, hown, hts⟩ (kX6_sign l D T Z md n len (p + 1) le ch hch hlen (by first | omega | (dsimp only; omega))) (cwV 0 hts gX6_readsDigits_X6_sign rfl rfl rfl (by decide +kernel) ⟨Nat.le_of_ble_eq_true rfl, Nat.le_of_ble_eq_true rfl⟩) hK hN hM hP hD hS hA [0, 1] rfl rfl rfl rfl rfl rfl hl.1 rfl (Nat.le_of_ble_eq_true rfl) dX6_readsDigits_29 ⟨Nat.zero_le _, Nat.zero_le _⟩ (fun H locs hP hD hS => ?_)
      refine lv_bipush (v := nI 48) hx hb dX6_readsDigits_32 (by decide) ?_
      refine fr_isub (sg ch len (p + 1)) (48) (by omega) hx hb dX6_readsDigits_34 ?_
      refine fr_iastn (g := (updN nu 0 (sg ch len p - 48))) (fs' := [[((md 0), .inr (6, [.ref (md 1), .int (nI (n)), .ref (md 2), .int (nI (len)), .int (nI ((p + 1))), .int (nI (le)), .ref (md 3), .ref (md 4)]))], [((md 2), .inl (T 0, 90, .inl (nf ch)))], [((md 3), .inl (T 0, 5, .inl (nf (updN (updN nu 0 (sg ch len p - 48)) 1 (sg ch len (p + 1) - 48)))))]]) hx hb hK hP hD hS 2 (1) rfl rfl (by decide) (by decide) dX6_readsDigits_35 (fun H locs hP hD hS => ?_)
      refine lv_aload_n hx hb dX6_readsDigits_36 rfl (lv_at hl 1 rfl) ?_
      refine lv_dup hx hb dX6_readsDigits_37 rfl ?_
      refine va_get (D := D) (ci := 6) (v := .int (nI ((p + 1)))) (C := RX6) (T := TX6) (N := 8) hx hb hts hinX6 hown hK (hP.at 0 rfl) 0 rfl rfl 4 (by decide) w_142 (fun _ h9 => h9) rfl dX6_readsDigits_38 ?_
      refine lv_iconst (v := nI 1) hx hb dX6_readsDigits_41 (by decide) ?_
      refine fr_iadd ((p + 1)) (1) hx hb dX6_readsDigits_42 ?_
      refine fr_put (T := T) (C := RX6) (TT := TX6) (N := 8) (ci := 6) (v := .int (nI (((p + 1) + 1)))) (fs' := [[((md 0), .inr (6, [.ref (md 1), .int (nI (n)), .ref (md 2), .int (nI (len)), .int (nI (((p + 1) + 1))), .int (nI (le)), .ref (md 3), .ref (md 4)]))], [((md 2), .inl (T 0, 90, .inl (nf ch)))], [((md 3), .inl (T 0, 5, .inl (nf (updN (updN nu 0 (sg ch len p - 48)) 1 (sg ch len (p + 1) - 48)))))]]) (ty := .int) hx hb hts hinX6 tyX6 tyX6_ok nmX6 hown hK hP hD hS 0 rfl rfl 4 (by decide) rfl w_142 rfl rfl (by decide +kernel) rfl rfl (Nat.le_of_ble_eq_true rfl) dX6_readsDigits_43 (fun H locs hP hD hS => ?_)
      refine fr_iinc (1) (2) (nI_inc _) (lv' := [(2, .int (nI 2)), (0, .ref (md 0)), (1, .int (nI 2))]) (k := 0) hx hb dX6_readsDigits_46 hl rfl (by decide) rfl (fun ls hl => ?_)
      refine lv_goto (tgt := 2) hx hb dX6_readsDigits_49 (by decide) ?_
      refine lv_iload_n hx hb dX6_readsDigits_2 rfl (lv_at hl 0 rfl) ?_
      refine lv_iload_n hx hb dX6_readsDigits_3 rfl (lv_at hl 2 rfl) ?_
      refine fr_icmp_ge 2 2 (by decide) (by decide) (tgt := 52) hx hb dX6_readsDigits_4 (by decide) (fun _ => ?_) (fun z => absurd z (by decide))
      refine lv_iconst (v := nI 1) hx hb dX6_readsDigits_52 (by decide) ?_
      exact fr_zret hx hb hr hlk hP hS (by first | rfl | (simp only [dgR, c_1, c_2, ↓reduceIte, Bool.false_eq_true, bI_true, bI_false, Bool.true_and, Bool.and_true, Bool.and_false, Bool.false_and, Bool.not_true, Bool.not_false, Bool.or_true, Bool.true_or, Bool.or_false, Bool.false_or] <;> rfl) | (simp [dgR, c_1, c_2, bI]; done)) (by first | rfl | (simp only [dgR, c_1, c_2, ↓reduceIte, Bool.false_eq_true, bI_true, bI_false, Bool.true_and, Bool.and_true, Bool.and_false, Bool.false_and, Bool.not_true, Bool.not_false, Bool.or_true, Bool.true_or, Bool.or_false, Bool.false_or] <;> rfl) | (simp [dgR, c_1, c_2, bI]; done)) rfl dX6_readsDigits_53
    · refine lv_iconst (v := nI 0) hx hb dX6_readsDigits_21 (by decide) ?_
      exact fr_zret hx hb hr hlk hP hS (by first | rfl | (simp only [dgR, c_1, c_2, ↓reduceIte, Bool.false_eq_true, bI_true, bI_false, Bool.true_and, Bool.and_true, Bool.and_false, Bool.false_and, Bool.not_true, Bool.not_false, Bool.or_true, Bool.true_or, Bool.or_false, Bool.false_or] <;> rfl) | (simp [dgR, c_1, c_2, bI]; done)) (by first | rfl | (simp only [dgR, c_1, c_2, ↓reduceIte, Bool.false_eq_true, bI_true, bI_false, Bool.true_and, Bool.and_true, Bool.and_false, Bool.false_and, Bool.not_true, Bool.not_false, Bool.or_true, Bool.true_or, Bool.or_false, Bool.false_or] <;> rfl) | (simp [dgR, c_1, c_2, bI]; done)) rfl dX6_readsDigits_22
  · refine lv_iconst (v := nI 0) hx hb dX6_readsDigits_21 (by decide) ?_
    exact fr_zret hx hb hr hlk hP hS (by first | rfl | (simp only [dgR, c_1, ↓reduceIte, Bool.false_eq_true, bI_true, bI_false, Bool.true_and, Bool.and_true, Bool.and_false, Bool.false_and, Bool.not_true, Bool.not_false, Bool.or_true, Bool.true_or, Bool.or_false, Bool.false_or] <;> rfl) | (simp [dgR, c_1, bI]; done)) (by first | rfl | (simp only [dgR, c_1, ↓reduceIte, Bool.false_eq_true, bI_true, bI_false, Bool.true_and, Bool.and_true, Bool.and_false, Bool.false_and, Bool.not_true, Bool.not_false, Bool.or_true, Bool.true_or, Bool.or_false, Bool.false_or] <;> rfl) | (simp [dgR, c_1, bI]; done)) rfl dX6_readsDigits_22

set_option maxHeartbeats 8000000 in
set_option maxRecDepth 100000 in
theorem kX6_readsDigits_3 (l : Launch) (D : va_G) (T : Nat → ClassId) (Z : ZZ) (md : Nat → Nat) (n : Nat) (len : Nat) (p : Nat) (le : Nat) (ch : Nat → Nat) (nu : Nat → Nat) (hch : ∀ k, ch k < 128) (hlen : len ≤ 90) (hp : p ≤ 90) : CtI l D T Z yX6_readsDigits wsX6_readsDigits ({ frames := 1, cells := 0, slots := 0, locals := 22 }) [[((md 0), .inr (6, [.ref (md 1), .int (nI (n)), .ref (md 2), .int (nI (len)), .int (nI (p)), .int (nI (le)), .ref (md 3), .ref (md 4)]))], [((md 2), .inl (T 0, 90, .inl (nf ch)))], [((md 3), .inl (T 0, 5, .inl (nf nu)))]] [.ref (md 0), .int (nI 3)] (bI ((dgR ch len 3 0 p nu).1)) [[((md 0), .inr (6, [.ref (md 1), .int (nI (n)), .ref (md 2), .int (nI (len)), .int (nI ((dgR ch len 3 0 p nu).2.1)), .int (nI (le)), .ref (md 3), .ref (md 4)]))], [((md 2), .inl (T 0, 90, .inl (nf ch)))], [((md 3), .inl (T 0, 5, .inl (nf ((dgR ch len 3 0 p nu).2.2))))]] := by
  have hc9 := hch p
  have hs9 := sg_lt (len := len) (p := p) hch
  have hs1 := sg_lt (len := len) (p := p + 1) hch
  have hs2 := sg_lt (len := len) (p := p + 1 + 1) hch
  have hi0 := sg_in (ch := ch) (len := len) (p := p)
  have hi1 := sg_in (ch := ch) (len := len) (p := p + 1)
  have hi2 := sg_in (ch := ch) (len := len) (p := p + 1 + 1)
  refine CtI.of (cc := cX6_readsDigits) (maxL := 3) (ret := (some .boolean)) (plainFor_of_name (by decide)) rfl rfl ?_
  intro pP eE s mM bW mE cC A hE hK hN hM hP hD hA
  obtain ⟨hx, hb, hr, hts, hown, hml, hlk⟩ := hE
  have hown : s.vm.findClass RX6 = some mM.cls := hown
  have hS : va_S A s.heap s.heap [] := va_S.rf
  have hl := lv_entry ([.ref (md 0), .int (nI 3)]) (n := 3) (Nat.le_of_ble_eq_true rfl)
  rw [lg_entry_eq]
  generalize (lg_sl ([.ref (md 0), .int (nI 3)]) ++ List.replicate (3 - (lg_sl ([.ref (md 0), .int (nI 3)])).length) Slot.unset).toArray = ls at hl ⊢
  have hl : lv_has ls 3 [(0, .ref (md 0)), (1, .int (nI 3))] := hl
  have w_16 := hts (.fieldLink RX6 16 "PoisonedMemoryModel" "numbers" "[I") (by decide +kernel)
  have hinX6 : ∀ w ∈ wsX60, w ∈ wsX6_readsDigits := by decide +kernel
  have w_142 := hts (.fieldLink RX6 142 "PoisonedMemoryModel" "at" "I") (by decide +kernel)
  refine lv_iconst (v := nI 0) hx hb dX6_readsDigits_0 (by decide) ?_
  refine lv_istore_n (lv' := [(2, .int (nI 0)), (0, .ref (md 0)), (1, .int (nI 3))]) hx hb dX6_readsDigits_1 rfl hl (by decide) rfl (fun ls hl => ?_)
  refine lv_iload_n hx hb dX6_readsDigits_2 rfl (lv_at hl 0 rfl) ?_
  refine lv_iload_n hx hb dX6_readsDigits_3 rfl (lv_at hl 2 rfl) ?_
  refine fr_icmp_ge 0 3 (by decide) (by decide) (tgt := 52) hx hb dX6_readsDigits_4 (by decide) (fun z => absurd z (by decide)) (fun _ => ?_)
  refine lv_aload_n hx hb dX6_readsDigits_7 rfl (lv_at hl 1 rfl) ?_
  refine fr_Vi (As := []) (rest := []) (fs' := [[((md 0), .inr (6, [.ref (md 1), .int (nI (n)), .ref (md 2), .int (nI (len)), .int (nI (p)), .int (nI (le)), .ref (md 3), .ref (md 4)]))], [((md 2), .inl (T 0, 90, .inl (nf ch)))], [((md 3), .inl (T 0, 5, .inl (nf nu)))]]) (ci := 6) (q0 := (RX6, TX6, 8)) (i0 := 0) ⟨hx, hb, hml, hown, hts⟩ (kX6_sign l D T Z md n len p le ch hch hlen (by first | omega | (dsimp only; omega))) (cwV 0 hts gX6_readsDigits_X6_sign rfl rfl rfl (by decide +kernel) ⟨Nat.le_of_ble_eq_true rfl, Nat.le_of_ble_eq_true rfl⟩) hK hN hM hP hD hS hA [0, 1] rfl rfl rfl rfl rfl rfl hl.1 rfl (Nat.le_of_ble_eq_true rfl) dX6_readsDigits_8 ⟨Nat.zero_le _, Nat.zero_le _⟩ (fun H locs hP hD hS => ?_)
  refine lv_bipush (v := nI 48) hx hb dX6_readsDigits_11 (by decide) ?_
  refine lv_bipush (v := nI 51) hx hb dX6_readsDigits_13 (by decide) ?_
  refine fr_S0 (As := [.int (nI (sg ch len p)), .int (nI 48), .int (nI 51)]) (rest := []) ⟨hx, hb, hml, hown, hts⟩ (kX6_in_n l D T Z (sg ch len p) 48 51 (by omega) (by decide) (by decide)) (va_cwS 3 hts gX6_readsDigits_X6_in rfl rfl rfl (by decide +kernel) ⟨Nat.le_of_ble_eq_true rfl, Nat.le_of_ble_eq_true rfl⟩) hK hN hM hP hD hS hA rfl hl.1 rfl (Nat.le_of_ble_eq_true rfl) dX6_readsDigits_15 ⟨Nat.zero_le _, Nat.zero_le _⟩ (fun H locs hP hD hS => ?_)
  refine fr_ifne_b (tgt := 23) hx hb dX6_readsDigits_18 (by decide) (fun c_1 => ?_) (fun c_1 => ?_)
  · have c_1d := innN_t c_1
    have c_1l := sg_in (ch := ch) (len := len) (p := p) (by omega)
    refine lv_aload_n hx hb dX6_readsDigits_23 rfl (lv_at hl 1 rfl) ?_
    refine va_get (D := D) (ci := 6) (v := .ref (md 3)) (C := RX6) (T := TX6) (N := 8) hx hb hts hinX6 hown hK (hP.at 0 rfl) 0 rfl rfl 6 (by decide) w_16 (fun _ h9 => h9) rfl dX6_readsDigits_24 ?_
    refine lv_iload_n hx hb dX6_readsDigits_27 rfl (lv_at hl 0 rfl) ?_
    refine lv_aload_n hx hb dX6_readsDigits_28 rfl (lv_at hl 1 rfl) ?_
    refine fr_Vi (As := []) (rest := [.int (nI 0), .ref (md 3)]) (fs' := [[((md 0), .inr (6, [.ref (md 1), .int (nI (n)), .ref (md 2), .int (nI (len)), .int (nI (p)), .int (nI (le)), .ref (md 3), .ref (md 4)]))], [((md 2), .inl (T 0, 90, .inl (nf ch)))], [((md 3), .inl (T 0, 5, .inl (nf nu)))]]) (ci := 6) (q0 := (RX6, TX6, 8)) (i0 := 0) ⟨hx, hb, hml, hown, hts⟩ (kX6_sign l D T Z md n len p le ch hch hlen (by first | omega | (dsimp only; omega))) (cwV 0 hts gX6_readsDigits_X6_sign rfl rfl rfl (by decide +kernel) ⟨Nat.le_of_ble_eq_true rfl, Nat.le_of_ble_eq_true rfl⟩) hK hN hM hP hD hS hA [0, 1] rfl rfl rfl rfl rfl rfl hl.1 rfl (Nat.le_of_ble_eq_true rfl) dX6_readsDigits_29 ⟨Nat.zero_le _, Nat.zero_le _⟩ (fun H locs hP hD hS => ?_)
    refine lv_bipush (v := nI 48) hx hb dX6_readsDigits_32 (by decide) ?_
    refine fr_isub (sg ch len p) (48) (by omega) hx hb dX6_readsDigits_34 ?_
    refine fr_iastn (g := nu) (fs' := [[((md 0), .inr (6, [.ref (md 1), .int (nI (n)), .ref (md 2), .int (nI (len)), .int (nI (p)), .int (nI (le)), .ref (md 3), .ref (md 4)]))], [((md 2), .inl (T 0, 90, .inl (nf ch)))], [((md 3), .inl (T 0, 5, .inl (nf (updN nu 0 (sg ch len p - 48)))))]]) hx hb hK hP hD hS 2 (0) rfl rfl (by decide) (by decide) dX6_readsDigits_35 (fun H locs hP hD hS => ?_)
    refine lv_aload_n hx hb dX6_readsDigits_36 rfl (lv_at hl 1 rfl) ?_
    refine lv_dup hx hb dX6_readsDigits_37 rfl ?_
    refine va_get (D := D) (ci := 6) (v := .int (nI (p))) (C := RX6) (T := TX6) (N := 8) hx hb hts hinX6 hown hK (hP.at 0 rfl) 0 rfl rfl 4 (by decide) w_142 (fun _ h9 => h9) rfl dX6_readsDigits_38 ?_
    refine lv_iconst (v := nI 1) hx hb dX6_readsDigits_41 (by decide) ?_
    refine fr_iadd (p) (1) hx hb dX6_readsDigits_42 ?_
    refine fr_put (T := T) (C := RX6) (TT := TX6) (N := 8) (ci := 6) (v := .int (nI ((p + 1)))) (fs' := [[((md 0), .inr (6, [.ref (md 1), .int (nI (n)), .ref (md 2), .int (nI (len)), .int (nI ((p + 1))), .int (nI (le)), .ref (md 3), .ref (md 4)]))], [((md 2), .inl (T 0, 90, .inl (nf ch)))], [((md 3), .inl (T 0, 5, .inl (nf (updN nu 0 (sg ch len p - 48)))))]]) (ty := .int) hx hb hts hinX6 tyX6 tyX6_ok nmX6 hown hK hP hD hS 0 rfl rfl 4 (by decide) rfl w_142 rfl rfl (by decide +kernel) rfl rfl (Nat.le_of_ble_eq_true rfl) dX6_readsDigits_43 (fun H locs hP hD hS => ?_)
    refine fr_iinc (0) (1) (nI_inc _) (lv' := [(2, .int (nI 1)), (0, .ref (md 0)), (1, .int (nI 3))]) (k := 0) hx hb dX6_readsDigits_46 hl rfl (by decide) rfl (fun ls hl => ?_)
    refine lv_goto (tgt := 2) hx hb dX6_readsDigits_49 (by decide) ?_
    refine lv_iload_n hx hb dX6_readsDigits_2 rfl (lv_at hl 0 rfl) ?_
    refine lv_iload_n hx hb dX6_readsDigits_3 rfl (lv_at hl 2 rfl) ?_
    refine fr_icmp_ge 1 3 (by decide) (by decide) (tgt := 52) hx hb dX6_readsDigits_4 (by decide) (fun z => absurd z (by decide)) (fun _ => ?_)
    refine lv_aload_n hx hb dX6_readsDigits_7 rfl (lv_at hl 1 rfl) ?_
    refine fr_Vi (As := []) (rest := []) (fs' := [[((md 0), .inr (6, [.ref (md 1), .int (nI (n)), .ref (md 2), .int (nI (len)), .int (nI ((p + 1))), .int (nI (le)), .ref (md 3), .ref (md 4)]))], [((md 2), .inl (T 0, 90, .inl (nf ch)))], [((md 3), .inl (T 0, 5, .inl (nf (updN nu 0 (sg ch len p - 48)))))]]) (ci := 6) (q0 := (RX6, TX6, 8)) (i0 := 0) ⟨hx, hb, hml, hown, hts⟩ (kX6_sign l D T Z md n len (p + 1) le ch hch hlen (by first | omega | (dsimp only; omega))) (cwV 0 hts gX6_readsDigits_X6_sign rfl rfl rfl (by decide +kernel) ⟨Nat.le_of_ble_eq_true rfl, Nat.le_of_ble_eq_true rfl⟩) hK hN hM hP hD hS hA [0, 1] rfl rfl rfl rfl rfl rfl hl.1 rfl (Nat.le_of_ble_eq_true rfl) dX6_readsDigits_8 ⟨Nat.zero_le _, Nat.zero_le _⟩ (fun H locs hP hD hS => ?_)
    refine lv_bipush (v := nI 48) hx hb dX6_readsDigits_11 (by decide) ?_
    refine lv_bipush (v := nI 51) hx hb dX6_readsDigits_13 (by decide) ?_
    refine fr_S0 (As := [.int (nI (sg ch len (p + 1))), .int (nI 48), .int (nI 51)]) (rest := []) ⟨hx, hb, hml, hown, hts⟩ (kX6_in_n l D T Z (sg ch len (p + 1)) 48 51 (by omega) (by decide) (by decide)) (va_cwS 3 hts gX6_readsDigits_X6_in rfl rfl rfl (by decide +kernel) ⟨Nat.le_of_ble_eq_true rfl, Nat.le_of_ble_eq_true rfl⟩) hK hN hM hP hD hS hA rfl hl.1 rfl (Nat.le_of_ble_eq_true rfl) dX6_readsDigits_15 ⟨Nat.zero_le _, Nat.zero_le _⟩ (fun H locs hP hD hS => ?_)
    refine fr_ifne_b (tgt := 23) hx hb dX6_readsDigits_18 (by decide) (fun c_2 => ?_) (fun c_2 => ?_)
    · have c_2d := innN_t c_2
      have c_2l := sg_in (ch := ch) (len := len) (p := (p + 1)) (by omega)
      refine lv_aload_n hx hb dX6_readsDigits_23 rfl (lv_at hl 1 rfl) ?_
      refine va_get (D := D) (ci := 6) (v := .ref (md 3)) (C := RX6) (T := TX6) (N := 8) hx hb hts hinX6 hown hK (hP.at 0 rfl) 0 rfl rfl 6 (by decide) w_16 (fun _ h9 => h9) rfl dX6_readsDigits_24 ?_
      refine lv_iload_n hx hb dX6_readsDigits_27 rfl (lv_at hl 0 rfl) ?_
      refine lv_aload_n hx hb dX6_readsDigits_28 rfl (lv_at hl 1 rfl) ?_
      refine fr_Vi (As := []) (rest := [.int (nI 1), .ref (md 3)]) (fs' := [[((md 0), .inr (6, [.ref (md 1), .int (nI (n)), .ref (md 2), .int (nI (len)), .int (nI ((p + 1))), .int (nI (le)), .ref (md 3), .ref (md 4)]))], [((md 2), .inl (T 0, 90, .inl (nf ch)))], [((md 3), .inl (T 0, 5, .inl (nf (updN nu 0 (sg ch len p - 48)))))]]) (ci := 6) (q0 := (RX6, TX6, 8)) (i0 := 0) ⟨hx, hb, hml, hown, hts⟩ (kX6_sign l D T Z md n len (p + 1) le ch hch hlen (by first | omega | (dsimp only; omega))) (cwV 0 hts gX6_readsDigits_X6_sign rfl rfl rfl (by decide +kernel) ⟨Nat.le_of_ble_eq_true rfl, Nat.le_of_ble_eq_true rfl⟩) hK hN hM hP hD hS hA [0, 1] rfl rfl rfl rfl rfl rfl hl.1 rfl (Nat.le_of_ble_eq_true rfl) dX6_readsDigits_29 ⟨Nat.zero_le _, Nat.zero_le _⟩ (fun H locs hP hD hS => ?_)
      refine lv_bipush (v := nI 48) hx hb dX6_readsDigits_32 (by decide) ?_
      refine fr_isub (sg ch len (p + 1)) (48) (by omega) hx hb dX6_readsDigits_34 ?_
      refine fr_iastn (g := (updN nu 0 (sg ch len p - 48))) (fs' := [[((md 0), .inr (6, [.ref (md 1), .int (nI (n)), .ref (md 2), .int (nI (len)), .int (nI ((p + 1))), .int (nI (le)), .ref (md 3), .ref (md 4)]))], [((md 2), .inl (T 0, 90, .inl (nf ch)))], [((md 3), .inl (T 0, 5, .inl (nf (updN (updN nu 0 (sg ch len p - 48)) 1 (sg ch len (p + 1) - 48)))))]]) hx hb hK hP hD hS 2 (1) rfl rfl (by decide) (by decide) dX6_readsDigits_35 (fun H locs hP hD hS => ?_)
      refine lv_aload_n hx hb dX6_readsDigits_36 rfl (lv_at hl 1 rfl) ?_
      refine lv_dup hx hb dX6_readsDigits_37 rfl ?_
      refine va_get (D := D) (ci := 6) (v := .int (nI ((p + 1)))) (C := RX6) (T := TX6) (N := 8) hx hb hts hinX6 hown hK (hP.at 0 rfl) 0 rfl rfl 4 (by decide) w_142 (fun _ h9 => h9) rfl dX6_readsDigits_38 ?_
      refine lv_iconst (v := nI 1) hx hb dX6_readsDigits_41 (by decide) ?_
      refine fr_iadd ((p + 1)) (1) hx hb dX6_readsDigits_42 ?_
      refine fr_put (T := T) (C := RX6) (TT := TX6) (N := 8) (ci := 6) (v := .int (nI (((p + 1) + 1)))) (fs' := [[((md 0), .inr (6, [.ref (md 1), .int (nI (n)), .ref (md 2), .int (nI (len)), .int (nI (((p + 1) + 1))), .int (nI (le)), .ref (md 3), .ref (md 4)]))], [((md 2), .inl (T 0, 90, .inl (nf ch)))], [((md 3), .inl (T 0, 5, .inl (nf (updN (updN nu 0 (sg ch len p - 48)) 1 (sg ch len (p + 1) - 48)))))]]) (ty := .int) hx hb hts hinX6 tyX6 tyX6_ok nmX6 hown hK hP hD hS 0 rfl rfl 4 (by decide) rfl w_142 rfl rfl (by decide +kernel) rfl rfl (Nat.le_of_ble_eq_true rfl) dX6_readsDigits_43 (fun H locs hP hD hS => ?_)
      refine fr_iinc (1) (2) (nI_inc _) (lv' := [(2, .int (nI 2)), (0, .ref (md 0)), (1, .int (nI 3))]) (k := 0) hx hb dX6_readsDigits_46 hl rfl (by decide) rfl (fun ls hl => ?_)
      refine lv_goto (tgt := 2) hx hb dX6_readsDigits_49 (by decide) ?_
      refine lv_iload_n hx hb dX6_readsDigits_2 rfl (lv_at hl 0 rfl) ?_
      refine lv_iload_n hx hb dX6_readsDigits_3 rfl (lv_at hl 2 rfl) ?_
      refine fr_icmp_ge 2 3 (by decide) (by decide) (tgt := 52) hx hb dX6_readsDigits_4 (by decide) (fun z => absurd z (by decide)) (fun _ => ?_)
      refine lv_aload_n hx hb dX6_readsDigits_7 rfl (lv_at hl 1 rfl) ?_
      refine fr_Vi (As := []) (rest := []) (fs' := [[((md 0), .inr (6, [.ref (md 1), .int (nI (n)), .ref (md 2), .int (nI (len)), .int (nI (((p + 1) + 1))), .int (nI (le)), .ref (md 3), .ref (md 4)]))], [((md 2), .inl (T 0, 90, .inl (nf ch)))], [((md 3), .inl (T 0, 5, .inl (nf (updN (updN nu 0 (sg ch len p - 48)) 1 (sg ch len (p + 1) - 48)))))]]) (ci := 6) (q0 := (RX6, TX6, 8)) (i0 := 0) ⟨hx, hb, hml, hown, hts⟩ (kX6_sign l D T Z md n len ((p + 1) + 1) le ch hch hlen (by first | omega | (dsimp only; omega))) (cwV 0 hts gX6_readsDigits_X6_sign rfl rfl rfl (by decide +kernel) ⟨Nat.le_of_ble_eq_true rfl, Nat.le_of_ble_eq_true rfl⟩) hK hN hM hP hD hS hA [0, 1] rfl rfl rfl rfl rfl rfl hl.1 rfl (Nat.le_of_ble_eq_true rfl) dX6_readsDigits_8 ⟨Nat.zero_le _, Nat.zero_le _⟩ (fun H locs hP hD hS => ?_)
      refine lv_bipush (v := nI 48) hx hb dX6_readsDigits_11 (by decide) ?_
      refine lv_bipush (v := nI 51) hx hb dX6_readsDigits_13 (by decide) ?_
      refine fr_S0 (As := [.int (nI (sg ch len ((p + 1) + 1))), .int (nI 48), .int (nI 51)]) (rest := []) ⟨hx, hb, hml, hown, hts⟩ (kX6_in_n l D T Z (sg ch len ((p + 1) + 1)) 48 51 (by omega) (by decide) (by decide)) (va_cwS 3 hts gX6_readsDigits_X6_in rfl rfl rfl (by decide +kernel) ⟨Nat.le_of_ble_eq_true rfl, Nat.le_of_ble_eq_true rfl⟩) hK hN hM hP hD hS hA rfl hl.1 rfl (Nat.le_of_ble_eq_true rfl) dX6_readsDigits_15 ⟨Nat.zero_le _, Nat.zero_le _⟩ (fun H locs hP hD hS => ?_)
      refine fr_ifne_b (tgt := 23) hx hb dX6_readsDigits_18 (by decide) (fun c_3 => ?_) (fun c_3 => ?_)
      · have c_3d := innN_t c_3
        have c_3l := sg_in (ch := ch) (len := len) (p := ((p + 1) + 1)) (by omega)
        refine lv_aload_n hx hb dX6_readsDigits_23 rfl (lv_at hl 1 rfl) ?_
        refine va_get (D := D) (ci := 6) (v := .ref (md 3)) (C := RX6) (T := TX6) (N := 8) hx hb hts hinX6 hown hK (hP.at 0 rfl) 0 rfl rfl 6 (by decide) w_16 (fun _ h9 => h9) rfl dX6_readsDigits_24 ?_
        refine lv_iload_n hx hb dX6_readsDigits_27 rfl (lv_at hl 0 rfl) ?_
        refine lv_aload_n hx hb dX6_readsDigits_28 rfl (lv_at hl 1 rfl) ?_
        refine fr_Vi (As := []) (rest := [.int (nI 2), .ref (md 3)]) (fs' := [[((md 0), .inr (6, [.ref (md 1), .int (nI (n)), .ref (md 2), .int (nI (len)), .int (nI (((p + 1) + 1))), .int (nI (le)), .ref (md 3), .ref (md 4)]))], [((md 2), .inl (T 0, 90, .inl (nf ch)))], [((md 3), .inl (T 0, 5, .inl (nf (updN (updN nu 0 (sg ch len p - 48)) 1 (sg ch len (p + 1) - 48)))))]]) (ci := 6) (q0 := (RX6, TX6, 8)) (i0 := 0) ⟨hx, hb, hml, hown, hts⟩ (kX6_sign l D T Z md n len ((p + 1) + 1) le ch hch hlen (by first | omega | (dsimp only; omega))) (cwV 0 hts gX6_readsDigits_X6_sign rfl rfl rfl (by decide +kernel) ⟨Nat.le_of_ble_eq_true rfl, Nat.le_of_ble_eq_true rfl⟩) hK hN hM hP hD hS hA [0, 1] rfl rfl rfl rfl rfl rfl hl.1 rfl (Nat.le_of_ble_eq_true rfl) dX6_readsDigits_29 ⟨Nat.zero_le _, Nat.zero_le _⟩ (fun H locs hP hD hS => ?_)
        refine lv_bipush (v := nI 48) hx hb dX6_readsDigits_32 (by decide) ?_
        refine fr_isub (sg ch len ((p + 1) + 1)) (48) (by omega) hx hb dX6_readsDigits_34 ?_
        refine fr_iastn (g := (updN (updN nu 0 (sg ch len p - 48)) 1 (sg ch len (p + 1) - 48))) (fs' := [[((md 0), .inr (6, [.ref (md 1), .int (nI (n)), .ref (md 2), .int (nI (len)), .int (nI (((p + 1) + 1))), .int (nI (le)), .ref (md 3), .ref (md 4)]))], [((md 2), .inl (T 0, 90, .inl (nf ch)))], [((md 3), .inl (T 0, 5, .inl (nf (updN (updN (updN nu 0 (sg ch len p - 48)) 1 (sg ch len (p + 1) - 48)) 2 (sg ch len ((p + 1) + 1) - 48)))))]]) hx hb hK hP hD hS 2 (2) rfl rfl (by decide) (by decide) dX6_readsDigits_35 (fun H locs hP hD hS => ?_)
        refine lv_aload_n hx hb dX6_readsDigits_36 rfl (lv_at hl 1 rfl) ?_
        refine lv_dup hx hb dX6_readsDigits_37 rfl ?_
        refine va_get (D := D) (ci := 6) (v := .int (nI (((p + 1) + 1)))) (C := RX6) (T := TX6) (N := 8) hx hb hts hinX6 hown hK (hP.at 0 rfl) 0 rfl rfl 4 (by decide) w_142 (fun _ h9 => h9) rfl dX6_readsDigits_38 ?_
        refine lv_iconst (v := nI 1) hx hb dX6_readsDigits_41 (by decide) ?_
        refine fr_iadd (((p + 1) + 1)) (1) hx hb dX6_readsDigits_42 ?_
        refine fr_put (T := T) (C := RX6) (TT := TX6) (N := 8) (ci := 6) (v := .int (nI ((((p + 1) + 1) + 1)))) (fs' := [[((md 0), .inr (6, [.ref (md 1), .int (nI (n)), .ref (md 2), .int (nI (len)), .int (nI ((((p + 1) + 1) + 1))), .int (nI (le)), .ref (md 3), .ref (md 4)]))], [((md 2), .inl (T 0, 90, .inl (nf ch)))], [((md 3), .inl (T 0, 5, .inl (nf (updN (updN (updN nu 0 (sg ch len p - 48)) 1 (sg ch len (p + 1) - 48)) 2 (sg ch len ((p + 1) + 1) - 48)))))]]) (ty := .int) hx hb hts hinX6 tyX6 tyX6_ok nmX6 hown hK hP hD hS 0 rfl rfl 4 (by decide) rfl w_142 rfl rfl (by decide +kernel) rfl rfl (Nat.le_of_ble_eq_true rfl) dX6_readsDigits_43 (fun H locs hP hD hS => ?_)
        refine fr_iinc (2) (3) (nI_inc _) (lv' := [(2, .int (nI 3)), (0, .ref (md 0)), (1, .int (nI 3))]) (k := 0) hx hb dX6_readsDigits_46 hl rfl (by decide) rfl (fun ls hl => ?_)
        refine lv_goto (tgt := 2) hx hb dX6_readsDigits_49 (by decide) ?_
        refine lv_iload_n hx hb dX6_readsDigits_2 rfl (lv_at hl 0 rfl) ?_
        refine lv_iload_n hx hb dX6_readsDigits_3 rfl (lv_at hl 2 rfl) ?_
        refine fr_icmp_ge 3 3 (by decide) (by decide) (tgt := 52) hx hb dX6_readsDigits_4 (by decide) (fun _ => ?_) (fun z => absurd z (by decide))
        refine lv_iconst (v := nI 1) hx hb dX6_readsDigits_52 (by decide) ?_
        exact fr_zret hx hb hr hlk hP hS (by first | rfl | (simp only [dgR, c_1, c_2, c_3, ↓reduceIte, Bool.false_eq_true, bI_true, bI_false, Bool.true_and, Bool.and_true, Bool.and_false, Bool.false_and, Bool.not_true, Bool.not_false, Bool.or_true, Bool.true_or, Bool.or_false, Bool.false_or] <;> rfl) | (simp [dgR, c_1, c_2, c_3, bI]; done)) (by first | rfl | (simp only [dgR, c_1, c_2, c_3, ↓reduceIte, Bool.false_eq_true, bI_true, bI_false, Bool.true_and, Bool.and_true, Bool.and_false, Bool.false_and, Bool.not_true, Bool.not_false, Bool.or_true, Bool.true_or, Bool.or_false, Bool.false_or] <;> rfl) | (simp [dgR, c_1, c_2, c_3, bI]; done)) rfl dX6_readsDigits_53
      · refine lv_iconst (v := nI 0) hx hb dX6_readsDigits_21 (by decide) ?_
        exact fr_zret hx hb hr hlk hP hS (by first | rfl | (simp only [dgR, c_1, c_2, c_3, ↓reduceIte, Bool.false_eq_true, bI_true, bI_false, Bool.true_and, Bool.and_true, Bool.and_false, Bool.false_and, Bool.not_true, Bool.not_false, Bool.or_true, Bool.true_or, Bool.or_false, Bool.false_or] <;> rfl) | (simp [dgR, c_1, c_2, c_3, bI]; done)) (by first | rfl | (simp only [dgR, c_1, c_2, c_3, ↓reduceIte, Bool.false_eq_true, bI_true, bI_false, Bool.true_and, Bool.and_true, Bool.and_false, Bool.false_and, Bool.not_true, Bool.not_false, Bool.or_true, Bool.true_or, Bool.or_false, Bool.false_or] <;> rfl) | (simp [dgR, c_1, c_2, c_3, bI]; done)) rfl dX6_readsDigits_22
    · refine lv_iconst (v := nI 0) hx hb dX6_readsDigits_21 (by decide) ?_
      exact fr_zret hx hb hr hlk hP hS (by first | rfl | (simp only [dgR, c_1, c_2, ↓reduceIte, Bool.false_eq_true, bI_true, bI_false, Bool.true_and, Bool.and_true, Bool.and_false, Bool.false_and, Bool.not_true, Bool.not_false, Bool.or_true, Bool.true_or, Bool.or_false, Bool.false_or] <;> rfl) | (simp [dgR, c_1, c_2, bI]; done)) (by first | rfl | (simp only [dgR, c_1, c_2, ↓reduceIte, Bool.false_eq_true, bI_true, bI_false, Bool.true_and, Bool.and_true, Bool.and_false, Bool.false_and, Bool.not_true, Bool.not_false, Bool.or_true, Bool.true_or, Bool.or_false, Bool.false_or] <;> rfl) | (simp [dgR, c_1, c_2, bI]; done)) rfl dX6_readsDigits_22
  · refine lv_iconst (v := nI 0) hx hb dX6_readsDigits_21 (by decide) ?_
    exact fr_zret hx hb hr hlk hP hS (by first | rfl | (simp only [dgR, c_1, ↓reduceIte, Bool.false_eq_true, bI_true, bI_false, Bool.true_and, Bool.and_true, Bool.and_false, Bool.false_and, Bool.not_true, Bool.not_false, Bool.or_true, Bool.true_or, Bool.or_false, Bool.false_or] <;> rfl) | (simp [dgR, c_1, bI]; done)) (by first | rfl | (simp only [dgR, c_1, ↓reduceIte, Bool.false_eq_true, bI_true, bI_false, Bool.true_and, Bool.and_true, Bool.and_false, Bool.false_and, Bool.not_true, Bool.not_false, Bool.or_true, Bool.true_or, Bool.or_false, Bool.false_or] <;> rfl) | (simp [dgR, c_1, bI]; done)) rfl dX6_readsDigits_22

set_option maxHeartbeats 8000000 in
set_option maxRecDepth 100000 in
theorem kX6_readsDigits_5 (l : Launch) (D : va_G) (T : Nat → ClassId) (Z : ZZ) (md : Nat → Nat) (n : Nat) (len : Nat) (p : Nat) (le : Nat) (ch : Nat → Nat) (nu : Nat → Nat) (hch : ∀ k, ch k < 128) (hlen : len ≤ 90) (hp : p ≤ 90) : CtI l D T Z yX6_readsDigits wsX6_readsDigits ({ frames := 1, cells := 0, slots := 0, locals := 22 }) [[((md 0), .inr (6, [.ref (md 1), .int (nI (n)), .ref (md 2), .int (nI (len)), .int (nI (p)), .int (nI (le)), .ref (md 3), .ref (md 4)]))], [((md 2), .inl (T 0, 90, .inl (nf ch)))], [((md 3), .inl (T 0, 5, .inl (nf nu)))]] [.ref (md 0), .int (nI 5)] (bI ((dgR ch len 5 0 p nu).1)) [[((md 0), .inr (6, [.ref (md 1), .int (nI (n)), .ref (md 2), .int (nI (len)), .int (nI ((dgR ch len 5 0 p nu).2.1)), .int (nI (le)), .ref (md 3), .ref (md 4)]))], [((md 2), .inl (T 0, 90, .inl (nf ch)))], [((md 3), .inl (T 0, 5, .inl (nf ((dgR ch len 5 0 p nu).2.2))))]] := by
  have hc9 := hch p
  have hs9 := sg_lt (len := len) (p := p) hch
  have hs1 := sg_lt (len := len) (p := p + 1) hch
  have hs2 := sg_lt (len := len) (p := p + 1 + 1) hch
  have hs3 := sg_lt (len := len) (p := p + 1 + 1 + 1) hch
  have hs4 := sg_lt (len := len) (p := p + 1 + 1 + 1 + 1) hch
  have hi0 := sg_in (ch := ch) (len := len) (p := p)
  have hi1 := sg_in (ch := ch) (len := len) (p := p + 1)
  have hi2 := sg_in (ch := ch) (len := len) (p := p + 1 + 1)
  have hi3 := sg_in (ch := ch) (len := len) (p := p + 1 + 1 + 1)
  have hi4 := sg_in (ch := ch) (len := len) (p := p + 1 + 1 + 1 + 1)
  refine CtI.of (cc := cX6_readsDigits) (maxL := 3) (ret := (some .boolean)) (plainFor_of_name (by decide)) rfl rfl ?_
  intro pP eE s mM bW mE cC A hE hK hN hM hP hD hA
  obtain ⟨hx, hb, hr, hts, hown, hml, hlk⟩ := hE
  have hown : s.vm.findClass RX6 = some mM.cls := hown
  have hS : va_S A s.heap s.heap [] := va_S.rf
  have hl := lv_entry ([.ref (md 0), .int (nI 5)]) (n := 3) (Nat.le_of_ble_eq_true rfl)
  rw [lg_entry_eq]
  generalize (lg_sl ([.ref (md 0), .int (nI 5)]) ++ List.replicate (3 - (lg_sl ([.ref (md 0), .int (nI 5)])).length) Slot.unset).toArray = ls at hl ⊢
  have hl : lv_has ls 3 [(0, .ref (md 0)), (1, .int (nI 5))] := hl
  have w_16 := hts (.fieldLink RX6 16 "PoisonedMemoryModel" "numbers" "[I") (by decide +kernel)
  have hinX6 : ∀ w ∈ wsX60, w ∈ wsX6_readsDigits := by decide +kernel
  have w_142 := hts (.fieldLink RX6 142 "PoisonedMemoryModel" "at" "I") (by decide +kernel)
  refine lv_iconst (v := nI 0) hx hb dX6_readsDigits_0 (by decide) ?_
  refine lv_istore_n (lv' := [(2, .int (nI 0)), (0, .ref (md 0)), (1, .int (nI 5))]) hx hb dX6_readsDigits_1 rfl hl (by decide) rfl (fun ls hl => ?_)
  refine lv_iload_n hx hb dX6_readsDigits_2 rfl (lv_at hl 0 rfl) ?_
  refine lv_iload_n hx hb dX6_readsDigits_3 rfl (lv_at hl 2 rfl) ?_
  refine fr_icmp_ge 0 5 (by decide) (by decide) (tgt := 52) hx hb dX6_readsDigits_4 (by decide) (fun z => absurd z (by decide)) (fun _ => ?_)
  refine lv_aload_n hx hb dX6_readsDigits_7 rfl (lv_at hl 1 rfl) ?_
  refine fr_Vi (As := []) (rest := []) (fs' := [[((md 0), .inr (6, [.ref (md 1), .int (nI (n)), .ref (md 2), .int (nI (len)), .int (nI (p)), .int (nI (le)), .ref (md 3), .ref (md 4)]))], [((md 2), .inl (T 0, 90, .inl (nf ch)))], [((md 3), .inl (T 0, 5, .inl (nf nu)))]]) (ci := 6) (q0 := (RX6, TX6, 8)) (i0 := 0) ⟨hx, hb, hml, hown, hts⟩ (kX6_sign l D T Z md n len p le ch hch hlen (by first | omega | (dsimp only; omega))) (cwV 0 hts gX6_readsDigits_X6_sign rfl rfl rfl (by decide +kernel) ⟨Nat.le_of_ble_eq_true rfl, Nat.le_of_ble_eq_true rfl⟩) hK hN hM hP hD hS hA [0, 1] rfl rfl rfl rfl rfl rfl hl.1 rfl (Nat.le_of_ble_eq_true rfl) dX6_readsDigits_8 ⟨Nat.zero_le _, Nat.zero_le _⟩ (fun H locs hP hD hS => ?_)
  refine lv_bipush (v := nI 48) hx hb dX6_readsDigits_11 (by decide) ?_
  refine lv_bipush (v := nI 51) hx hb dX6_readsDigits_13 (by decide) ?_
  refine fr_S0 (As := [.int (nI (sg ch len p)), .int (nI 48), .int (nI 51)]) (rest := []) ⟨hx, hb, hml, hown, hts⟩ (kX6_in_n l D T Z (sg ch len p) 48 51 (by omega) (by decide) (by decide)) (va_cwS 3 hts gX6_readsDigits_X6_in rfl rfl rfl (by decide +kernel) ⟨Nat.le_of_ble_eq_true rfl, Nat.le_of_ble_eq_true rfl⟩) hK hN hM hP hD hS hA rfl hl.1 rfl (Nat.le_of_ble_eq_true rfl) dX6_readsDigits_15 ⟨Nat.zero_le _, Nat.zero_le _⟩ (fun H locs hP hD hS => ?_)
  refine fr_ifne_b (tgt := 23) hx hb dX6_readsDigits_18 (by decide) (fun c_1 => ?_) (fun c_1 => ?_)
  · have c_1d := innN_t c_1
    have c_1l := sg_in (ch := ch) (len := len) (p := p) (by omega)
    refine lv_aload_n hx hb dX6_readsDigits_23 rfl (lv_at hl 1 rfl) ?_
    refine va_get (D := D) (ci := 6) (v := .ref (md 3)) (C := RX6) (T := TX6) (N := 8) hx hb hts hinX6 hown hK (hP.at 0 rfl) 0 rfl rfl 6 (by decide) w_16 (fun _ h9 => h9) rfl dX6_readsDigits_24 ?_
    refine lv_iload_n hx hb dX6_readsDigits_27 rfl (lv_at hl 0 rfl) ?_
    refine lv_aload_n hx hb dX6_readsDigits_28 rfl (lv_at hl 1 rfl) ?_
    refine fr_Vi (As := []) (rest := [.int (nI 0), .ref (md 3)]) (fs' := [[((md 0), .inr (6, [.ref (md 1), .int (nI (n)), .ref (md 2), .int (nI (len)), .int (nI (p)), .int (nI (le)), .ref (md 3), .ref (md 4)]))], [((md 2), .inl (T 0, 90, .inl (nf ch)))], [((md 3), .inl (T 0, 5, .inl (nf nu)))]]) (ci := 6) (q0 := (RX6, TX6, 8)) (i0 := 0) ⟨hx, hb, hml, hown, hts⟩ (kX6_sign l D T Z md n len p le ch hch hlen (by first | omega | (dsimp only; omega))) (cwV 0 hts gX6_readsDigits_X6_sign rfl rfl rfl (by decide +kernel) ⟨Nat.le_of_ble_eq_true rfl, Nat.le_of_ble_eq_true rfl⟩) hK hN hM hP hD hS hA [0, 1] rfl rfl rfl rfl rfl rfl hl.1 rfl (Nat.le_of_ble_eq_true rfl) dX6_readsDigits_29 ⟨Nat.zero_le _, Nat.zero_le _⟩ (fun H locs hP hD hS => ?_)
    refine lv_bipush (v := nI 48) hx hb dX6_readsDigits_32 (by decide) ?_
    refine fr_isub (sg ch len p) (48) (by omega) hx hb dX6_readsDigits_34 ?_
    refine fr_iastn (g := nu) (fs' := [[((md 0), .inr (6, [.ref (md 1), .int (nI (n)), .ref (md 2), .int (nI (len)), .int (nI (p)), .int (nI (le)), .ref (md 3), .ref (md 4)]))], [((md 2), .inl (T 0, 90, .inl (nf ch)))], [((md 3), .inl (T 0, 5, .inl (nf (updN nu 0 (sg ch len p - 48)))))]]) hx hb hK hP hD hS 2 (0) rfl rfl (by decide) (by decide) dX6_readsDigits_35 (fun H locs hP hD hS => ?_)
    refine lv_aload_n hx hb dX6_readsDigits_36 rfl (lv_at hl 1 rfl) ?_
    refine lv_dup hx hb dX6_readsDigits_37 rfl ?_
    refine va_get (D := D) (ci := 6) (v := .int (nI (p))) (C := RX6) (T := TX6) (N := 8) hx hb hts hinX6 hown hK (hP.at 0 rfl) 0 rfl rfl 4 (by decide) w_142 (fun _ h9 => h9) rfl dX6_readsDigits_38 ?_
    refine lv_iconst (v := nI 1) hx hb dX6_readsDigits_41 (by decide) ?_
    refine fr_iadd (p) (1) hx hb dX6_readsDigits_42 ?_
    refine fr_put (T := T) (C := RX6) (TT := TX6) (N := 8) (ci := 6) (v := .int (nI ((p + 1)))) (fs' := [[((md 0), .inr (6, [.ref (md 1), .int (nI (n)), .ref (md 2), .int (nI (len)), .int (nI ((p + 1))), .int (nI (le)), .ref (md 3), .ref (md 4)]))], [((md 2), .inl (T 0, 90, .inl (nf ch)))], [((md 3), .inl (T 0, 5, .inl (nf (updN nu 0 (sg ch len p - 48)))))]]) (ty := .int) hx hb hts hinX6 tyX6 tyX6_ok nmX6 hown hK hP hD hS 0 rfl rfl 4 (by decide) rfl w_142 rfl rfl (by decide +kernel) rfl rfl (Nat.le_of_ble_eq_true rfl) dX6_readsDigits_43 (fun H locs hP hD hS => ?_)
    refine fr_iinc (0) (1) (nI_inc _) (lv' := [(2, .int (nI 1)), (0, .ref (md 0)), (1, .int (nI 5))]) (k := 0) hx hb dX6_readsDigits_46 hl rfl (by decide) rfl (fun ls hl => ?_)
    refine lv_goto (tgt := 2) hx hb dX6_readsDigits_49 (by decide) ?_
    refine lv_iload_n hx hb dX6_readsDigits_2 rfl (lv_at hl 0 rfl) ?_
    refine lv_iload_n hx hb dX6_readsDigits_3 rfl (lv_at hl 2 rfl) ?_
    refine fr_icmp_ge 1 5 (by decide) (by decide) (tgt := 52) hx hb dX6_readsDigits_4 (by decide) (fun z => absurd z (by decide)) (fun _ => ?_)
    refine lv_aload_n hx hb dX6_readsDigits_7 rfl (lv_at hl 1 rfl) ?_
    refine fr_Vi (As := []) (rest := []) (fs' := [[((md 0), .inr (6, [.ref (md 1), .int (nI (n)), .ref (md 2), .int (nI (len)), .int (nI ((p + 1))), .int (nI (le)), .ref (md 3), .ref (md 4)]))], [((md 2), .inl (T 0, 90, .inl (nf ch)))], [((md 3), .inl (T 0, 5, .inl (nf (updN nu 0 (sg ch len p - 48)))))]]) (ci := 6) (q0 := (RX6, TX6, 8)) (i0 := 0) ⟨hx, hb, hml, hown, hts⟩ (kX6_sign l D T Z md n len (p + 1) le ch hch hlen (by first | omega | (dsimp only; omega))) (cwV 0 hts gX6_readsDigits_X6_sign rfl rfl rfl (by decide +kernel) ⟨Nat.le_of_ble_eq_true rfl, Nat.le_of_ble_eq_true rfl⟩) hK hN hM hP hD hS hA [0, 1] rfl rfl rfl rfl rfl rfl hl.1 rfl (Nat.le_of_ble_eq_true rfl) dX6_readsDigits_8 ⟨Nat.zero_le _, Nat.zero_le _⟩ (fun H locs hP hD hS => ?_)
    refine lv_bipush (v := nI 48) hx hb dX6_readsDigits_11 (by decide) ?_
    refine lv_bipush (v := nI 51) hx hb dX6_readsDigits_13 (by decide) ?_
    refine fr_S0 (As := [.int (nI (sg ch len (p + 1))), .int (nI 48), .int (nI 51)]) (rest := []) ⟨hx, hb, hml, hown, hts⟩ (kX6_in_n l D T Z (sg ch len (p + 1)) 48 51 (by omega) (by decide) (by decide)) (va_cwS 3 hts gX6_readsDigits_X6_in rfl rfl rfl (by decide +kernel) ⟨Nat.le_of_ble_eq_true rfl, Nat.le_of_ble_eq_true rfl⟩) hK hN hM hP hD hS hA rfl hl.1 rfl (Nat.le_of_ble_eq_true rfl) dX6_readsDigits_15 ⟨Nat.zero_le _, Nat.zero_le _⟩ (fun H locs hP hD hS => ?_)
    refine fr_ifne_b (tgt := 23) hx hb dX6_readsDigits_18 (by decide) (fun c_2 => ?_) (fun c_2 => ?_)
    · have c_2d := innN_t c_2
      have c_2l := sg_in (ch := ch) (len := len) (p := (p + 1)) (by omega)
      refine lv_aload_n hx hb dX6_readsDigits_23 rfl (lv_at hl 1 rfl) ?_
      refine va_get (D := D) (ci := 6) (v := .ref (md 3)) (C := RX6) (T := TX6) (N := 8) hx hb hts hinX6 hown hK (hP.at 0 rfl) 0 rfl rfl 6 (by decide) w_16 (fun _ h9 => h9) rfl dX6_readsDigits_24 ?_
      refine lv_iload_n hx hb dX6_readsDigits_27 rfl (lv_at hl 0 rfl) ?_
      refine lv_aload_n hx hb dX6_readsDigits_28 rfl (lv_at hl 1 rfl) ?_
      refine fr_Vi (As := []) (rest := [.int (nI 1), .ref (md 3)]) (fs' := [[((md 0), .inr (6, [.ref (md 1), .int (nI (n)), .ref (md 2), .int (nI (len)), .int (nI ((p + 1))), .int (nI (le)), .ref (md 3), .ref (md 4)]))], [((md 2), .inl (T 0, 90, .inl (nf ch)))], [((md 3), .inl (T 0, 5, .inl (nf (updN nu 0 (sg ch len p - 48)))))]]) (ci := 6) (q0 := (RX6, TX6, 8)) (i0 := 0) ⟨hx, hb, hml, hown, hts⟩ (kX6_sign l D T Z md n len (p + 1) le ch hch hlen (by first | omega | (dsimp only; omega))) (cwV 0 hts gX6_readsDigits_X6_sign rfl rfl rfl (by decide +kernel) ⟨Nat.le_of_ble_eq_true rfl, Nat.le_of_ble_eq_true rfl⟩) hK hN hM hP hD hS hA [0, 1] rfl rfl rfl rfl rfl rfl hl.1 rfl (Nat.le_of_ble_eq_true rfl) dX6_readsDigits_29 ⟨Nat.zero_le _, Nat.zero_le _⟩ (fun H locs hP hD hS => ?_)
      refine lv_bipush (v := nI 48) hx hb dX6_readsDigits_32 (by decide) ?_
      refine fr_isub (sg ch len (p + 1)) (48) (by omega) hx hb dX6_readsDigits_34 ?_
      refine fr_iastn (g := (updN nu 0 (sg ch len p - 48))) (fs' := [[((md 0), .inr (6, [.ref (md 1), .int (nI (n)), .ref (md 2), .int (nI (len)), .int (nI ((p + 1))), .int (nI (le)), .ref (md 3), .ref (md 4)]))], [((md 2), .inl (T 0, 90, .inl (nf ch)))], [((md 3), .inl (T 0, 5, .inl (nf (updN (updN nu 0 (sg ch len p - 48)) 1 (sg ch len (p + 1) - 48)))))]]) hx hb hK hP hD hS 2 (1) rfl rfl (by decide) (by decide) dX6_readsDigits_35 (fun H locs hP hD hS => ?_)
      refine lv_aload_n hx hb dX6_readsDigits_36 rfl (lv_at hl 1 rfl) ?_
      refine lv_dup hx hb dX6_readsDigits_37 rfl ?_
      refine va_get (D := D) (ci := 6) (v := .int (nI ((p + 1)))) (C := RX6) (T := TX6) (N := 8) hx hb hts hinX6 hown hK (hP.at 0 rfl) 0 rfl rfl 4 (by decide) w_142 (fun _ h9 => h9) rfl dX6_readsDigits_38 ?_
      refine lv_iconst (v := nI 1) hx hb dX6_readsDigits_41 (by decide) ?_
      refine fr_iadd ((p + 1)) (1) hx hb dX6_readsDigits_42 ?_
      refine fr_put (T := T) (C := RX6) (TT := TX6) (N := 8) (ci := 6) (v := .int (nI (((p + 1) + 1)))) (fs' := [[((md 0), .inr (6, [.ref (md 1), .int (nI (n)), .ref (md 2), .int (nI (len)), .int (nI (((p + 1) + 1))), .int (nI (le)), .ref (md 3), .ref (md 4)]))], [((md 2), .inl (T 0, 90, .inl (nf ch)))], [((md 3), .inl (T 0, 5, .inl (nf (updN (updN nu 0 (sg ch len p - 48)) 1 (sg ch len (p + 1) - 48)))))]]) (ty := .int) hx hb hts hinX6 tyX6 tyX6_ok nmX6 hown hK hP hD hS 0 rfl rfl 4 (by decide) rfl w_142 rfl rfl (by decide +kernel) rfl rfl (Nat.le_of_ble_eq_true rfl) dX6_readsDigits_43 (fun H locs hP hD hS => ?_)
      refine fr_iinc (1) (2) (nI_inc _) (lv' := [(2, .int (nI 2)), (0, .ref (md 0)), (1, .int (nI 5))]) (k := 0) hx hb dX6_readsDigits_46 hl rfl (by decide) rfl (fun ls hl => ?_)
      refine lv_goto (tgt := 2) hx hb dX6_readsDigits_49 (by decide) ?_
      refine lv_iload_n hx hb dX6_readsDigits_2 rfl (lv_at hl 0 rfl) ?_
      refine lv_iload_n hx hb dX6_readsDigits_3 rfl (lv_at hl 2 rfl) ?_
      refine fr_icmp_ge 2 5 (by decide) (by decide) (tgt := 52) hx hb dX6_readsDigits_4 (by decide) (fun z => absurd z (by decide)) (fun _ => ?_)
      refine lv_aload_n hx hb dX6_readsDigits_7 rfl (lv_at hl 1 rfl) ?_
      refine fr_Vi (As := []) (rest := []) (fs' := [[((md 0), .inr (6, [.ref (md 1), .int (nI (n)), .ref (md 2), .int (nI (len)), .int (nI (((p + 1) + 1))), .int (nI (le)), .ref (md 3), .ref (md 4)]))], [((md 2), .inl (T 0, 90, .inl (nf ch)))], [((md 3), .inl (T 0, 5, .inl (nf (updN (updN nu 0 (sg ch len p - 48)) 1 (sg ch len (p + 1) - 48)))))]]) (ci := 6) (q0 := (RX6, TX6, 8)) (i0 := 0) ⟨hx, hb, hml, hown, hts⟩ (kX6_sign l D T Z md n len ((p + 1) + 1) le ch hch hlen (by first | omega | (dsimp only; omega))) (cwV 0 hts gX6_readsDigits_X6_sign rfl rfl rfl (by decide +kernel) ⟨Nat.le_of_ble_eq_true rfl, Nat.le_of_ble_eq_true rfl⟩) hK hN hM hP hD hS hA [0, 1] rfl rfl rfl rfl rfl rfl hl.1 rfl (Nat.le_of_ble_eq_true rfl) dX6_readsDigits_8 ⟨Nat.zero_le _, Nat.zero_le _⟩ (fun H locs hP hD hS => ?_)
      refine lv_bipush (v := nI 48) hx hb dX6_readsDigits_11 (by decide) ?_
      refine lv_bipush (v := nI 51) hx hb dX6_readsDigits_13 (by decide) ?_
      refine fr_S0 (As := [.int (nI (sg ch len ((p + 1) + 1))), .int (nI 48), .int (nI 51)]) (rest := []) ⟨hx, hb, hml, hown, hts⟩ (kX6_in_n l D T Z (sg ch len ((p + 1) + 1)) 48 51 (by omega) (by decide) (by decide)) (va_cwS 3 hts gX6_readsDigits_X6_in rfl rfl rfl (by decide +kernel) ⟨Nat.le_of_ble_eq_true rfl, Nat.le_of_ble_eq_true rfl⟩) hK hN hM hP hD hS hA rfl hl.1 rfl (Nat.le_of_ble_eq_true rfl) dX6_readsDigits_15 ⟨Nat.zero_le _, Nat.zero_le _⟩ (fun H locs hP hD hS => ?_)
      refine fr_ifne_b (tgt := 23) hx hb dX6_readsDigits_18 (by decide) (fun c_3 => ?_) (fun c_3 => ?_)
      · have c_3d := innN_t c_3
        have c_3l := sg_in (ch := ch) (len := len) (p := ((p + 1) + 1)) (by omega)
        refine lv_aload_n hx hb dX6_readsDigits_23 rfl (lv_at hl 1 rfl) ?_
        refine va_get (D := D) (ci := 6) (v := .ref (md 3)) (C := RX6) (T := TX6) (N := 8) hx hb hts hinX6 hown hK (hP.at 0 rfl) 0 rfl rfl 6 (by decide) w_16 (fun _ h9 => h9) rfl dX6_readsDigits_24 ?_
        refine lv_iload_n hx hb dX6_readsDigits_27 rfl (lv_at hl 0 rfl) ?_
        refine lv_aload_n hx hb dX6_readsDigits_28 rfl (lv_at hl 1 rfl) ?_
        refine fr_Vi (As := []) (rest := [.int (nI 2), .ref (md 3)]) (fs' := [[((md 0), .inr (6, [.ref (md 1), .int (nI (n)), .ref (md 2), .int (nI (len)), .int (nI (((p + 1) + 1))), .int (nI (le)), .ref (md 3), .ref (md 4)]))], [((md 2), .inl (T 0, 90, .inl (nf ch)))], [((md 3), .inl (T 0, 5, .inl (nf (updN (updN nu 0 (sg ch len p - 48)) 1 (sg ch len (p + 1) - 48)))))]]) (ci := 6) (q0 := (RX6, TX6, 8)) (i0 := 0) ⟨hx, hb, hml, hown, hts⟩ (kX6_sign l D T Z md n len ((p + 1) + 1) le ch hch hlen (by first | omega | (dsimp only; omega))) (cwV 0 hts gX6_readsDigits_X6_sign rfl rfl rfl (by decide +kernel) ⟨Nat.le_of_ble_eq_true rfl, Nat.le_of_ble_eq_true rfl⟩) hK hN hM hP hD hS hA [0, 1] rfl rfl rfl rfl rfl rfl hl.1 rfl (Nat.le_of_ble_eq_true rfl) dX6_readsDigits_29 ⟨Nat.zero_le _, Nat.zero_le _⟩ (fun H locs hP hD hS => ?_)
        refine lv_bipush (v := nI 48) hx hb dX6_readsDigits_32 (by decide) ?_
        refine fr_isub (sg ch len ((p + 1) + 1)) (48) (by omega) hx hb dX6_readsDigits_34 ?_
        refine fr_iastn (g := (updN (updN nu 0 (sg ch len p - 48)) 1 (sg ch len (p + 1) - 48))) (fs' := [[((md 0), .inr (6, [.ref (md 1), .int (nI (n)), .ref (md 2), .int (nI (len)), .int (nI (((p + 1) + 1))), .int (nI (le)), .ref (md 3), .ref (md 4)]))], [((md 2), .inl (T 0, 90, .inl (nf ch)))], [((md 3), .inl (T 0, 5, .inl (nf (updN (updN (updN nu 0 (sg ch len p - 48)) 1 (sg ch len (p + 1) - 48)) 2 (sg ch len ((p + 1) + 1) - 48)))))]]) hx hb hK hP hD hS 2 (2) rfl rfl (by decide) (by decide) dX6_readsDigits_35 (fun H locs hP hD hS => ?_)
        refine lv_aload_n hx hb dX6_readsDigits_36 rfl (lv_at hl 1 rfl) ?_
        refine lv_dup hx hb dX6_readsDigits_37 rfl ?_
        refine va_get (D := D) (ci := 6) (v := .int (nI (((p + 1) + 1)))) (C := RX6) (T := TX6) (N := 8) hx hb hts hinX6 hown hK (hP.at 0 rfl) 0 rfl rfl 4 (by decide) w_142 (fun _ h9 => h9) rfl dX6_readsDigits_38 ?_
        refine lv_iconst (v := nI 1) hx hb dX6_readsDigits_41 (by decide) ?_
        refine fr_iadd (((p + 1) + 1)) (1) hx hb dX6_readsDigits_42 ?_
        refine fr_put (T := T) (C := RX6) (TT := TX6) (N := 8) (ci := 6) (v := .int (nI ((((p + 1) + 1) + 1)))) (fs' := [[((md 0), .inr (6, [.ref (md 1), .int (nI (n)), .ref (md 2), .int (nI (len)), .int (nI ((((p + 1) + 1) + 1))), .int (nI (le)), .ref (md 3), .ref (md 4)]))], [((md 2), .inl (T 0, 90, .inl (nf ch)))], [((md 3), .inl (T 0, 5, .inl (nf (updN (updN (updN nu 0 (sg ch len p - 48)) 1 (sg ch len (p + 1) - 48)) 2 (sg ch len ((p + 1) + 1) - 48)))))]]) (ty := .int) hx hb hts hinX6 tyX6 tyX6_ok nmX6 hown hK hP hD hS 0 rfl rfl 4 (by decide) rfl w_142 rfl rfl (by decide +kernel) rfl rfl (Nat.le_of_ble_eq_true rfl) dX6_readsDigits_43 (fun H locs hP hD hS => ?_)
        refine fr_iinc (2) (3) (nI_inc _) (lv' := [(2, .int (nI 3)), (0, .ref (md 0)), (1, .int (nI 5))]) (k := 0) hx hb dX6_readsDigits_46 hl rfl (by decide) rfl (fun ls hl => ?_)
        refine lv_goto (tgt := 2) hx hb dX6_readsDigits_49 (by decide) ?_
        refine lv_iload_n hx hb dX6_readsDigits_2 rfl (lv_at hl 0 rfl) ?_
        refine lv_iload_n hx hb dX6_readsDigits_3 rfl (lv_at hl 2 rfl) ?_
        refine fr_icmp_ge 3 5 (by decide) (by decide) (tgt := 52) hx hb dX6_readsDigits_4 (by decide) (fun z => absurd z (by decide)) (fun _ => ?_)
        refine lv_aload_n hx hb dX6_readsDigits_7 rfl (lv_at hl 1 rfl) ?_
        refine fr_Vi (As := []) (rest := []) (fs' := [[((md 0), .inr (6, [.ref (md 1), .int (nI (n)), .ref (md 2), .int (nI (len)), .int (nI ((((p + 1) + 1) + 1))), .int (nI (le)), .ref (md 3), .ref (md 4)]))], [((md 2), .inl (T 0, 90, .inl (nf ch)))], [((md 3), .inl (T 0, 5, .inl (nf (updN (updN (updN nu 0 (sg ch len p - 48)) 1 (sg ch len (p + 1) - 48)) 2 (sg ch len ((p + 1) + 1) - 48)))))]]) (ci := 6) (q0 := (RX6, TX6, 8)) (i0 := 0) ⟨hx, hb, hml, hown, hts⟩ (kX6_sign l D T Z md n len (((p + 1) + 1) + 1) le ch hch hlen (by first | omega | (dsimp only; omega))) (cwV 0 hts gX6_readsDigits_X6_sign rfl rfl rfl (by decide +kernel) ⟨Nat.le_of_ble_eq_true rfl, Nat.le_of_ble_eq_true rfl⟩) hK hN hM hP hD hS hA [0, 1] rfl rfl rfl rfl rfl rfl hl.1 rfl (Nat.le_of_ble_eq_true rfl) dX6_readsDigits_8 ⟨Nat.zero_le _, Nat.zero_le _⟩ (fun H locs hP hD hS => ?_)
        refine lv_bipush (v := nI 48) hx hb dX6_readsDigits_11 (by decide) ?_
        refine lv_bipush (v := nI 51) hx hb dX6_readsDigits_13 (by decide) ?_
        refine fr_S0 (As := [.int (nI (sg ch len (((p + 1) + 1) + 1))), .int (nI 48), .int (nI 51)]) (rest := []) ⟨hx, hb, hml, hown, hts⟩ (kX6_in_n l D T Z (sg ch len (((p + 1) + 1) + 1)) 48 51 (by omega) (by decide) (by decide)) (va_cwS 3 hts gX6_readsDigits_X6_in rfl rfl rfl (by decide +kernel) ⟨Nat.le_of_ble_eq_true rfl, Nat.le_of_ble_eq_true rfl⟩) hK hN hM hP hD hS hA rfl hl.1 rfl (Nat.le_of_ble_eq_true rfl) dX6_readsDigits_15 ⟨Nat.zero_le _, Nat.zero_le _⟩ (fun H locs hP hD hS => ?_)
        refine fr_ifne_b (tgt := 23) hx hb dX6_readsDigits_18 (by decide) (fun c_4 => ?_) (fun c_4 => ?_)
        · have c_4d := innN_t c_4
          have c_4l := sg_in (ch := ch) (len := len) (p := (((p + 1) + 1) + 1)) (by omega)
          refine lv_aload_n hx hb dX6_readsDigits_23 rfl (lv_at hl 1 rfl) ?_
          refine va_get (D := D) (ci := 6) (v := .ref (md 3)) (C := RX6) (T := TX6) (N := 8) hx hb hts hinX6 hown hK (hP.at 0 rfl) 0 rfl rfl 6 (by decide) w_16 (fun _ h9 => h9) rfl dX6_readsDigits_24 ?_
          refine lv_iload_n hx hb dX6_readsDigits_27 rfl (lv_at hl 0 rfl) ?_
          refine lv_aload_n hx hb dX6_readsDigits_28 rfl (lv_at hl 1 rfl) ?_
          refine fr_Vi (As := []) (rest := [.int (nI 3), .ref (md 3)]) (fs' := [[((md 0), .inr (6, [.ref (md 1), .int (nI (n)), .ref (md 2), .int (nI (len)), .int (nI ((((p + 1) + 1) + 1))), .int (nI (le)), .ref (md 3), .ref (md 4)]))], [((md 2), .inl (T 0, 90, .inl (nf ch)))], [((md 3), .inl (T 0, 5, .inl (nf (updN (updN (updN nu 0 (sg ch len p - 48)) 1 (sg ch len (p + 1) - 48)) 2 (sg ch len ((p + 1) + 1) - 48)))))]]) (ci := 6) (q0 := (RX6, TX6, 8)) (i0 := 0) ⟨hx, hb, hml, hown, hts⟩ (kX6_sign l D T Z md n len (((p + 1) + 1) + 1) le ch hch hlen (by first | omega | (dsimp only; omega))) (cwV 0 hts gX6_readsDigits_X6_sign rfl rfl rfl (by decide +kernel) ⟨Nat.le_of_ble_eq_true rfl, Nat.le_of_ble_eq_true rfl⟩) hK hN hM hP hD hS hA [0, 1] rfl rfl rfl rfl rfl rfl hl.1 rfl (Nat.le_of_ble_eq_true rfl) dX6_readsDigits_29 ⟨Nat.zero_le _, Nat.zero_le _⟩ (fun H locs hP hD hS => ?_)
          refine lv_bipush (v := nI 48) hx hb dX6_readsDigits_32 (by decide) ?_
          refine fr_isub (sg ch len (((p + 1) + 1) + 1)) (48) (by omega) hx hb dX6_readsDigits_34 ?_
          refine fr_iastn (g := (updN (updN (updN nu 0 (sg ch len p - 48)) 1 (sg ch len (p + 1) - 48)) 2 (sg ch len ((p + 1) + 1) - 48))) (fs' := [[((md 0), .inr (6, [.ref (md 1), .int (nI (n)), .ref (md 2), .int (nI (len)), .int (nI ((((p + 1) + 1) + 1))), .int (nI (le)), .ref (md 3), .ref (md 4)]))], [((md 2), .inl (T 0, 90, .inl (nf ch)))], [((md 3), .inl (T 0, 5, .inl (nf (updN (updN (updN (updN nu 0 (sg ch len p - 48)) 1 (sg ch len (p + 1) - 48)) 2 (sg ch len ((p + 1) + 1) - 48)) 3 (sg ch len (((p + 1) + 1) + 1) - 48)))))]]) hx hb hK hP hD hS 2 (3) rfl rfl (by decide) (by decide) dX6_readsDigits_35 (fun H locs hP hD hS => ?_)
          refine lv_aload_n hx hb dX6_readsDigits_36 rfl (lv_at hl 1 rfl) ?_
          refine lv_dup hx hb dX6_readsDigits_37 rfl ?_
          refine va_get (D := D) (ci := 6) (v := .int (nI ((((p + 1) + 1) + 1)))) (C := RX6) (T := TX6) (N := 8) hx hb hts hinX6 hown hK (hP.at 0 rfl) 0 rfl rfl 4 (by decide) w_142 (fun _ h9 => h9) rfl dX6_readsDigits_38 ?_
          refine lv_iconst (v := nI 1) hx hb dX6_readsDigits_41 (by decide) ?_
          refine fr_iadd ((((p + 1) + 1) + 1)) (1) hx hb dX6_readsDigits_42 ?_
          refine fr_put (T := T) (C := RX6) (TT := TX6) (N := 8) (ci := 6) (v := .int (nI (((((p + 1) + 1) + 1) + 1)))) (fs' := [[((md 0), .inr (6, [.ref (md 1), .int (nI (n)), .ref (md 2), .int (nI (len)), .int (nI (((((p + 1) + 1) + 1) + 1))), .int (nI (le)), .ref (md 3), .ref (md 4)]))], [((md 2), .inl (T 0, 90, .inl (nf ch)))], [((md 3), .inl (T 0, 5, .inl (nf (updN (updN (updN (updN nu 0 (sg ch len p - 48)) 1 (sg ch len (p + 1) - 48)) 2 (sg ch len ((p + 1) + 1) - 48)) 3 (sg ch len (((p + 1) + 1) + 1) - 48)))))]]) (ty := .int) hx hb hts hinX6 tyX6 tyX6_ok nmX6 hown hK hP hD hS 0 rfl rfl 4 (by decide) rfl w_142 rfl rfl (by decide +kernel) rfl rfl (Nat.le_of_ble_eq_true rfl) dX6_readsDigits_43 (fun H locs hP hD hS => ?_)
          refine fr_iinc (3) (4) (nI_inc _) (lv' := [(2, .int (nI 4)), (0, .ref (md 0)), (1, .int (nI 5))]) (k := 0) hx hb dX6_readsDigits_46 hl rfl (by decide) rfl (fun ls hl => ?_)
          refine lv_goto (tgt := 2) hx hb dX6_readsDigits_49 (by decide) ?_
          refine lv_iload_n hx hb dX6_readsDigits_2 rfl (lv_at hl 0 rfl) ?_
          refine lv_iload_n hx hb dX6_readsDigits_3 rfl (lv_at hl 2 rfl) ?_
          refine fr_icmp_ge 4 5 (by decide) (by decide) (tgt := 52) hx hb dX6_readsDigits_4 (by decide) (fun z => absurd z (by decide)) (fun _ => ?_)
          refine lv_aload_n hx hb dX6_readsDigits_7 rfl (lv_at hl 1 rfl) ?_
          refine fr_Vi (As := []) (rest := []) (fs' := [[((md 0), .inr (6, [.ref (md 1), .int (nI (n)), .ref (md 2), .int (nI (len)), .int (nI (((((p + 1) + 1) + 1) + 1))), .int (nI (le)), .ref (md 3), .ref (md 4)]))], [((md 2), .inl (T 0, 90, .inl (nf ch)))], [((md 3), .inl (T 0, 5, .inl (nf (updN (updN (updN (updN nu 0 (sg ch len p - 48)) 1 (sg ch len (p + 1) - 48)) 2 (sg ch len ((p + 1) + 1) - 48)) 3 (sg ch len (((p + 1) + 1) + 1) - 48)))))]]) (ci := 6) (q0 := (RX6, TX6, 8)) (i0 := 0) ⟨hx, hb, hml, hown, hts⟩ (kX6_sign l D T Z md n len ((((p + 1) + 1) + 1) + 1) le ch hch hlen (by first | omega | (dsimp only; omega))) (cwV 0 hts gX6_readsDigits_X6_sign rfl rfl rfl (by decide +kernel) ⟨Nat.le_of_ble_eq_true rfl, Nat.le_of_ble_eq_true rfl⟩) hK hN hM hP hD hS hA [0, 1] rfl rfl rfl rfl rfl rfl hl.1 rfl (Nat.le_of_ble_eq_true rfl) dX6_readsDigits_8 ⟨Nat.zero_le _, Nat.zero_le _⟩ (fun H locs hP hD hS => ?_)
          refine lv_bipush (v := nI 48) hx hb dX6_readsDigits_11 (by decide) ?_
          refine lv_bipush (v := nI 51) hx hb dX6_readsDigits_13 (by decide) ?_
          refine fr_S0 (As := [.int (nI (sg ch len ((((p + 1) + 1) + 1) + 1))), .int (nI 48), .int (nI 51)]) (rest := []) ⟨hx, hb, hml, hown, hts⟩ (kX6_in_n l D T Z (sg ch len ((((p + 1) + 1) + 1) + 1)) 48 51 (by omega) (by decide) (by decide)) (va_cwS 3 hts gX6_readsDigits_X6_in rfl rfl rfl (by decide +kernel) ⟨Nat.le_of_ble_eq_true rfl, Nat.le_of_ble_eq_true rfl⟩) hK hN hM hP hD hS hA rfl hl.1 rfl (Nat.le_of_ble_eq_true rfl) dX6_readsDigits_15 ⟨Nat.zero_le _, Nat.zero_le _⟩ (fun H locs hP hD hS => ?_)
          refine fr_ifne_b (tgt := 23) hx hb dX6_readsDigits_18 (by decide) (fun c_5 => ?_) (fun c_5 => ?_)
          · have c_5d := innN_t c_5
            have c_5l := sg_in (ch := ch) (len := len) (p := ((((p + 1) + 1) + 1) + 1)) (by omega)
            refine lv_aload_n hx hb dX6_readsDigits_23 rfl (lv_at hl 1 rfl) ?_
            refine va_get (D := D) (ci := 6) (v := .ref (md 3)) (C := RX6) (T := TX6) (N := 8) hx hb hts hinX6 hown hK (hP.at 0 rfl) 0 rfl rfl 6 (by decide) w_16 (fun _ h9 => h9) rfl dX6_readsDigits_24 ?_
            refine lv_iload_n hx hb dX6_readsDigits_27 rfl (lv_at hl 0 rfl) ?_
            refine lv_aload_n hx hb dX6_readsDigits_28 rfl (lv_at hl 1 rfl) ?_
            refine fr_Vi (As := []) (rest := [.int (nI 4), .ref (md 3)]) (fs' := [[((md 0), .inr (6, [.ref (md 1), .int (nI (n)), .ref (md 2), .int (nI (len)), .int (nI (((((p + 1) + 1) + 1) + 1))), .int (nI (le)), .ref (md 3), .ref (md 4)]))], [((md 2), .inl (T 0, 90, .inl (nf ch)))], [((md 3), .inl (T 0, 5, .inl (nf (updN (updN (updN (updN nu 0 (sg ch len p - 48)) 1 (sg ch len (p + 1) - 48)) 2 (sg ch len ((p + 1) + 1) - 48)) 3 (sg ch len (((p + 1) + 1) + 1) - 48)))))]]) (ci := 6) (q0 := (RX6, TX6, 8)) (i0 := 0) ⟨hx, hb, hml, hown, hts⟩ (kX6_sign l D T Z md n len ((((p + 1) + 1) + 1) + 1) le ch hch hlen (by first | omega | (dsimp only; omega))) (cwV 0 hts gX6_readsDigits_X6_sign rfl rfl rfl (by decide +kernel) ⟨Nat.le_of_ble_eq_true rfl, Nat.le_of_ble_eq_true rfl⟩) hK hN hM hP hD hS hA [0, 1] rfl rfl rfl rfl rfl rfl hl.1 rfl (Nat.le_of_ble_eq_true rfl) dX6_readsDigits_29 ⟨Nat.zero_le _, Nat.zero_le _⟩ (fun H locs hP hD hS => ?_)
            refine lv_bipush (v := nI 48) hx hb dX6_readsDigits_32 (by decide) ?_
            refine fr_isub (sg ch len ((((p + 1) + 1) + 1) + 1)) (48) (by omega) hx hb dX6_readsDigits_34 ?_
            refine fr_iastn (g := (updN (updN (updN (updN nu 0 (sg ch len p - 48)) 1 (sg ch len (p + 1) - 48)) 2 (sg ch len ((p + 1) + 1) - 48)) 3 (sg ch len (((p + 1) + 1) + 1) - 48))) (fs' := [[((md 0), .inr (6, [.ref (md 1), .int (nI (n)), .ref (md 2), .int (nI (len)), .int (nI (((((p + 1) + 1) + 1) + 1))), .int (nI (le)), .ref (md 3), .ref (md 4)]))], [((md 2), .inl (T 0, 90, .inl (nf ch)))], [((md 3), .inl (T 0, 5, .inl (nf (updN (updN (updN (updN (updN nu 0 (sg ch len p - 48)) 1 (sg ch len (p + 1) - 48)) 2 (sg ch len ((p + 1) + 1) - 48)) 3 (sg ch len (((p + 1) + 1) + 1) - 48)) 4 (sg ch len ((((p + 1) + 1) + 1) + 1) - 48)))))]]) hx hb hK hP hD hS 2 (4) rfl rfl (by decide) (by decide) dX6_readsDigits_35 (fun H locs hP hD hS => ?_)
            refine lv_aload_n hx hb dX6_readsDigits_36 rfl (lv_at hl 1 rfl) ?_
            refine lv_dup hx hb dX6_readsDigits_37 rfl ?_
            refine va_get (D := D) (ci := 6) (v := .int (nI (((((p + 1) + 1) + 1) + 1)))) (C := RX6) (T := TX6) (N := 8) hx hb hts hinX6 hown hK (hP.at 0 rfl) 0 rfl rfl 4 (by decide) w_142 (fun _ h9 => h9) rfl dX6_readsDigits_38 ?_
            refine lv_iconst (v := nI 1) hx hb dX6_readsDigits_41 (by decide) ?_
            refine fr_iadd (((((p + 1) + 1) + 1) + 1)) (1) hx hb dX6_readsDigits_42 ?_
            refine fr_put (T := T) (C := RX6) (TT := TX6) (N := 8) (ci := 6) (v := .int (nI ((((((p + 1) + 1) + 1) + 1) + 1)))) (fs' := [[((md 0), .inr (6, [.ref (md 1), .int (nI (n)), .ref (md 2), .int (nI (len)), .int (nI ((((((p + 1) + 1) + 1) + 1) + 1))), .int (nI (le)), .ref (md 3), .ref (md 4)]))], [((md 2), .inl (T 0, 90, .inl (nf ch)))], [((md 3), .inl (T 0, 5, .inl (nf (updN (updN (updN (updN (updN nu 0 (sg ch len p - 48)) 1 (sg ch len (p + 1) - 48)) 2 (sg ch len ((p + 1) + 1) - 48)) 3 (sg ch len (((p + 1) + 1) + 1) - 48)) 4 (sg ch len ((((p + 1) + 1) + 1) + 1) - 48)))))]]) (ty := .int) hx hb hts hinX6 tyX6 tyX6_ok nmX6 hown hK hP hD hS 0 rfl rfl 4 (by decide) rfl w_142 rfl rfl (by decide +kernel) rfl rfl (Nat.le_of_ble_eq_true rfl) dX6_readsDigits_43 (fun H locs hP hD hS => ?_)
            refine fr_iinc (4) (5) (nI_inc _) (lv' := [(2, .int (nI 5)), (0, .ref (md 0)), (1, .int (nI 5))]) (k := 0) hx hb dX6_readsDigits_46 hl rfl (by decide) rfl (fun ls hl => ?_)
            refine lv_goto (tgt := 2) hx hb dX6_readsDigits_49 (by decide) ?_
            refine lv_iload_n hx hb dX6_readsDigits_2 rfl (lv_at hl 0 rfl) ?_
            refine lv_iload_n hx hb dX6_readsDigits_3 rfl (lv_at hl 2 rfl) ?_
            refine fr_icmp_ge 5 5 (by decide) (by decide) (tgt := 52) hx hb dX6_readsDigits_4 (by decide) (fun _ => ?_) (fun z => absurd z (by decide))
            refine lv_iconst (v := nI 1) hx hb dX6_readsDigits_52 (by decide) ?_
            exact fr_zret hx hb hr hlk hP hS (by first | rfl | (simp only [dgR, c_1, c_2, c_3, c_4, c_5, ↓reduceIte, Bool.false_eq_true, bI_true, bI_false, Bool.true_and, Bool.and_true, Bool.and_false, Bool.false_and, Bool.not_true, Bool.not_false, Bool.or_true, Bool.true_or, Bool.or_false, Bool.false_or] <;> rfl) | (simp [dgR, c_1, c_2, c_3, c_4, c_5, bI]; done)) (by first | rfl | (simp only [dgR, c_1, c_2, c_3, c_4, c_5, ↓reduceIte, Bool.false_eq_true, bI_true, bI_false, Bool.true_and, Bool.and_true, Bool.and_false, Bool.false_and, Bool.not_true, Bool.not_false, Bool.or_true, Bool.true_or, Bool.or_false, Bool.false_or] <;> rfl) | (simp [dgR, c_1, c_2, c_3, c_4, c_5, bI]; done)) rfl dX6_readsDigits_53
          · refine lv_iconst (v := nI 0) hx hb dX6_readsDigits_21 (by decide) ?_
            exact fr_zret hx hb hr hlk hP hS (by first | rfl | (simp only [dgR, c_1, c_2, c_3, c_4, c_5, ↓reduceIte, Bool.false_eq_true, bI_true, bI_false, Bool.true_and, Bool.and_true, Bool.and_false, Bool.false_and, Bool.not_true, Bool.not_false, Bool.or_true, Bool.true_or, Bool.or_false, Bool.false_or] <;> rfl) | (simp [dgR, c_1, c_2, c_3, c_4, c_5, bI]; done)) (by first | rfl | (simp only [dgR, c_1, c_2, c_3, c_4, c_5, ↓reduceIte, Bool.false_eq_true, bI_true, bI_false, Bool.true_and, Bool.and_true, Bool.and_false, Bool.false_and, Bool.not_true, Bool.not_false, Bool.or_true, Bool.true_or, Bool.or_false, Bool.false_or] <;> rfl) | (simp [dgR, c_1, c_2, c_3, c_4, c_5, bI]; done)) rfl dX6_readsDigits_22
        · refine lv_iconst (v := nI 0) hx hb dX6_readsDigits_21 (by decide) ?_
          exact fr_zret hx hb hr hlk hP hS (by first | rfl | (simp only [dgR, c_1, c_2, c_3, c_4, ↓reduceIte, Bool.false_eq_true, bI_true, bI_false, Bool.true_and, Bool.and_true, Bool.and_false, Bool.false_and, Bool.not_true, Bool.not_false, Bool.or_true, Bool.true_or, Bool.or_false, Bool.false_or] <;> rfl) | (simp [dgR, c_1, c_2, c_3, c_4, bI]; done)) (by first | rfl | (simp only [dgR, c_1, c_2, c_3, c_4, ↓reduceIte, Bool.false_eq_true, bI_true, bI_false, Bool.true_and, Bool.and_true, Bool.and_false, Bool.false_and, Bool.not_true, Bool.not_false, Bool.or_true, Bool.true_or, Bool.or_false, Bool.false_or] <;> rfl) | (simp [dgR, c_1, c_2, c_3, c_4, bI]; done)) rfl dX6_readsDigits_22
      · refine lv_iconst (v := nI 0) hx hb dX6_readsDigits_21 (by decide) ?_
        exact fr_zret hx hb hr hlk hP hS (by first | rfl | (simp only [dgR, c_1, c_2, c_3, ↓reduceIte, Bool.false_eq_true, bI_true, bI_false, Bool.true_and, Bool.and_true, Bool.and_false, Bool.false_and, Bool.not_true, Bool.not_false, Bool.or_true, Bool.true_or, Bool.or_false, Bool.false_or] <;> rfl) | (simp [dgR, c_1, c_2, c_3, bI]; done)) (by first | rfl | (simp only [dgR, c_1, c_2, c_3, ↓reduceIte, Bool.false_eq_true, bI_true, bI_false, Bool.true_and, Bool.and_true, Bool.and_false, Bool.false_and, Bool.not_true, Bool.not_false, Bool.or_true, Bool.true_or, Bool.or_false, Bool.false_or] <;> rfl) | (simp [dgR, c_1, c_2, c_3, bI]; done)) rfl dX6_readsDigits_22
    · refine lv_iconst (v := nI 0) hx hb dX6_readsDigits_21 (by decide) ?_
      exact fr_zret hx hb hr hlk hP hS (by first | rfl | (simp only [dgR, c_1, c_2, ↓reduceIte, Bool.false_eq_true, bI_true, bI_false, Bool.true_and, Bool.and_true, Bool.and_false, Bool.false_and, Bool.not_true, Bool.not_false, Bool.or_true, Bool.true_or, Bool.or_false, Bool.false_or] <;> rfl) | (simp [dgR, c_1, c_2, bI]; done)) (by first | rfl | (simp only [dgR, c_1, c_2, ↓reduceIte, Bool.false_eq_true, bI_true, bI_false, Bool.true_and, Bool.and_true, Bool.and_false, Bool.false_and, Bool.not_true, Bool.not_false, Bool.or_true, Bool.true_or, Bool.or_false, Bool.false_or] <;> rfl) | (simp [dgR, c_1, c_2, bI]; done)) rfl dX6_readsDigits_22
  · refine lv_iconst (v := nI 0) hx hb dX6_readsDigits_21 (by decide) ?_
    exact fr_zret hx hb hr hlk hP hS (by first | rfl | (simp only [dgR, c_1, ↓reduceIte, Bool.false_eq_true, bI_true, bI_false, Bool.true_and, Bool.and_true, Bool.and_false, Bool.false_and, Bool.not_true, Bool.not_false, Bool.or_true, Bool.true_or, Bool.or_false, Bool.false_or] <;> rfl) | (simp [dgR, c_1, bI]; done)) (by first | rfl | (simp only [dgR, c_1, ↓reduceIte, Bool.false_eq_true, bI_true, bI_false, Bool.true_and, Bool.and_true, Bool.and_false, Bool.false_and, Bool.not_true, Bool.not_false, Bool.or_true, Bool.true_or, Bool.or_false, Bool.false_or] <;> rfl) | (simp [dgR, c_1, bI]; done)) rfl dX6_readsDigits_22
