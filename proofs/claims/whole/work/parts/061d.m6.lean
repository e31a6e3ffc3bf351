
set_option maxHeartbeats 8000000 in
set_option maxRecDepth 100000 in
theorem kX6_copies (l : Launch) (D : va_G) (T : Nat → ClassId) (Z : ZZ) (md : Nat → Nat) (n : Nat) (len : Nat) (p : Nat) (le : Nat) (σ : MS) (f : Nat) (t : Nat) (hf9 : f < 6) (ht : t < 6) : CtV l D T Z yX6_copies wsX6_copies ({ frames := 0, cells := 0, slots := 0, locals := 0 }) [[((md 0), .inr (6, [.ref (md 1), .int (nI (n)), .ref (md 2), .int (nI (len)), .int (nI (p)), .int (nI (le)), .ref (md 3), .ref (md 4)]))], [((md 1), .inl (T 0, 1872, .inl (σ)))]] [.ref (md 0), .int (nI (f)), .int (nI (t))] [[((md 0), .inr (6, [.ref (md 1), .int (nI (n)), .ref (md 2), .int (nI (len)), .int (nI (p)), .int (nI (le)), .ref (md 3), .ref (md 4)]))], [((md 1), .inl (T 0, 1872, .inl (mCp σ f t)))]] := by
  refine CtV.of (cc := cX6_copies) (maxL := 4) (ret := none) (plainFor_of_name (by decide)) rfl rfl ?_
  intro pP eE s mM bW mE cC A hE hK hN hM hP hD hA
  obtain ⟨hx, hb, hr, hts, hown, hml, hlk⟩ := hE
  have hown : s.vm.findClass RX6 = some mM.cls := hown
  have hS : va_S A s.heap s.heap [] := va_S.rf
  have hl := lv_entry ([.ref (md 0), .int (nI (f)), .int (nI (t))]) (n := 4) (Nat.le_of_ble_eq_true rfl)
  rw [lg_entry_eq]
  generalize (lg_sl ([.ref (md 0), .int (nI (f)), .int (nI (t))]) ++ List.replicate (4 - (lg_sl ([.ref (md 0), .int (nI (f)), .int (nI (t))])).length) Slot.unset).toArray = ls at hl ⊢
  have hl : lv_has ls 4 [(0, .ref (md 0)), (1, .int (nI (f))), (2, .int (nI (t)))] := hl
  have w_7 := hts (.fieldLink RX6 7 "PoisonedMemoryModel" "s" "[I") (by decide +kernel)
  have hinX6 : ∀ w ∈ wsX60, w ∈ wsX6_copies := by decide +kernel
  refine lv_iconst (v := nI 0) hx hb dX6_copies_0 (by decide) ?_
  refine lv_istore_n (lv' := [(3, .int (nI 0)), (0, .ref (md 0)), (1, .int (nI (f))), (2, .int (nI (t)))]) hx hb dX6_copies_1 rfl hl (by decide) rfl (fun ls hl => ?_)
  have loop2 : ∀ (n9 k9 : Nat), k9 ≤ 312 → 312 < k9 + n9 → ∀ (H : Heap) (locs : List Loc), frP D [[((md 0), .inr (6, [.ref (md 1), .int (nI (n)), .ref (md 2), .int (nI (len)), .int (nI (p)), .int (nI (le)), .ref (md 3), .ref (md 4)]))], [((md 1), .inl (T 0, 1872, .inl (mCpN σ f t k9)))]] H → va_D A ([[((md 0), .inr (6, [.ref (md 1), .int (nI (n)), .ref (md 2), .int (nI (len)), .int (nI (p)), .int (nI (le)), .ref (md 3), .ref (md 4)]))], [((md 1), .inl (T 0, 1872, .inl (mCpN σ f t k9)))]] : List va_W).flatten → va_S A s.heap H locs → ∀ (ls : Array Slot), lv_has ls 4 [(3, .int (nI (k9))), (0, .ref (md 0)), (1, .int (nI (f))), (2, .int (nI (t)))] → W pP l eE ({ frames := 0, cells := 0, slots := 0, locals := 0 }) s mM ([.ref (md 0), .int (nI (f)), .int (nI (t))] : List Value).toArray bW mE cC H locs 0 0 (MQ bW (QcV D [[((md 0), .inr (6, [.ref (md 1), .int (nI (n)), .ref (md 2), .int (nI (len)), .int (nI (p)), .int (nI (le)), .ref (md 3), .ref (md 4)]))], [((md 1), .inl (T 0, 1872, .inl (mCp σ f t)))]] A) ([.ref (md 0), .int (nI (f)), .int (nI (t))] : List Value).toArray s 0 0 A) (F0 mM 2 ls []) := by
    intro n9
    induction n9 with
    | zero => intro k9 h1 h2; exact absurd h2 (by omega)
    | succ n9 ih =>
      intro k9 hk1 hk2 H locs hP hD hS ls hl
      refine lv_iload_n hx hb dX6_copies_2 rfl (lv_at hl 0 rfl) ?_
      refine lv_sipush (v := nI 312) hx hb dX6_copies_3 (by decide) ?_
      refine fr_icmp_ge (k9) (312) (by omega) (by decide) (tgt := 39) hx hb dX6_copies_6 (by decide) (fun c_1 => ?_) (fun c_1 => ?_)
      · have c_1' := Nat.not_lt.mpr c_1
        obtain rfl : k9 = 312 := by omega
        exact fr_vret hx hb hr hlk hP hS (by first | rfl | (simp only [c_1, c_1', ↓reduceIte, Bool.false_eq_true, bI_true, bI_false, Bool.true_and, Bool.and_true, Bool.and_false, Bool.false_and, Bool.not_true, Bool.not_false, Bool.or_true, Bool.true_or, Bool.or_false, Bool.false_or] <;> rfl) | (simp [c_1, c_1', bI]; done)) dX6_copies_39
      · have c_1' := Nat.not_le.mpr c_1
        refine lv_aload_n hx hb dX6_copies_9 rfl (lv_at hl 1 rfl) ?_
        refine va_get (D := D) (ci := 6) (v := .ref (md 1)) (C := RX6) (T := TX6) (N := 8) hx hb hts hinX6 hown hK (hP.at 0 rfl) 0 rfl rfl 0 (by decide) w_7 (fun _ h9 => h9) rfl dX6_copies_10 ?_
        refine lv_sipush (v := nI 312) hx hb dX6_copies_13 (by decide) ?_
        refine lv_iload_n hx hb dX6_copies_16 rfl (lv_at hl 3 rfl) ?_
        refine fr_imul (312) (t) hx hb dX6_copies_17 ?_
        refine lv_iload_n hx hb dX6_copies_18 rfl (lv_at hl 0 rfl) ?_
        refine fr_iadd ((312 * t)) (k9) hx hb dX6_copies_19 ?_
        refine lv_aload_n hx hb dX6_copies_20 rfl (lv_at hl 1 rfl) ?_
        refine va_get (D := D) (ci := 6) (v := .ref (md 1)) (C := RX6) (T := TX6) (N := 8) hx hb hts hinX6 hown hK (hP.at 0 rfl) 0 rfl rfl 0 (by decide) w_7 (fun _ h9 => h9) rfl dX6_copies_21 ?_
        refine lv_sipush (v := nI 312) hx hb dX6_copies_24 (by decide) ?_
        refine lv_iload_n hx hb dX6_copies_27 rfl (lv_at hl 2 rfl) ?_
        refine fr_imul (312) (f) hx hb dX6_copies_28 ?_
        refine lv_iload_n hx hb dX6_copies_29 rfl (lv_at hl 0 rfl) ?_
        refine fr_iadd ((312 * f)) (k9) hx hb dX6_copies_30 ?_
        refine fr_iald hx hb hK hP 1 (((312 * f) + k9)) rfl (by omega) (by omega) dX6_copies_31 ?_
        refine fr_iast (fs' := [[((md 0), .inr (6, [.ref (md 1), .int (nI (n)), .ref (md 2), .int (nI (len)), .int (nI (p)), .int (nI (le)), .ref (md 3), .ref (md 4)]))], [((md 1), .inl (T 0, 1872, .inl (upd (mCpN σ f t k9) ((312 * t) + k9) ((mCpN σ f t k9) ((312 * f) + k9)))))]]) hx hb hK hP hD hS 1 (((312 * t) + k9)) rfl rfl (by omega) (by omega) dX6_copies_32 (fun H locs hP hD hS => ?_)
        refine fr_iinc (k9) ((k9 + 1)) (nI_inc _) (lv' := [(3, .int (nI ((k9 + 1)))), (0, .ref (md 0)), (1, .int (nI (f))), (2, .int (nI (t)))]) (k := 0) hx hb dX6_copies_33 hl rfl (by decide) rfl (fun ls hl => ?_)
        refine lv_goto (tgt := 2) hx hb dX6_copies_36 (by decide) ?_
        have q_2 : ([[((md 0), .inr (6, [.ref (md 1), .int (nI (n)), .ref (md 2), .int (nI (len)), .int (nI (p)), .int (nI (le)), .ref (md 3), .ref (md 4)]))], [((md 1), .inl (T 0, 1872, .inl (upd (mCpN σ f t k9) ((312 * t) + k9) ((mCpN σ f t k9) ((312 * f) + k9)))))]] : List va_W) = [[((md 0), .inr (6, [.ref (md 1), .int (nI (n)), .ref (md 2), .int (nI (len)), .int (nI (p)), .int (nI (le)), .ref (md 3), .ref (md 4)]))], [((md 1), .inl (T 0, 1872, .inl (mCpN σ f t (k9 + 1))))]] := (by first | rfl | (simp only [c_1, c_1', ↓reduceIte, Bool.false_eq_true, bI_true, bI_false, Bool.true_and, Bool.and_true, Bool.and_false, Bool.false_and, Bool.not_true, Bool.not_false, Bool.or_true, Bool.true_or, Bool.or_false, Bool.false_or] <;> rfl) | (simp [c_1, c_1']; done))
        rw [q_2] at hP hD
        exact ih  ((k9 + 1)) (by omega) (by omega) H locs hP hD hS ls (lv_sub hl [0, 1, 2, 3] rfl)
  have q_3 : ([[((md 0), .inr (6, [.ref (md 1), .int (nI (n)), .ref (md 2), .int (nI (len)), .int (nI (p)), .int (nI (le)), .ref (md 3), .ref (md 4)]))], [((md 1), .inl (T 0, 1872, .inl (σ)))]] : List va_W) = [[((md 0), .inr (6, [.ref (md 1), .int (nI (n)), .ref (md 2), .int (nI (len)), .int (nI (p)), .int (nI (le)), .ref (md 3), .ref (md 4)]))], [((md 1), .inl (T 0, 1872, .inl (mCpN σ f t 0)))]] := (by first | rfl | (simp only [↓reduceIte, Bool.false_eq_true, bI_true, bI_false, Bool.true_and, Bool.and_true, Bool.and_false, Bool.false_and, Bool.not_true, Bool.not_false, Bool.or_true, Bool.true_or, Bool.or_false, Bool.false_or] <;> rfl) | (simp []; done))
  rw [q_3] at hP hD
  exact loop2 (312 + 1) (0) (by omega) (by omega) _ _ hP hD hS ls (lv_sub hl [0, 1, 2, 3] rfl)

set_option maxHeartbeats 8000000 in
set_option maxRecDepth 100000 in
theorem kX6_begins (l : Launch) (D : va_G) (T : Nat → ClassId) (Z : ZZ) (md : Nat → Nat) (n : Nat) (len : Nat) (p : Nat) (le : Nat) (σ : MS)  : CtI l D T Z yX6_begins wsX6_begins ({ frames := 1, cells := 0, slots := 0, locals := 23 }) [[((md 0), .inr (6, [.ref (md 1), .int (nI (n)), .ref (md 2), .int (nI (len)), .int (nI (p)), .int (nI (le)), .ref (md 3), .ref (md 4)]))], [((md 1), .inl (T 0, 1872, .inl (σ)))]] [.ref (md 0)] (nI 1560) [[((md 0), .inr (6, [.ref (md 1), .int (nI (n)), .ref (md 2), .int (nI (len)), .int (nI (p)), .int (nI (le)), .ref (md 3), .ref (md 4)]))], [((md 1), .inl (T 0, 1872, .inl (mCp σ 0 5)))]] := by
  refine CtI.of (cc := cX6_begins) (maxL := 1) (ret := (some .int)) (plainFor_of_name (by decide)) rfl rfl ?_
  intro pP eE s mM bW mE cC A hE hK hN hM hP hD hA
  obtain ⟨hx, hb, hr, hts, hown, hml, hlk⟩ := hE
  have hown : s.vm.findClass RX6 = some mM.cls := hown
  have hS : va_S A s.heap s.heap [] := va_S.rf
  have hl := lv_entry ([.ref (md 0)]) (n := 1) (Nat.le_of_ble_eq_true rfl)
  rw [lg_entry_eq]
  generalize (lg_sl ([.ref (md 0)]) ++ List.replicate (1 - (lg_sl ([.ref (md 0)])).length) Slot.unset).toArray = ls at hl ⊢
  have hl : lv_has ls 1 [(0, .ref (md 0))] := hl
  refine lv_aload_n hx hb dX6_begins_0 rfl (lv_at hl 0 rfl) ?_
  refine lv_iconst (v := nI 0) hx hb dX6_begins_1 (by decide) ?_
  refine lv_iconst (v := nI 5) hx hb dX6_begins_2 (by decide) ?_
  refine fr_Vv (As := [.int (nI 0), .int (nI 5)]) (rest := []) (fs' := [[((md 0), .inr (6, [.ref (md 1), .int (nI (n)), .ref (md 2), .int (nI (len)), .int (nI (p)), .int (nI (le)), .ref (md 3), .ref (md 4)]))], [((md 1), .inl (T 0, 1872, .inl (mCp σ 0 5)))]]) (ci := 6) (q0 := (RX6, TX6, 8)) (i0 := 0) ⟨hx, hb, hml, hown, hts⟩ (kX6_copies l D T Z md n len p le σ 0 5 (by decide) (by decide)) (cwV 2 hts gX6_begins_X6_copies rfl rfl rfl (by decide +kernel) ⟨Nat.le_of_ble_eq_true rfl, Nat.le_of_ble_eq_true rfl⟩) hK hN hM hP hD hS hA [0, 1] rfl rfl rfl rfl rfl rfl hl.1 rfl (Nat.le_of_ble_eq_true rfl) dX6_begins_3 ⟨Nat.zero_le _, Nat.zero_le _⟩ (fun H locs hP hD hS => ?_)
  refine lv_sipush (v := nI 1560) hx hb dX6_begins_6 (by decide) ?_
  exact fr_iret hx hb hr hlk hP hS rfl rfl dX6_begins_9

set_option maxHeartbeats 8000000 in
set_option maxRecDepth 100000 in
theorem kX6_accepts (l : Launch) (D : va_G) (T : Nat → ClassId) (Z : ZZ) (md : Nat → Nat) (n : Nat) (len : Nat) (p : Nat) (le : Nat) (σ : MS) (x : Int32) (hn4 : n ≤ 4) : CtI l D T Z yX6_accepts wsX6_accepts ({ frames := 1, cells := 0, slots := 0, locals := 23 }) [[((md 0), .inr (6, [.ref (md 1), .int (nI (n)), .ref (md 2), .int (nI (len)), .int (nI (p)), .int (nI (le)), .ref (md 3), .ref (md 4)]))], [((md 1), .inl (T 0, 1872, .inl (σ)))]] [.ref (md 0), .int (x)] (x) [[((md 0), .inr (6, [.ref (md 1), .int (nI (nAcc n x)), .ref (md 2), .int (nI (len)), .int (nI (p)), .int (nI (le)), .ref (md 3), .ref (md 4)]))], [((md 1), .inl (T 0, 1872, .inl (mAcc σ n x)))]] := by
  refine CtI.of (cc := cX6_accepts) (maxL := 3) (ret := (some .int)) (plainFor_of_name (by decide)) rfl rfl ?_
  intro pP eE s mM bW mE cC A hE hK hN hM hP hD hA
  obtain ⟨hx, hb, hr, hts, hown, hml, hlk⟩ := hE
  have hown : s.vm.findClass RX6 = some mM.cls := hown
  have hS : va_S A s.heap s.heap [] := va_S.rf
  have hl := lv_entry ([.ref (md 0), .int (x)]) (n := 3) (Nat.le_of_ble_eq_true rfl)
  rw [lg_entry_eq]
  generalize (lg_sl ([.ref (md 0), .int (x)]) ++ List.replicate (3 - (lg_sl ([.ref (md 0), .int (x)])).length) Slot.unset).toArray = ls at hl ⊢
  have hl : lv_has ls 3 [(0, .ref (md 0)), (1, .int (x))] := hl
  have w_89 := hts (.fieldLink RX6 89 "PoisonedMemoryModel" "states" "I") (by decide +kernel)
  have hinX6 : ∀ w ∈ wsX60, w ∈ wsX6_accepts := by decide +kernel
  refine lv_iload_n hx hb dX6_accepts_0 rfl (lv_at hl 1 rfl) ?_
  refine fr_S0 (As := [.int (x)]) (rest := []) ⟨hx, hb, hml, hown, hts⟩ (kX6_isError l D T Z x) (va_cwS 1 hts gX6_accepts_X6_isError rfl rfl rfl (by decide +kernel) ⟨Nat.le_of_ble_eq_true rfl, Nat.le_of_ble_eq_true rfl⟩) hK hN hM hP hD hS hA rfl hl.1 rfl (Nat.le_of_ble_eq_true rfl) dX6_accepts_1 ⟨Nat.zero_le _, Nat.zero_le _⟩ (fun H locs hP hD hS => ?_)
  refine fr_ifeq_b (tgt := 9) hx hb dX6_accepts_4 (by decide) (fun c_1 => ?_) (fun c_1 => ?_)
  · refine lv_iconst (v := nI 1) hx hb dX6_accepts_9 (by decide) ?_
    refine lv_istore_n (lv' := [(2, .int (nI 1)), (0, .ref (md 0)), (1, .int (x))]) hx hb dX6_accepts_10 rfl hl (by decide) rfl (fun ls hl => ?_)
    refine lv_iload_n hx hb dX6_accepts_11 rfl (lv_at hl 0 rfl) ?_
    refine lv_iconst (v := nI 4) hx hb dX6_accepts_12 (by decide) ?_
    refine fr_icmp_ge 1 4 (by decide) (by decide) (tgt := 38) hx hb dX6_accepts_13 (by decide) (fun z => absurd z (by decide)) (fun _ => ?_)
    refine lv_aload_n hx hb dX6_accepts_16 rfl (lv_at hl 1 rfl) ?_
    refine va_get (D := D) (ci := 6) (v := .int (nI (n))) (C := RX6) (T := TX6) (N := 8) hx hb hts hinX6 hown hK (hP.at 0 rfl) 0 rfl rfl 1 (by decide) w_89 (fun _ h9 => h9) rfl dX6_accepts_17 ?_
    refine lv_iconst (v := nI 4) hx hb dX6_accepts_20 (by decide) ?_
    refine fr_icmp_ne (n) (4) (by omega) (by decide) (tgt := 38) hx hb dX6_accepts_21 (by decide) (fun c_2 => ?_) (fun c_2 => ?_)
    · refine lv_aload_n hx hb dX6_accepts_38 rfl (lv_at hl 1 rfl) ?_
      refine lv_dup hx hb dX6_accepts_39 rfl ?_
      refine va_get (D := D) (ci := 6) (v := .int (nI (n))) (C := RX6) (T := TX6) (N := 8) hx hb hts hinX6 hown hK (hP.at 0 rfl) 0 rfl rfl 1 (by decide) w_89 (fun _ h9 => h9) rfl dX6_accepts_40 ?_
      refine lv_aload_n hx hb dX6_accepts_43 rfl (lv_at hl 1 rfl) ?_
      refine va_get (D := D) (ci := 6) (v := .int (nI (n))) (C := RX6) (T := TX6) (N := 8) hx hb hts hinX6 hown hK (hP.at 0 rfl) 0 rfl rfl 1 (by decide) w_89 (fun _ h9 => h9) rfl dX6_accepts_44 ?_
      refine lv_iconst (v := nI 4) hx hb dX6_accepts_47 (by decide) ?_
      refine fr_icmp_ge (n) (4) (by omega) (by decide) (tgt := 55) hx hb dX6_accepts_48 (by decide) (fun c_3 => ?_) (fun c_3 => ?_)
      · have c_3' := Nat.not_lt.mpr c_3
        refine lv_iconst (v := nI 0) hx hb dX6_accepts_55 (by decide) ?_
        refine fr_iadd (n) (0) hx hb dX6_accepts_56 ?_
        refine fr_put (T := T) (C := RX6) (TT := TX6) (N := 8) (ci := 6) (v := .int (nI ((n + 0)))) (fs' := [[((md 0), .inr (6, [.ref (md 1), .int (nI ((n + 0))), .ref (md 2), .int (nI (len)), .int (nI (p)), .int (nI (le)), .ref (md 3), .ref (md 4)]))], [((md 1), .inl (T 0, 1872, .inl (σ)))]]) (ty := .int) hx hb hts hinX6 tyX6 tyX6_ok nmX6 hown hK hP hD hS 0 rfl rfl 1 (by decide) rfl w_89 rfl rfl (by decide +kernel) rfl rfl (Nat.le_of_ble_eq_true rfl) dX6_accepts_57 (fun H locs hP hD hS => ?_)
        refine lv_aload_n hx hb dX6_accepts_60 rfl (lv_at hl 1 rfl) ?_
        refine lv_iconst (v := nI 0) hx hb dX6_accepts_61 (by decide) ?_
        refine lv_aload_n hx hb dX6_accepts_62 rfl (lv_at hl 1 rfl) ?_
        refine va_get (D := D) (ci := 6) (v := .int (nI ((n + 0)))) (C := RX6) (T := TX6) (N := 8) hx hb hts hinX6 hown hK (hP.at 0 rfl) 0 rfl rfl 1 (by decide) w_89 (fun _ h9 => h9) rfl dX6_accepts_63 ?_
        refine fr_Vv (As := [.int (nI 0), .int (nI ((n + 0)))]) (rest := []) (fs' := [[((md 0), .inr (6, [.ref (md 1), .int (nI ((n + 0))), .ref (md 2), .int (nI (len)), .int (nI (p)), .int (nI (le)), .ref (md 3), .ref (md 4)]))], [((md 1), .inl (T 0, 1872, .inl (mCp σ 0 (n + 0))))]]) (ci := 6) (q0 := (RX6, TX6, 8)) (i0 := 0) ⟨hx, hb, hml, hown, hts⟩ (kX6_copies l D T Z md (n + 0) len p le σ 0 (n + 0) (by decide) (by omega)) (cwV 2 hts gX6_accepts_X6_copies rfl rfl rfl (by decide +kernel) ⟨Nat.le_of_ble_eq_true rfl, Nat.le_of_ble_eq_true rfl⟩) hK hN hM hP hD hS hA [0, 1] rfl rfl rfl rfl rfl rfl hl.1 rfl (Nat.le_of_ble_eq_true rfl) dX6_accepts_66 ⟨Nat.zero_le _, Nat.zero_le _⟩ (fun H locs hP hD hS => ?_)
        refine lv_aload_n hx hb dX6_accepts_69 rfl (lv_at hl 1 rfl) ?_
        refine lv_iconst (v := nI 5) hx hb dX6_accepts_70 (by decide) ?_
        refine lv_iconst (v := nI 0) hx hb dX6_accepts_71 (by decide) ?_
        refine fr_Vv (As := [.int (nI 5), .int (nI 0)]) (rest := []) (fs' := [[((md 0), .inr (6, [.ref (md 1), .int (nI ((n + 0))), .ref (md 2), .int (nI (len)), .int (nI (p)), .int (nI (le)), .ref (md 3), .ref (md 4)]))], [((md 1), .inl (T 0, 1872, .inl (mCp (mCp σ 0 (n + 0)) 5 0)))]]) (ci := 6) (q0 := (RX6, TX6, 8)) (i0 := 0) ⟨hx, hb, hml, hown, hts⟩ (kX6_copies l D T Z md (n + 0) len p le (mCp σ 0 (n + 0)) 5 0 (by decide) (by decide)) (cwV 2 hts gX6_accepts_X6_copies rfl rfl rfl (by decide +kernel) ⟨Nat.le_of_ble_eq_true rfl, Nat.le_of_ble_eq_true rfl⟩) hK hN hM hP hD hS hA [0, 1] rfl rfl rfl rfl rfl rfl hl.1 rfl (Nat.le_of_ble_eq_true rfl) dX6_accepts_72 ⟨Nat.zero_le _, Nat.zero_le _⟩ (fun H locs hP hD hS => ?_)
        refine lv_iload_n hx hb dX6_accepts_75 rfl (lv_at hl 2 rfl) ?_
        exact fr_iret hx hb hr hlk hP hS rfl (by first | rfl | (exfalso; omega) | (simp only [nAcc, mAcc, mShf, nInc, c_1, c_2, c_3, c_3', ↓reduceIte, Bool.false_eq_true, bI_true, bI_false, Bool.true_and, Bool.and_true, Bool.and_false, Bool.false_and, Bool.not_true, Bool.not_false, Bool.or_true, Bool.true_or, Bool.or_false, Bool.false_or] <;> rfl) | (simp [nAcc, mAcc, mShf, nInc, c_1, c_2, c_3, c_3', bI]; done)) dX6_accepts_76
      · have c_3' := Nat.not_le.mpr c_3
        refine lv_iconst (v := nI 1) hx hb dX6_accepts_51 (by decide) ?_
        refine lv_goto (tgt := 56) hx hb dX6_accepts_52 (by decide) ?_
        refine fr_iadd (n) (1) hx hb dX6_accepts_56 ?_
        refine fr_put (T := T) (C := RX6) (TT := TX6) (N := 8) (ci := 6) (v := .int (nI ((n + 1)))) (fs' := [[((md 0), .inr (6, [.ref (md 1), .int (nI ((n + 1))), .ref (md 2), .int (nI (len)), .int (nI (p)), .int (nI (le)), .ref (md 3), .ref (md 4)]))], [((md 1), .inl (T 0, 1872, .inl (σ)))]]) (ty := .int) hx hb hts hinX6 tyX6 tyX6_ok nmX6 hown hK hP hD hS 0 rfl rfl 1 (by decide) rfl w_89 rfl rfl (by decide +kernel) rfl rfl (Nat.le_of_ble_eq_true rfl) dX6_accepts_57 (fun H locs hP hD hS => ?_)
        refine lv_aload_n hx hb dX6_accepts_60 rfl (lv_at hl 1 rfl) ?_
        refine lv_iconst (v := nI 0) hx hb dX6_accepts_61 (by decide) ?_
        refine lv_aload_n hx hb dX6_accepts_62 rfl (lv_at hl 1 rfl) ?_
        refine va_get (D := D) (ci := 6) (v := .int (nI ((n + 1)))) (C := RX6) (T := TX6) (N := 8) hx hb hts hinX6 hown hK (hP.at 0 rfl) 0 rfl rfl 1 (by decide) w_89 (fun _ h9 => h9) rfl dX6_accepts_63 ?_
        refine fr_Vv (As := [.int (nI 0), .int (nI ((n + 1)))]) (rest := []) (fs' := [[((md 0), .inr (6, [.ref (md 1), .int (nI ((n + 1))), .ref (md 2), .int (nI (len)), .int (nI (p)), .int (nI (le)), .ref (md 3), .ref (md 4)]))], [((md 1), .inl (T 0, 1872, .inl (mCp σ 0 (n + 1))))]]) (ci := 6) (q0 := (RX6, TX6, 8)) (i0 := 0) ⟨hx, hb, hml, hown, hts⟩ (kX6_copies l D T Z md (n + 1) len p le σ 0 (n + 1) (by decide) (by omega)) (cwV 2 hts gX6_accepts_X6_copies rfl rfl rfl (by decide +kernel) ⟨Nat.le_of_ble_eq_true rfl, Nat.le_of_ble_eq_true rfl⟩) hK hN hM hP hD hS hA [0, 1] rfl rfl rfl rfl rfl rfl hl.1 rfl (Nat.le_of_ble_eq_true rfl) dX6_accepts_66 ⟨Nat.zero_le _, Nat.zero_le _⟩ (fun H locs hP hD hS => ?_)
        refine lv_aload_n hx hb dX6_accepts_69 rfl (lv_at hl 1 rfl) ?_
        refine lv_iconst (v := nI 5) hx hb dX6_accepts_70 (by decide) ?_
        refine lv_iconst (v := nI 0) hx hb dX6_accepts_71 (by decide) ?_
        refine fr_Vv (As := [.int (nI 5), .int (nI 0)]) (rest := []) (fs' := [[((md 0), .inr (6, [.ref (md 1), .int (nI ((n + 1))), .ref (md 2), .int (nI (len)), .int (nI (p)), .int (nI (le)), .ref (md 3), .ref (md 4)]))], [((md 1), .inl (T 0, 1872, .inl (mCp (mCp σ 0 (n + 1)) 5 0)))]]) (ci := 6) (q0 := (RX6, TX6, 8)) (i0 := 0) ⟨hx, hb, hml, hown, hts⟩ (kX6_copies l D T Z md (n + 1) len p le (mCp σ 0 (n + 1)) 5 0 (by decide) (by decide)) (cwV 2 hts gX6_accepts_X6_copies rfl rfl rfl (by decide +kernel) ⟨Nat.le_of_ble_eq_true rfl, Nat.le_of_ble_eq_true rfl⟩) hK hN hM hP hD hS hA [0, 1] rfl rfl rfl rfl rfl rfl hl.1 rfl (Nat.le_of_ble_eq_true rfl) dX6_accepts_72 ⟨Nat.zero_le _, Nat.zero_le _⟩ (fun H locs hP hD hS => ?_)
        refine lv_iload_n hx hb dX6_accepts_75 rfl (lv_at hl 2 rfl) ?_
        exact fr_iret hx hb hr hlk hP hS rfl (by first | rfl | (exfalso; omega) | (simp only [nAcc, mAcc, mShf, nInc, c_1, c_2, c_3, c_3', ↓reduceIte, Bool.false_eq_true, bI_true, bI_false, Bool.true_and, Bool.and_true, Bool.and_false, Bool.false_and, Bool.not_true, Bool.not_false, Bool.or_true, Bool.true_or, Bool.or_false, Bool.false_or] <;> rfl) | (simp [nAcc, mAcc, mShf, nInc, c_1, c_2, c_3, c_3', bI]; done)) dX6_accepts_76
    · refine lv_aload_n hx hb dX6_accepts_24 rfl (lv_at hl 1 rfl) ?_
      refine lv_iload_n hx hb dX6_accepts_25 rfl (lv_at hl 0 rfl) ?_
      refine lv_iconst (v := nI 1) hx hb dX6_accepts_26 (by decide) ?_
      refine fr_iadd (1) (1) hx hb dX6_accepts_27 ?_
      refine lv_iload_n hx hb dX6_accepts_28 rfl (lv_at hl 0 rfl) ?_
      refine fr_Vv (As := [.int (nI 2), .int (nI 1)]) (rest := []) (fs' := [[((md 0), .inr (6, [.ref (md 1), .int (nI (n)), .ref (md 2), .int (nI (len)), .int (nI (p)), .int (nI (le)), .ref (md 3), .ref (md 4)]))], [((md 1), .inl (T 0, 1872, .inl (mCp σ 2 1)))]]) (ci := 6) (q0 := (RX6, TX6, 8)) (i0 := 0) ⟨hx, hb, hml, hown, hts⟩ (kX6_copies l D T Z md n len p le σ 2 1 (by decide) (by decide)) (cwV 2 hts gX6_accepts_X6_copies rfl rfl rfl (by decide +kernel) ⟨Nat.le_of_ble_eq_true rfl, Nat.le_of_ble_eq_true rfl⟩) hK hN hM hP hD hS hA [0, 1] rfl rfl rfl rfl rfl rfl hl.1 rfl (Nat.le_of_ble_eq_true rfl) dX6_accepts_29 ⟨Nat.zero_le _, Nat.zero_le _⟩ (fun H locs hP hD hS => ?_)
      refine fr_iinc (1) (2) (nI_inc _) (lv' := [(2, .int (nI 2)), (0, .ref (md 0)), (1, .int (x))]) (k := 0) hx hb dX6_accepts_32 hl rfl (by decide) rfl (fun ls hl => ?_)
      refine lv_goto (tgt := 11) hx hb dX6_accepts_35 (by decide) ?_
      refine lv_iload_n hx hb dX6_accepts_11 rfl (lv_at hl 0 rfl) ?_
      refine lv_iconst (v := nI 4) hx hb dX6_accepts_12 (by decide) ?_
      refine fr_icmp_ge 2 4 (by decide) (by decide) (tgt := 38) hx hb dX6_accepts_13 (by decide) (fun z => absurd z (by decide)) (fun _ => ?_)
      refine lv_aload_n hx hb dX6_accepts_16 rfl (lv_at hl 1 rfl) ?_
      refine va_get (D := D) (ci := 6) (v := .int (nI (n))) (C := RX6) (T := TX6) (N := 8) hx hb hts hinX6 hown hK (hP.at 0 rfl) 0 rfl rfl 1 (by decide) w_89 (fun _ h9 => h9) rfl dX6_accepts_17 ?_
      refine lv_iconst (v := nI 4) hx hb dX6_accepts_20 (by decide) ?_
      refine fr_icmp_ne (n) (4) (by omega) (by decide) (tgt := 38) hx hb dX6_accepts_21 (by decide) (fun z => absurd z (by omega)) (fun _ => ?_)
      refine lv_aload_n hx hb dX6_accepts_24 rfl (lv_at hl 1 rfl) ?_
      refine lv_iload_n hx hb dX6_accepts_25 rfl (lv_at hl 0 rfl) ?_
      refine lv_iconst (v := nI 1) hx hb dX6_accepts_26 (by decide) ?_
      refine fr_iadd (2) (1) hx hb dX6_accepts_27 ?_
      refine lv_iload_n hx hb dX6_accepts_28 rfl (lv_at hl 0 rfl) ?_
      refine fr_Vv (As := [.int (nI 3), .int (nI 2)]) (rest := []) (fs' := [[((md 0), .inr (6, [.ref (md 1), .int (nI (n)), .ref (md 2), .int (nI (len)), .int (nI (p)), .int (nI (le)), .ref (md 3), .ref (md 4)]))], [((md 1), .inl (T 0, 1872, .inl (mCp (mCp σ 2 1) 3 2)))]]) (ci := 6) (q0 := (RX6, TX6, 8)) (i0 := 0) ⟨hx, hb, hml, hown, hts⟩ (kX6_copies l D T Z md n len p le (mCp σ 2 1) 3 2 (by decide) (by decide)) (cwV 2 hts gX6_accepts_X6_copies rfl rfl rfl (by decide +kernel) ⟨Nat.le_of_ble_eq_true rfl, Nat.le_of_ble_eq_true rfl⟩) hK hN hM hP hD hS hA [0, 1] rfl rfl rfl rfl rfl rfl hl.1 rfl (Nat.le_of_ble_eq_true rfl) dX6_accepts_29 ⟨Nat.zero_le _, Nat.zero_le _⟩ (fun H locs hP hD hS => ?_)
      refine fr_iinc (2) (3) (nI_inc _) (lv' := [(2, .int (nI 3)), (0, .ref (md 0)), (1, .int (x))]) (k := 0) hx hb dX6_accepts_32 hl rfl (by decide) rfl (fun ls hl => ?_)
      refine lv_goto (tgt := 11) hx hb dX6_accepts_35 (by decide) ?_
      refine lv_iload_n hx hb dX6_accepts_11 rfl (lv_at hl 0 rfl) ?_
      refine lv_iconst (v := nI 4) hx hb dX6_accepts_12 (by decide) ?_
      refine fr_icmp_ge 3 4 (by decide) (by decide) (tgt := 38) hx hb dX6_accepts_13 (by decide) (fun z => absurd z (by decide)) (fun _ => ?_)
      refine lv_aload_n hx hb dX6_accepts_16 rfl (lv_at hl 1 rfl) ?_
      refine va_get (D := D) (ci := 6) (v := .int (nI (n))) (C := RX6) (T := TX6) (N := 8) hx hb hts hinX6 hown hK (hP.at 0 rfl) 0 rfl rfl 1 (by decide) w_89 (fun _ h9 => h9) rfl dX6_accepts_17 ?_
      refine lv_iconst (v := nI 4) hx hb dX6_accepts_20 (by decide) ?_
      refine fr_icmp_ne (n) (4) (by omega) (by decide) (tgt := 38) hx hb dX6_accepts_21 (by decide) (fun z => absurd z (by omega)) (fun _ => ?_)
      refine lv_aload_n hx hb dX6_accepts_24 rfl (lv_at hl 1 rfl) ?_
      refine lv_iload_n hx hb dX6_accepts_25 rfl (lv_at hl 0 rfl) ?_
      refine lv_iconst (v := nI 1) hx hb dX6_accepts_26 (by decide) ?_
      refine fr_iadd (3) (1) hx hb dX6_accepts_27 ?_
      refine lv_iload_n hx hb dX6_accepts_28 rfl (lv_at hl 0 rfl) ?_
      refine fr_Vv (As := [.int (nI 4), .int (nI 3)]) (rest := []) (fs' := [[((md 0), .inr (6, [.ref (md 1), .int (nI (n)), .ref (md 2), .int (nI (len)), .int (nI (p)), .int (nI (le)), .ref (md 3), .ref (md 4)]))], [((md 1), .inl (T 0, 1872, .inl (mCp (mCp (mCp σ 2 1) 3 2) 4 3)))]]) (ci := 6) (q0 := (RX6, TX6, 8)) (i0 := 0) ⟨hx, hb, hml, hown, hts⟩ (kX6_copies l D T Z md n len p le (mCp (mCp σ 2 1) 3 2) 4 3 (by decide) (by decide)) (cwV 2 hts gX6_accepts_X6_copies rfl rfl rfl (by decide +kernel) ⟨Nat.le_of_ble_eq_true rfl, Nat.le_of_ble_eq_true rfl⟩) hK hN hM hP hD hS hA [0, 1] rfl rfl rfl rfl rfl rfl hl.1 rfl (Nat.le_of_ble_eq_true rfl) dX6_accepts_29 ⟨Nat.zero_le _, Nat.zero_le _⟩ (fun H locs hP hD hS => ?_)
      refine fr_iinc (3) (4) (nI_inc _) (lv' := [(2, .int (nI 4)), (0, .ref (md 0)), (1, .int (x))]) (k := 0) hx hb dX6_accepts_32 hl rfl (by decide) rfl (fun ls hl => ?_)
      refine lv_goto (tgt := 11) hx hb dX6_accepts_35 (by decide) ?_
      refine lv_iload_n hx hb dX6_accepts_11 rfl (lv_at hl 0 rfl) ?_
      refine lv_iconst (v := nI 4) hx hb dX6_accepts_12 (by decide) ?_
      refine fr_icmp_ge 4 4 (by decide) (by decide) (tgt := 38) hx hb dX6_accepts_13 (by decide) (fun _ => ?_) (fun z => absurd z (by decide))
      refine lv_aload_n hx hb dX6_accepts_38 rfl (lv_at hl 1 rfl) ?_
      refine lv_dup hx hb dX6_accepts_39 rfl ?_
      refine va_get (D := D) (ci := 6) (v := .int (nI (n))) (C := RX6) (T := TX6) (N := 8) hx hb hts hinX6 hown hK (hP.at 0 rfl) 0 rfl rfl 1 (by decide) w_89 (fun _ h9 => h9) rfl dX6_accepts_40 ?_
      refine lv_aload_n hx hb dX6_accepts_43 rfl (lv_at hl 1 rfl) ?_
      refine va_get (D := D) (ci := 6) (v := .int (nI (n))) (C := RX6) (T := TX6) (N := 8) hx hb hts hinX6 hown hK (hP.at 0 rfl) 0 rfl rfl 1 (by decide) w_89 (fun _ h9 => h9) rfl dX6_accepts_44 ?_
      refine lv_iconst (v := nI 4) hx hb dX6_accepts_47 (by decide) ?_
      refine fr_icmp_ge (n) (4) (by omega) (by decide) (tgt := 55) hx hb dX6_accepts_48 (by decide) (fun c_4 => ?_) (fun c_4 => ?_)
      · have c_4' := Nat.not_lt.mpr c_4
        refine lv_iconst (v := nI 0) hx hb dX6_accepts_55 (by decide) ?_
        refine fr_iadd (n) (0) hx hb dX6_accepts_56 ?_
        refine fr_put (T := T) (C := RX6) (TT := TX6) (N := 8) (ci := 6) (v := .int (nI ((n + 0)))) (fs' := [[((md 0), .inr (6, [.ref (md 1), .int (nI ((n + 0))), .ref (md 2), .int (nI (len)), .int (nI (p)), .int (nI (le)), .ref (md 3), .ref (md 4)]))], [((md 1), .inl (T 0, 1872, .inl (mCp (mCp (mCp σ 2 1) 3 2) 4 3)))]]) (ty := .int) hx hb hts hinX6 tyX6 tyX6_ok nmX6 hown hK hP hD hS 0 rfl rfl 1 (by decide) rfl w_89 rfl rfl (by decide +kernel) rfl rfl (Nat.le_of_ble_eq_true rfl) dX6_accepts_57 (fun H locs hP hD hS => ?_)
        refine lv_aload_n hx hb dX6_accepts_60 rfl (lv_at hl 1 rfl) ?_
        refine lv_iconst (v := nI 0) hx hb dX6_accepts_61 (by decide) ?_
        refine lv_aload_n hx hb dX6_accepts_62 rfl (lv_at hl 1 rfl) ?_
        refine va_get (D := D) (ci := 6) (v := .int (nI ((n + 0)))) (C := RX6) (T := TX6) (N := 8) hx hb hts hinX6 hown hK (hP.at 0 rfl) 0 rfl rfl 1 (by decide) w_89 (fun _ h9 => h9) rfl dX6_accepts_63 ?_
        refine fr_Vv (As := [.int (nI 0), .int (nI ((n + 0)))]) (rest := []) (fs' := [[((md 0), .inr (6, [.ref (md 1), .int (nI ((n + 0))), .ref (md 2), .int (nI (len)), .int (nI (p)), .int (nI (le)), .ref (md 3), .ref (md 4)]))], [((md 1), .inl (T 0, 1872, .inl (mCp (mCp (mCp (mCp σ 2 1) 3 2) 4 3) 0 (n + 0))))]]) (ci := 6) (q0 := (RX6, TX6, 8)) (i0 := 0) ⟨hx, hb, hml, hown, hts⟩ (kX6_copies l D T Z md (n + 0) len p le (mCp (mCp (mCp σ 2 1) 3 2) 4 3) 0 (n + 0) (by decide) (by omega)) (cwV 2 hts gX6_accepts_X6_copies rfl rfl rfl (by decide +kernel) ⟨Nat.le_of_ble_eq_true rfl, Nat.le_of_ble_eq_true rfl⟩) hK hN hM hP hD hS hA [0, 1] rfl rfl rfl rfl rfl rfl hl.1 rfl (Nat.le_of_ble_eq_true rfl) dX6_accepts_66 ⟨Nat.zero_le _, Nat.zero_le _⟩ (fun H locs hP hD hS => ?_)
        refine lv_aload_n hx hb dX6_accepts_69 rfl (lv_at hl 1 rfl) ?_
        refine lv_iconst (v := nI 5) hx hb dX6_accepts_70 (by decide) ?_
        refine lv_iconst (v := nI 0) hx hb dX6_accepts_71 (by decide) ?_
        refine fr_Vv (As := [.int (nI 5), .int (nI 0)]) (rest := []) (fs' := [[((md 0), .inr (6, [.ref (md 1), .int (nI ((n + 0))), .ref (md 2), .int (nI (len)), .int (nI (p)), .int (nI (le)), .ref (md 3), .ref (md 4)]))], [((md 1), .inl (T 0, 1872, .inl (mCp (mCp (mCp (mCp (mCp σ 2 1) 3 2) 4 3) 0 (n + 0)) 5 0)))]]) (ci := 6) (q0 := (RX6, TX6, 8)) (i0 := 0) ⟨hx, hb, hml, hown, hts⟩ (kX6_copies l D T Z md (n + 0) len p le (mCp (mCp (mCp (mCp σ 2 1) 3 2) 4 3) 0 (n + 0)) 5 0 (by decide) (by decide)) (cwV 2 hts gX6_accepts_X6_copies rfl rfl rfl (by decide +kernel) ⟨Nat.le_of_ble_eq_true rfl, Nat.le_of_ble_eq_true rfl⟩) hK hN hM hP hD hS hA [0, 1] rfl rfl rfl rfl rfl rfl hl.1 rfl (Nat.le_of_ble_eq_true rfl) dX6_accepts_72 ⟨Nat.zero_le _, Nat.zero_le _⟩ (fun H locs hP hD hS => ?_)
        refine lv_iload_n hx hb dX6_accepts_75 rfl (lv_at hl 2 rfl) ?_
        exact fr_iret hx hb hr hlk hP hS rfl (by first | rfl | (exfalso; omega) | (simp only [nAcc, mAcc, mShf, nInc, c_1, c_2, c_4, c_4', ↓reduceIte, Bool.false_eq_true, bI_true, bI_false, Bool.true_and, Bool.and_true, Bool.and_false, Bool.false_and, Bool.not_true, Bool.not_false, Bool.or_true, Bool.true_or, Bool.or_false, Bool.false_or] <;> rfl) | (simp [nAcc, mAcc, mShf, nInc, c_1, c_2, c_4, c_4', bI]; done)) dX6_accepts_76
      · have c_4' := Nat.not_le.mpr c_4
        refine lv_iconst (v := nI 1) hx hb dX6_accepts_51 (by decide) ?_
        refine lv_goto (tgt := 56) hx hb dX6_accepts_52 (by decide) ?_
        refine fr_iadd (n) (1) hx hb dX6_accepts_56 ?_
        refine fr_put (T := T) (C := RX6) (TT := TX6) (N := 8) (ci := 6) (v := .int (nI ((n + 1)))) (fs' := [[((md 0), .inr (6, [.ref (md 1), .int (nI ((n + 1))), .ref (md 2), .int (nI (len)), .int (nI (p)), .int (nI (le)), .ref (md 3), .ref (md 4)]))], [((md 1), .inl (T 0, 1872, .inl (mCp (mCp (mCp σ 2 1) 3 2) 4 3)))]]) (ty := .int) hx hb hts hinX6 tyX6 tyX6_ok nmX6 hown hK hP hD hS 0 rfl rfl 1 (by decide) rfl w_89 rfl rfl (by decide +kernel) rfl rfl (Nat.le_of_ble_eq_true rfl) dX6_accepts_57 (fun H locs hP hD hS => ?_)
        refine lv_aload_n hx hb dX6_accepts_60 rfl (lv_at hl 1 rfl) ?_
        refine lv_iconst (v := nI 0) hx hb dX6_accepts_61 (by decide) ?_
        refine lv_aload_n hx hb dX6_accepts_62 rfl (lv_at hl 1 rfl) ?_
        refine va_get (D := D) (ci := 6) (v := .int (nI ((n + 1)))) (C := RX6) (T := TX6) (N := 8) hx hb hts hinX6 hown hK (hP.at 0 rfl) 0 rfl rfl 1 (by decide) w_89 (fun _ h9 => h9) rfl dX6_accepts_63 ?_
        refine fr_Vv (As := [.int (nI 0), .int (nI ((n + 1)))]) (rest := []) (fs' := [[((md 0), .inr (6, [.ref (md 1), .int (nI ((n + 1))), .ref (md 2), .int (nI (len)), .int (nI (p)), .int (nI (le)), .ref (md 3), .ref (md 4)]))], [((md 1), .inl (T 0, 1872, .inl (mCp (mCp (mCp (mCp σ 2 1) 3 2) 4 3) 0 (n + 1))))]]) (ci := 6) (q0 := (RX6, TX6, 8)) (i0 := 0) ⟨hx, hb, hml, hown, hts⟩ (kX6_copies l D T Z md (n + 1) len p le (mCp (mCp (mCp σ 2 1) 3 2) 4 3) 0 (n + 1) (by decide) (by omega)) (cwV 2 hts gX6_accepts_X6_copies rfl rfl rfl (by decide +kernel) ⟨Nat.le_of_ble_eq_true rfl, Nat.le_of_ble_eq_true rfl⟩) hK hN hM hP hD hS hA [0, 1] rfl rfl rfl rfl rfl rfl hl.1 rfl (Nat.le_of_ble_eq_true rfl) dX6_accepts_66 ⟨Nat.zero_le _, Nat.zero_le _⟩ (fun H locs hP hD hS => ?_)
        refine lv_aload_n hx hb dX6_accepts_69 rfl (lv_at hl 1 rfl) ?_
        refine lv_iconst (v := nI 5) hx hb dX6_accepts_70 (by decide) ?_
        refine lv_iconst (v := nI 0) hx hb dX6_accepts_71 (by decide) ?_
        refine fr_Vv (As := [.int (nI 5), .int (nI 0)]) (rest := []) (fs' := [[((md 0), .inr (6, [.ref (md 1), .int (nI ((n + 1))), .ref (md 2), .int (nI (len)), .int (nI (p)), .int (nI (le)), .ref (md 3), .ref (md 4)]))], [((md 1), .inl (T 0, 1872, .inl (mCp (mCp (mCp (mCp (mCp σ 2 1) 3 2) 4 3) 0 (n + 1)) 5 0)))]]) (ci := 6) (q0 := (RX6, TX6, 8)) (i0 := 0) ⟨hx, hb, hml, hown, hts⟩ (kX6_copies l D T Z md (n + 1) len p le (mCp (mCp (mCp (mCp σ 2 1) 3 2) 4 3) 0 (n + 1)) 5 0 (by decide) (by decide)) (cwV 2 hts gX6_accepts_X6_copies rfl rfl rfl (by decide +kernel) ⟨Nat.le_of_ble_eq_true rfl, Nat.le_of_ble_eq_true rfl⟩) hK hN hM hP hD hS hA [0, 1] rfl rfl rfl rfl rfl rfl hl.1 rfl (Nat.le_of_ble_eq_true rfl) dX6_accepts_72 ⟨Nat.zero_le _, Nat.zero_le _⟩ (fun H locs hP hD hS => ?_)
        refine lv_iload_n hx hb dX6_accepts_75 rfl (lv_at hl 2 rfl) ?_
        exact fr_iret hx hb hr hlk hP hS rfl (by first | rfl | (exfalso; omega) | (simp only [nAcc, mAcc, mShf, nInc, c_1, c_2, c_4, c_4', ↓reduceIte, Bool.false_eq_true, bI_true, bI_false, Bool.true_and, Bool.and_true, Bool.and_false, Bool.false_and, Bool.not_true, Bool.not_false, Bool.or_true, Bool.true_or, Bool.or_false, Bool.false_or] <;> rfl) | (simp [nAcc, mAcc, mShf, nInc, c_1, c_2, c_4, c_4', bI]; done)) dX6_accepts_76
  · refine lv_iload_n hx hb dX6_accepts_7 rfl (lv_at hl 1 rfl) ?_
    exact fr_iret hx hb hr hlk hP hS rfl (by first | rfl | (exfalso; omega) | (simp only [nAcc, mAcc, mShf, nInc, c_1, ↓reduceIte, Bool.false_eq_true, bI_true, bI_false, Bool.true_and, Bool.and_true, Bool.and_false, Bool.false_and, Bool.not_true, Bool.not_false, Bool.or_true, Bool.true_or, Bool.or_false, Bool.false_or] <;> rfl) | (simp [nAcc, mAcc, mShf, nInc, c_1, bI]; done)) dX6_accepts_8

set_option maxHeartbeats 8000000 in
set_option maxRecDepth 100000 in
theorem kX6_result (l : Launch) (D : va_G) (T : Nat → ClassId) (Z : ZZ) (q : Nat) (x : Int32) (y : Int32) (hq : q < 4) : CtI l D T Z yX6_result wsX6_result ({ frames := 0, cells := 0, slots := 0, locals := 0 }) ([] : List va_W) [.int (nI (q)), .int (x), .int (y)] (mRes q x y) ([] : List va_W) := by
  refine CtI.of (cc := cX6_result) (maxL := 6) (ret := (some .int)) (plainFor_of_name (by decide)) rfl rfl ?_
  intro pP eE s mM bW mE cC A hE hK hN hM hP hD hA
  obtain ⟨hx, hb, hr, hts, hown, hml, hlk⟩ := hE
  have hown : s.vm.findClass RX6 = some mM.cls := hown
  have hS : va_S A s.heap s.heap [] := va_S.rf
  have hl := lv_entry ([.int (nI (q)), .int (x), .int (y)]) (n := 6) (Nat.le_of_ble_eq_true rfl)
  rw [lg_entry_eq]
  generalize (lg_sl ([.int (nI (q)), .int (x), .int (y)]) ++ List.replicate (6 - (lg_sl ([.int (nI (q)), .int (x), .int (y)])).length) Slot.unset).toArray = ls at hl ⊢
  have hl : lv_has ls 6 [(0, .int (nI (q))), (1, .int (x)), (2, .int (y))] := hl
  have w_73 := hts (.constantLong RX6 73 (65535)) (by decide +kernel)
  refine lv_iload_n hx hb dX6_result_0 rfl (lv_at hl 0 rfl) ?_
  refine fr_if_ne (q) (by omega) (tgt := 10) hx hb dX6_result_1 (by decide) (fun c_1 => ?_) (fun c_1 => ?_)
  · refine lv_iload_n hx hb dX6_result_10 rfl (lv_at hl 0 rfl) ?_
    refine lv_iconst (v := nI 1) hx hb dX6_result_11 (by decide) ?_
    refine fr_icmp_ne (q) (1) (by omega) (by decide) (tgt := 21) hx hb dX6_result_12 (by decide) (fun c_2 => ?_) (fun c_2 => ?_)
    · refine lv_iload_n hx hb dX6_result_21 rfl (lv_at hl 0 rfl) ?_
      refine lv_iconst (v := nI 2) hx hb dX6_result_22 (by decide) ?_
      refine fr_icmp_ne (q) (2) (by omega) (by decide) (tgt := 32) hx hb dX6_result_23 (by decide) (fun c_3 => ?_) (fun c_3 => ?_)
      · refine lv_iconst (v := nI 0) hx hb dX6_result_32 (by decide) ?_
        refine lv_istore_n (lv' := [(3, .int (nI 0)), (0, .int (nI (q))), (1, .int (x)), (2, .int (y))]) hx hb dX6_result_33 rfl hl (by decide) rfl (fun ls hl => ?_)
        refine lv_iload_n hx hb dX6_result_34 rfl (lv_at hl 1 rfl) ?_
        refine lv_iconst (v := nI 3) hx hb dX6_result_35 (by decide) ?_
        refine fr_icmp_ne (q) (3) (by omega) (by decide) (tgt := 47) hx hb dX6_result_36 (by decide) (fun c_4 => ?_) (fun c_4 => ?_)
        · refine lv_iload_n hx hb dX6_result_47 rfl (lv_at hl 0 rfl) ?_
          refine lv_i2l hx hb dX6_result_48 rfl ?_
          refine lv_lstore (lv' := [(4, .long ((nI 0).toInt64)), (3, .int (nI 0)), (0, .int (nI (q))), (1, .int (x)), (2, .int (y))]) hx hb dX6_result_49 hl (by decide) rfl (fun ls hl => ?_)
          refine lv_lload hx hb dX6_result_51 (lv_at hl 0 rfl) ?_
          refine lv_ldc2 hx hb hown w_73 dX6_result_53 ?_
          refine lv_land hx hb dX6_result_56 ?_
          refine lv_l2i hx hb dX6_result_57 rfl ?_
          exact fr_iret hx hb hr hlk hP hS (by first | (exfalso; omega) | (unfold mRes; simp only [c_1, c_2, c_3, c_4, ↓reduceIte, Bool.false_eq_true, bI_true, bI_false, Bool.true_and, Bool.and_true, Bool.and_false, Bool.false_and, Bool.not_true, Bool.not_false, Bool.or_true, Bool.true_or, Bool.or_false, Bool.false_or] <;> rfl)) rfl dX6_result_58
        · refine lv_iload_n hx hb dX6_result_39 rfl (lv_at hl 2 rfl) ?_
          refine lv_i2l hx hb dX6_result_40 rfl ?_
          refine lv_iload_n hx hb dX6_result_41 rfl (lv_at hl 3 rfl) ?_
          refine lv_i2l hx hb dX6_result_42 rfl ?_
          refine lv_lmul hx hb dX6_result_43 ?_
          refine lv_goto (tgt := 49) hx hb dX6_result_44 (by decide) ?_
          refine lv_lstore (lv' := [(4, .long (x.toInt64 * y.toInt64)), (3, .int (nI 0)), (0, .int (nI (q))), (1, .int (x)), (2, .int (y))]) hx hb dX6_result_49 hl (by decide) rfl (fun ls hl => ?_)
          refine lv_lload hx hb dX6_result_51 (lv_at hl 0 rfl) ?_
          refine lv_ldc2 hx hb hown w_73 dX6_result_53 ?_
          refine lv_land hx hb dX6_result_56 ?_
          refine lv_l2i hx hb dX6_result_57 rfl ?_
          exact fr_iret hx hb hr hlk hP hS (by first | (exfalso; omega) | (unfold mRes; simp only [c_1, c_2, c_3, c_4, ↓reduceIte, Bool.false_eq_true, bI_true, bI_false, Bool.true_and, Bool.and_true, Bool.and_false, Bool.false_and, Bool.not_true, Bool.not_false, Bool.or_true, Bool.true_or, Bool.or_false, Bool.false_or] <;> rfl)) rfl dX6_result_58
      · refine lv_iload_n hx hb dX6_result_26 rfl (lv_at hl 1 rfl) ?_
        refine lv_iload_n hx hb dX6_result_27 rfl (lv_at hl 2 rfl) ?_
        refine lv_ixor hx hb dX6_result_28 ?_
        refine lv_goto (tgt := 33) hx hb dX6_result_29 (by decide) ?_
        refine lv_istore_n (lv' := [(3, .int (x ^^^ y)), (0, .int (nI (q))), (1, .int (x)), (2, .int (y))]) hx hb dX6_result_33 rfl hl (by decide) rfl (fun ls hl => ?_)
        refine lv_iload_n hx hb dX6_result_34 rfl (lv_at hl 1 rfl) ?_
        refine lv_iconst (v := nI 3) hx hb dX6_result_35 (by decide) ?_
        refine fr_icmp_ne (q) (3) (by omega) (by decide) (tgt := 47) hx hb dX6_result_36 (by decide) (fun c_5 => ?_) (fun c_5 => ?_)
        · refine lv_iload_n hx hb dX6_result_47 rfl (lv_at hl 0 rfl) ?_
          refine lv_i2l hx hb dX6_result_48 rfl ?_
          refine lv_lstore (lv' := [(4, .long ((x ^^^ y).toInt64)), (3, .int (x ^^^ y)), (0, .int (nI (q))), (1, .int (x)), (2, .int (y))]) hx hb dX6_result_49 hl (by decide) rfl (fun ls hl => ?_)
          refine lv_lload hx hb dX6_result_51 (lv_at hl 0 rfl) ?_
          refine lv_ldc2 hx hb hown w_73 dX6_result_53 ?_
          refine lv_land hx hb dX6_result_56 ?_
          refine lv_l2i hx hb dX6_result_57 rfl ?_
          exact fr_iret hx hb hr hlk hP hS (by first | (exfalso; omega) | (unfold mRes; simp only [c_1, c_2, c_3, c_5, ↓reduceIte, Bool.false_eq_true, bI_true, bI_false, Bool.true_and, Bool.and_true, Bool.and_false, Bool.false_and, Bool.not_true, Bool.not_false, Bool.or_true, Bool.true_or, Bool.or_false, Bool.false_or] <;> rfl)) rfl dX6_result_58
        · refine lv_iload_n hx hb dX6_result_39 rfl (lv_at hl 2 rfl) ?_
          refine lv_i2l hx hb dX6_result_40 rfl ?_
          refine lv_iload_n hx hb dX6_result_41 rfl (lv_at hl 3 rfl) ?_
          refine lv_i2l hx hb dX6_result_42 rfl ?_
          refine lv_lmul hx hb dX6_result_43 ?_
          refine lv_goto (tgt := 49) hx hb dX6_result_44 (by decide) ?_
          refine lv_lstore (lv' := [(4, .long (x.toInt64 * y.toInt64)), (3, .int (x ^^^ y)), (0, .int (nI (q))), (1, .int (x)), (2, .int (y))]) hx hb dX6_result_49 hl (by decide) rfl (fun ls hl => ?_)
          refine lv_lload hx hb dX6_result_51 (lv_at hl 0 rfl) ?_
          refine lv_ldc2 hx hb hown w_73 dX6_result_53 ?_
          refine lv_land hx hb dX6_result_56 ?_
          refine lv_l2i hx hb dX6_result_57 rfl ?_
          exact fr_iret hx hb hr hlk hP hS (by first | (exfalso; omega) | (unfold mRes; simp only [c_1, c_2, c_3, c_5, ↓reduceIte, Bool.false_eq_true, bI_true, bI_false, Bool.true_and, Bool.and_true, Bool.and_false, Bool.false_and, Bool.not_true, Bool.not_false, Bool.or_true, Bool.true_or, Bool.or_false, Bool.false_or] <;> rfl)) rfl dX6_result_58
    · refine lv_iload_n hx hb dX6_result_15 rfl (lv_at hl 1 rfl) ?_
      refine lv_iload_n hx hb dX6_result_16 rfl (lv_at hl 2 rfl) ?_
      refine lv_isub hx hb dX6_result_17 ?_
      refine lv_goto (tgt := 33) hx hb dX6_result_18 (by decide) ?_
      refine lv_istore_n (lv' := [(3, .int (x - y)), (0, .int (nI (q))), (1, .int (x)), (2, .int (y))]) hx hb dX6_result_33 rfl hl (by decide) rfl (fun ls hl => ?_)
      refine lv_iload_n hx hb dX6_result_34 rfl (lv_at hl 1 rfl) ?_
      refine lv_iconst (v := nI 3) hx hb dX6_result_35 (by decide) ?_
      refine fr_icmp_ne (q) (3) (by omega) (by decide) (tgt := 47) hx hb dX6_result_36 (by decide) (fun c_6 => ?_) (fun c_6 => ?_)
      · refine lv_iload_n hx hb dX6_result_47 rfl (lv_at hl 0 rfl) ?_
        refine lv_i2l hx hb dX6_result_48 rfl ?_
        refine lv_lstore (lv' := [(4, .long ((x - y).toInt64)), (3, .int (x - y)), (0, .int (nI (q))), (1, .int (x)), (2, .int (y))]) hx hb dX6_result_49 hl (by decide) rfl (fun ls hl => ?_)
        refine lv_lload hx hb dX6_result_51 (lv_at hl 0 rfl) ?_
        refine lv_ldc2 hx hb hown w_73 dX6_result_53 ?_
        refine lv_land hx hb dX6_result_56 ?_
        refine lv_l2i hx hb dX6_result_57 rfl ?_
        exact fr_iret hx hb hr hlk hP hS (by first | (exfalso; omega) | (unfold mRes; simp only [c_1, c_2, c_6, ↓reduceIte, Bool.false_eq_true, bI_true, bI_false, Bool.true_and, Bool.and_true, Bool.and_false, Bool.false_and, Bool.not_true, Bool.not_false, Bool.or_true, Bool.true_or, Bool.or_false, Bool.false_or] <;> rfl)) rfl dX6_result_58
      · refine lv_iload_n hx hb dX6_result_39 rfl (lv_at hl 2 rfl) ?_
        refine lv_i2l hx hb dX6_result_40 rfl ?_
        refine lv_iload_n hx hb dX6_result_41 rfl (lv_at hl 3 rfl) ?_
        refine lv_i2l hx hb dX6_result_42 rfl ?_
        refine lv_lmul hx hb dX6_result_43 ?_
        refine lv_goto (tgt := 49) hx hb dX6_result_44 (by decide) ?_
        refine lv_lstore (lv' := [(4, .long (x.toInt64 * y.toInt64)), (3, .int (x - y)), (0, .int (nI (q))), (1, .int (x)), (2, .int (y))]) hx hb dX6_result_49 hl (by decide) rfl (fun ls hl => ?_)
        refine lv_lload hx hb dX6_result_51 (lv_at hl 0 rfl) ?_
        refine lv_ldc2 hx hb hown w_73 dX6_result_53 ?_
        refine lv_land hx hb dX6_result_56 ?_
        refine lv_l2i hx hb dX6_result_57 rfl ?_
        exact fr_iret hx hb hr hlk hP hS (by first | (exfalso; omega) | (unfold mRes; simp only [c_1, c_2, c_6, ↓reduceIte, Bool.false_eq_true, bI_true, bI_false, Bool.true_and, Bool.and_true, Bool.and_false, Bool.false_and, Bool.not_true, Bool.not_false, Bool.or_true, Bool.true_or, Bool.or_false, Bool.false_or] <;> rfl)) rfl dX6_result_58
  · refine lv_iload_n hx hb dX6_result_4 rfl (lv_at hl 1 rfl) ?_
    refine lv_iload_n hx hb dX6_result_5 rfl (lv_at hl 2 rfl) ?_
    refine lv_iadd hx hb dX6_result_6 ?_
    refine lv_goto (tgt := 33) hx hb dX6_result_7 (by decide) ?_
    refine lv_istore_n (lv' := [(3, .int (x + y)), (0, .int (nI (q))), (1, .int (x)), (2, .int (y))]) hx hb dX6_result_33 rfl hl (by decide) rfl (fun ls hl => ?_)
    refine lv_iload_n hx hb dX6_result_34 rfl (lv_at hl 1 rfl) ?_
    refine lv_iconst (v := nI 3) hx hb dX6_result_35 (by decide) ?_
    refine fr_icmp_ne (q) (3) (by omega) (by decide) (tgt := 47) hx hb dX6_result_36 (by decide) (fun c_7 => ?_) (fun c_7 => ?_)
    · refine lv_iload_n hx hb dX6_result_47 rfl (lv_at hl 0 rfl) ?_
      refine lv_i2l hx hb dX6_result_48 rfl ?_
      refine lv_lstore (lv' := [(4, .long ((x + y).toInt64)), (3, .int (x + y)), (0, .int (nI (q))), (1, .int (x)), (2, .int (y))]) hx hb dX6_result_49 hl (by decide) rfl (fun ls hl => ?_)
      refine lv_lload hx hb dX6_result_51 (lv_at hl 0 rfl) ?_
      refine lv_ldc2 hx hb hown w_73 dX6_result_53 ?_
      refine lv_land hx hb dX6_result_56 ?_
      refine lv_l2i hx hb dX6_result_57 rfl ?_
      exact fr_iret hx hb hr hlk hP hS (by first | (exfalso; omega) | (unfold mRes; simp only [c_1, c_7, ↓reduceIte, Bool.false_eq_true, bI_true, bI_false, Bool.true_and, Bool.and_true, Bool.and_false, Bool.false_and, Bool.not_true, Bool.not_false, Bool.or_true, Bool.true_or, Bool.or_false, Bool.false_or] <;> rfl)) rfl dX6_result_58
    · refine lv_iload_n hx hb dX6_result_39 rfl (lv_at hl 2 rfl) ?_
      refine lv_i2l hx hb dX6_result_40 rfl ?_
      refine lv_iload_n hx hb dX6_result_41 rfl (lv_at hl 3 rfl) ?_
      refine lv_i2l hx hb dX6_result_42 rfl ?_
      refine lv_lmul hx hb dX6_result_43 ?_
      refine lv_goto (tgt := 49) hx hb dX6_result_44 (by decide) ?_
      refine lv_lstore (lv' := [(4, .long (x.toInt64 * y.toInt64)), (3, .int (x + y)), (0, .int (nI (q))), (1, .int (x)), (2, .int (y))]) hx hb dX6_result_49 hl (by decide) rfl (fun ls hl => ?_)
      refine lv_lload hx hb dX6_result_51 (lv_at hl 0 rfl) ?_
      refine lv_ldc2 hx hb hown w_73 dX6_result_53 ?_
      refine lv_land hx hb dX6_result_56 ?_
      refine lv_l2i hx hb dX6_result_57 rfl ?_
      exact fr_iret hx hb hr hlk hP hS (by first | (exfalso; omega) | (unfold mRes; simp only [c_1, c_7, ↓reduceIte, Bool.false_eq_true, bI_true, bI_false, Bool.true_and, Bool.and_true, Bool.and_false, Bool.false_and, Bool.not_true, Bool.not_false, Bool.or_true, Bool.true_or, Bool.or_false, Bool.false_or] <;> rfl)) rfl dX6_result_58
