
set_option maxHeartbeats 8000000 in
set_option maxRecDepth 100000 in
theorem kX6_carries (l : Launch) (D : va_G) (T : Nat → ClassId) (Z : ZZ) (md : Nat → Nat) (n : Nat) (len : Nat) (p : Nat) (le : Nat) (σ : MS) (k : Nat) (x : Int32) (hk : k < 240) : CtI l D T Z yX6_carries wsX6_carries ({ frames := 0, cells := 0, slots := 0, locals := 0 }) [[((md 0), .inr (6, [.ref (md 1), .int (nI (n)), .ref (md 2), .int (nI (len)), .int (nI (p)), .int (nI (le)), .ref (md 3), .ref (md 4)]))], [((md 1), .inl (T 0, 1872, .inl (σ)))]] [.ref (md 0), .int (nI (k)), .int (x)] (bI (crM σ x k)) [[((md 0), .inr (6, [.ref (md 1), .int (nI (n)), .ref (md 2), .int (nI (len)), .int (nI (p)), .int (nI (le)), .ref (md 3), .ref (md 4)]))], [((md 1), .inl (T 0, 1872, .inl (σ)))]] := by
  refine CtI.of (cc := cX6_carries) (maxL := 3) (ret := (some .boolean)) (plainFor_of_name (by decide)) rfl rfl ?_
  intro pP eE s mM bW mE cC A hE hK hN hM hP hD hA
  obtain ⟨hx, hb, hr, hts, hown, hml, hlk⟩ := hE
  have hown : s.vm.findClass RX6 = some mM.cls := hown
  have hS : va_S A s.heap s.heap [] := va_S.rf
  have hl := lv_entry ([.ref (md 0), .int (nI (k)), .int (x)]) (n := 3) (Nat.le_of_ble_eq_true rfl)
  rw [lg_entry_eq]
  generalize (lg_sl ([.ref (md 0), .int (nI (k)), .int (x)]) ++ List.replicate (3 - (lg_sl ([.ref (md 0), .int (nI (k)), .int (x)])).length) Slot.unset).toArray = ls at hl ⊢
  have hl : lv_has ls 3 [(0, .ref (md 0)), (1, .int (nI (k))), (2, .int (x))] := hl
  have w_7 := hts (.fieldLink RX6 7 "PoisonedMemoryModel" "s" "[I") (by decide +kernel)
  have hinX6 : ∀ w ∈ wsX60, w ∈ wsX6_carries := by decide +kernel
  refine lv_aload_n hx hb dX6_carries_0 rfl (lv_at hl 0 rfl) ?_
  refine va_get (D := D) (ci := 6) (v := .ref (md 1)) (C := RX6) (T := TX6) (N := 8) hx hb hts hinX6 hown hK (hP.at 0 rfl) 0 rfl rfl 0 (by decide) w_7 (fun _ h9 => h9) rfl dX6_carries_1 ?_
  refine lv_iload_n hx hb dX6_carries_4 rfl (lv_at hl 1 rfl) ?_
  refine lv_iconst (v := nI 1) hx hb dX6_carries_5 (by decide) ?_
  refine fr_iadd (k) (1) hx hb dX6_carries_6 ?_
  refine fr_iald hx hb hK hP 1 ((k + 1)) rfl (by omega) (by omega) dX6_carries_7 ?_
  refine lv_iload_n hx hb dX6_carries_8 rfl (lv_at hl 2 rfl) ?_
  refine lv_icmp_ne (tgt := 29) hx hb dX6_carries_9 (by decide) (fun c_1 => ?_) (fun c_1 => ?_)
  · refine lv_iconst (v := nI 0) hx hb dX6_carries_29 (by decide) ?_
    exact fr_zret hx hb hr hlk hP hS (by first | with_reducible rfl | (simp only [crM, bI, decide_true, decide_false, c_1, ↓reduceIte, Bool.false_eq_true, bI_true, bI_false, Bool.true_and, Bool.and_true, Bool.and_false, Bool.false_and, Bool.not_true, Bool.not_false, Bool.or_true, Bool.true_or, Bool.or_false, Bool.false_or] <;> with_reducible rfl) | (simp only [crM, bI, decide_true, decide_false, c_1, ↓reduceIte, Bool.false_eq_true, bI_true, bI_false, Bool.true_and, Bool.and_true, Bool.and_false, Bool.false_and, Bool.not_true, Bool.not_false, Bool.or_true, Bool.true_or, Bool.or_false, Bool.false_or] <;> rfl) | (simp [crM, bI, decide_true, decide_false, c_1, bI]; done)) rfl rfl dX6_carries_30
  · refine lv_iload_n hx hb dX6_carries_12 rfl (lv_at hl 1 rfl) ?_
    refine lv_bipush (v := nI 96) hx hb dX6_carries_13 (by decide) ?_
    refine fr_icmp_lt (k) (96) (by omega) (by decide) (tgt := 25) hx hb dX6_carries_15 (by decide) (fun c_2 => ?_) (fun c_2 => ?_)
    · have c_2' := Nat.not_le.mpr c_2
      refine lv_iconst (v := nI 1) hx hb dX6_carries_25 (by decide) ?_
      refine lv_goto (tgt := 30) hx hb dX6_carries_26 (by decide) ?_
      exact fr_zret hx hb hr hlk hP hS (by first | with_reducible rfl | (simp only [crM, bI, decide_true, decide_false, c_1, c_2, c_2', ↓reduceIte, Bool.false_eq_true, bI_true, bI_false, Bool.true_and, Bool.and_true, Bool.and_false, Bool.false_and, Bool.not_true, Bool.not_false, Bool.or_true, Bool.true_or, Bool.or_false, Bool.false_or] <;> with_reducible rfl) | (simp only [crM, bI, decide_true, decide_false, c_1, c_2, c_2', ↓reduceIte, Bool.false_eq_true, bI_true, bI_false, Bool.true_and, Bool.and_true, Bool.and_false, Bool.false_and, Bool.not_true, Bool.not_false, Bool.or_true, Bool.true_or, Bool.or_false, Bool.false_or] <;> rfl) | (simp [crM, bI, decide_true, decide_false, c_1, c_2, c_2', bI]; done)) rfl rfl dX6_carries_30
    · have c_2' := Nat.not_lt.mpr c_2
      refine lv_iload_n hx hb dX6_carries_18 rfl (lv_at hl 1 rfl) ?_
      refine lv_sipush (v := nI 192) hx hb dX6_carries_19 (by decide) ?_
      refine fr_icmp_lt (k) (192) (by omega) (by decide) (tgt := 29) hx hb dX6_carries_22 (by decide) (fun c_3 => ?_) (fun c_3 => ?_)
      · have c_3' := Nat.not_le.mpr c_3
        refine lv_iconst (v := nI 0) hx hb dX6_carries_29 (by decide) ?_
        exact fr_zret hx hb hr hlk hP hS (by first | with_reducible rfl | (simp only [crM, bI, decide_true, decide_false, c_1, c_2, c_2', c_3, c_3', ↓reduceIte, Bool.false_eq_true, bI_true, bI_false, Bool.true_and, Bool.and_true, Bool.and_false, Bool.false_and, Bool.not_true, Bool.not_false, Bool.or_true, Bool.true_or, Bool.or_false, Bool.false_or] <;> with_reducible rfl) | (simp only [crM, bI, decide_true, decide_false, c_1, c_2, c_2', c_3, c_3', ↓reduceIte, Bool.false_eq_true, bI_true, bI_false, Bool.true_and, Bool.and_true, Bool.and_false, Bool.false_and, Bool.not_true, Bool.not_false, Bool.or_true, Bool.true_or, Bool.or_false, Bool.false_or] <;> rfl) | (simp [crM, bI, decide_true, decide_false, c_1, c_2, c_2', c_3, c_3', bI]; done)) rfl rfl dX6_carries_30
      · have c_3' := Nat.not_lt.mpr c_3
        refine lv_iconst (v := nI 1) hx hb dX6_carries_25 (by decide) ?_
        refine lv_goto (tgt := 30) hx hb dX6_carries_26 (by decide) ?_
        exact fr_zret hx hb hr hlk hP hS (by first | with_reducible rfl | (simp only [crM, bI, decide_true, decide_false, c_1, c_2, c_2', c_3, c_3', ↓reduceIte, Bool.false_eq_true, bI_true, bI_false, Bool.true_and, Bool.and_true, Bool.and_false, Bool.false_and, Bool.not_true, Bool.not_false, Bool.or_true, Bool.true_or, Bool.or_false, Bool.false_or] <;> with_reducible rfl) | (simp only [crM, bI, decide_true, decide_false, c_1, c_2, c_2', c_3, c_3', ↓reduceIte, Bool.false_eq_true, bI_true, bI_false, Bool.true_and, Bool.and_true, Bool.and_false, Bool.false_and, Bool.not_true, Bool.not_false, Bool.or_true, Bool.true_or, Bool.or_false, Bool.false_or] <;> rfl) | (simp [crM, bI, decide_true, decide_false, c_1, c_2, c_2', c_3, c_3', bI]; done)) rfl rfl dX6_carries_30
