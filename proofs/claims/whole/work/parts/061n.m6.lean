
set_option maxHeartbeats 8000000 in
set_option maxRecDepth 100000 in
theorem kX6_stoppedTasks (l : Launch) (D : va_G) (T : Nat → ClassId) (Z : ZZ) (md : Nat → Nat) (n : Nat) (len : Nat) (p : Nat) (le : Nat) (σ : MS) (b : Nat) (hb9 : b ≤ 1560) : CtI l D T Z yX6_stoppedTasks wsX6_stoppedTasks ({ frames := 0, cells := 0, slots := 0, locals := 0 }) [[((md 0), .inr (6, [.ref (md 1), .int (nI (n)), .ref (md 2), .int (nI (len)), .int (nI (p)), .int (nI (le)), .ref (md 3), .ref (md 4)]))], [((md 1), .inl (T 0, 1872, .inl (σ)))]] [.ref (md 0), .int (nI (b))] (sumI (stT σ b) 4) [[((md 0), .inr (6, [.ref (md 1), .int (nI (n)), .ref (md 2), .int (nI (len)), .int (nI (p)), .int (nI (le)), .ref (md 3), .ref (md 4)]))], [((md 1), .inl (T 0, 1872, .inl (σ)))]] := by
  refine CtI.of (cc := cX6_stoppedTasks) (maxL := 4) (ret := (some .int)) (plainFor_of_name (by decide)) rfl rfl ?_
  intro pP eE s mM bW mE cC A hE hK hN hM hP hD hA
  obtain ⟨hx, hb, hr, hts, hown, hml, hlk⟩ := hE
  have hown : s.vm.findClass RX6 = some mM.cls := hown
  have hS : va_S A s.heap s.heap [] := va_S.rf
  have hl := lv_entry ([.ref (md 0), .int (nI (b))]) (n := 4) (Nat.le_of_ble_eq_true rfl)
  rw [lg_entry_eq]
  generalize (lg_sl ([.ref (md 0), .int (nI (b))]) ++ List.replicate (4 - (lg_sl ([.ref (md 0), .int (nI (b))])).length) Slot.unset).toArray = ls at hl ⊢
  have hl : lv_has ls 4 [(0, .ref (md 0)), (1, .int (nI (b)))] := hl
  have w_7 := hts (.fieldLink RX6 7 "PoisonedMemoryModel" "s" "[I") (by decide +kernel)
  have hinX6 : ∀ w ∈ wsX60, w ∈ wsX6_stoppedTasks := by decide +kernel
  refine lv_iconst (v := nI 0) hx hb dX6_stoppedTasks_0 (by decide) ?_
  refine lv_istore_n (lv' := [(2, .int (nI 0)), (0, .ref (md 0)), (1, .int (nI (b)))]) hx hb dX6_stoppedTasks_1 rfl hl (by decide) rfl (fun ls hl => ?_)
  refine lv_iconst (v := nI 0) hx hb dX6_stoppedTasks_2 (by decide) ?_
  refine lv_istore_n (lv' := [(3, .int (nI 0)), (2, .int (nI 0)), (0, .ref (md 0)), (1, .int (nI (b)))]) hx hb dX6_stoppedTasks_3 rfl hl (by decide) rfl (fun ls hl => ?_)
  have loop4 : ∀ (n9 k9 : Nat), k9 ≤ 4 → 4 < k9 + n9 → ∀ (H : Heap) (locs : List Loc), frP D [[((md 0), .inr (6, [.ref (md 1), .int (nI (n)), .ref (md 2), .int (nI (len)), .int (nI (p)), .int (nI (le)), .ref (md 3), .ref (md 4)]))], [((md 1), .inl (T 0, 1872, .inl (σ)))]] H → va_D A ([[((md 0), .inr (6, [.ref (md 1), .int (nI (n)), .ref (md 2), .int (nI (len)), .int (nI (p)), .int (nI (le)), .ref (md 3), .ref (md 4)]))], [((md 1), .inl (T 0, 1872, .inl (σ)))]] : List va_W).flatten → va_S A s.heap H locs → ∀ (ls : Array Slot), lv_has ls 4 [(3, .int (nI (k9))), (2, .int (sumI (stT σ b) k9)), (0, .ref (md 0)), (1, .int (nI (b)))] → W pP l eE ({ frames := 0, cells := 0, slots := 0, locals := 0 }) s mM ([.ref (md 0), .int (nI (b))] : List Value).toArray bW mE cC H locs 0 0 (MQ bW (QcI D [[((md 0), .inr (6, [.ref (md 1), .int (nI (n)), .ref (md 2), .int (nI (len)), .int (nI (p)), .int (nI (le)), .ref (md 3), .ref (md 4)]))], [((md 1), .inl (T 0, 1872, .inl (σ)))]] (sumI (stT σ b) 4) A) ([.ref (md 0), .int (nI (b))] : List Value).toArray s 0 0 A) (F0 mM 4 ls []) := by
    intro n9
    induction n9 with
    | zero => intro k9 h1 h2; exact absurd h2 (by omega)
    | succ n9 ih =>
      intro k9 hk1 hk2 H locs hP hD hS ls hl
      refine lv_iload_n hx hb dX6_stoppedTasks_4 rfl (lv_at hl 0 rfl) ?_
      refine lv_iconst (v := nI 4) hx hb dX6_stoppedTasks_5 (by decide) ?_
      refine fr_icmp_ge (k9) (4) (by omega) (by decide) (tgt := 30) hx hb dX6_stoppedTasks_6 (by decide) (fun c_1 => ?_) (fun c_1 => ?_)
      · have c_1' := Nat.not_lt.mpr c_1
        obtain rfl : k9 = 4 := by omega
        refine lv_iload_n hx hb dX6_stoppedTasks_30 rfl (lv_at hl 1 rfl) ?_
        exact fr_iret hx hb hr hlk hP hS rfl rfl dX6_stoppedTasks_31
      · have c_1' := Nat.not_le.mpr c_1
        refine lv_iload_n hx hb dX6_stoppedTasks_9 rfl (lv_at hl 1 rfl) ?_
        refine lv_aload_n hx hb dX6_stoppedTasks_10 rfl (lv_at hl 2 rfl) ?_
        refine va_get (D := D) (ci := 6) (v := .ref (md 1)) (C := RX6) (T := TX6) (N := 8) hx hb hts hinX6 hown hK (hP.at 0 rfl) 0 rfl rfl 0 (by decide) w_7 (fun _ h9 => h9) rfl dX6_stoppedTasks_11 ?_
        refine lv_iload_n hx hb dX6_stoppedTasks_14 rfl (lv_at hl 3 rfl) ?_
        refine lv_sipush (v := nI 252) hx hb dX6_stoppedTasks_15 (by decide) ?_
        refine fr_iadd (b) (252) hx hb dX6_stoppedTasks_18 ?_
        refine lv_iload_n hx hb dX6_stoppedTasks_19 rfl (lv_at hl 0 rfl) ?_
        refine fr_iadd ((b + 252)) (k9) hx hb dX6_stoppedTasks_20 ?_
        refine fr_iald hx hb hK hP 1 (((b + 252) + k9)) rfl (by omega) (by omega) dX6_stoppedTasks_21 ?_
        refine lv_iadd hx hb dX6_stoppedTasks_22 ?_
        refine lv_istore_n (lv' := [(2, .int ((sumI (stT σ b) k9) + (σ ((b + 252) + k9)))), (3, .int (nI (k9))), (0, .ref (md 0)), (1, .int (nI (b)))]) hx hb dX6_stoppedTasks_23 rfl hl (by decide) rfl (fun ls hl => ?_)
        refine fr_iinc (k9) ((k9 + 1)) (nI_inc _) (lv' := [(3, .int (nI ((k9 + 1)))), (2, .int ((sumI (stT σ b) k9) + (σ ((b + 252) + k9)))), (0, .ref (md 0)), (1, .int (nI (b)))]) (k := 1) hx hb dX6_stoppedTasks_24 hl rfl (by decide) rfl (fun ls hl => ?_)
        refine lv_goto (tgt := 4) hx hb dX6_stoppedTasks_27 (by decide) ?_
        have q_2 : ((sumI (stT σ b) k9) + (σ ((b + 252) + k9)) : Int32) = sumI (stT σ b) (k9 + 1) := (by first | contradiction | with_reducible rfl | (simp only [sumI, stT, c_1, c_1', ↓reduceIte, Bool.false_eq_true, bI_true, bI_false, Bool.true_and, Bool.and_true, Bool.and_false, Bool.false_and, Bool.not_true, Bool.not_false, Bool.or_true, Bool.true_or, Bool.or_false, Bool.false_or] <;> with_reducible rfl) | (simp only [sumI, stT, c_1, c_1', ↓reduceIte, Bool.false_eq_true, bI_true, bI_false, Bool.true_and, Bool.and_true, Bool.and_false, Bool.false_and, Bool.not_true, Bool.not_false, Bool.or_true, Bool.true_or, Bool.or_false, Bool.false_or] <;> rfl) | rfl | (simp [sumI, stT, c_1, c_1']; done))
        rw [q_2] at hl
        exact ih  ((k9 + 1)) (by omega) (by omega) H locs hP hD hS ls (lv_sub hl [0, 1, 2, 3] rfl)
  have q_3 : (nI 0 : Int32) = sumI (stT σ b) 0 := (by first | contradiction | with_reducible rfl | (simp only [sumI, stT, ↓reduceIte, Bool.false_eq_true, bI_true, bI_false, Bool.true_and, Bool.and_true, Bool.and_false, Bool.false_and, Bool.not_true, Bool.not_false, Bool.or_true, Bool.true_or, Bool.or_false, Bool.false_or] <;> with_reducible rfl) | (simp only [sumI, stT, ↓reduceIte, Bool.false_eq_true, bI_true, bI_false, Bool.true_and, Bool.and_true, Bool.and_false, Bool.false_and, Bool.not_true, Bool.not_false, Bool.or_true, Bool.true_or, Bool.or_false, Bool.false_or] <;> rfl) | rfl | (simp [sumI, stT]; done))
  rw [q_3] at hl
  exact loop4 (4 + 1) (0) (by omega) (by omega) _ _ hP hD hS ls (lv_sub hl [0, 1, 2, 3] rfl)

set_option maxHeartbeats 8000000 in
set_option maxRecDepth 100000 in
theorem kX6_undo (l : Launch) (D : va_G) (T : Nat → ClassId) (Z : ZZ) (md : Nat → Nat) (n : Nat) (len : Nat) (p : Nat) (le : Nat) (σ : MS) (hn4 : n ≤ 4) : CtI l D T Z yX6_undo wsX6_undo ({ frames := 1, cells := 0, slots := 0, locals := 23 }) [[((md 0), .inr (6, [.ref (md 1), .int (nI (n)), .ref (md 2), .int (nI (len)), .int (nI (p)), .int (nI (le)), .ref (md 3), .ref (md 4)]))], [((md 1), .inl (T 0, 1872, .inl (σ)))]] [.ref (md 0)] (if n = 0 then -6 else nI (n - 1)) [[((md 0), .inr (6, [.ref (md 1), .int (nI (n - 1)), .ref (md 2), .int (nI (len)), .int (nI (p)), .int (nI (le)), .ref (md 3), .ref (md 4)]))], [((md 1), .inl (T 0, 1872, .inl (if n = 0 then σ else mCp σ n 0)))]] := by
  refine CtI.of (cc := cX6_undo) (maxL := 1) (ret := (some .int)) (plainFor_of_name (by decide)) rfl rfl ?_
  intro pP eE s mM bW mE cC A hE hK hN hM hP hD hA
  obtain ⟨hx, hb, hr, hts, hown, hml, hlk⟩ := hE
  have hown : s.vm.findClass RX6 = some mM.cls := hown
  have hS : va_S A s.heap s.heap [] := va_S.rf
  have hl := lv_entry ([.ref (md 0)]) (n := 1) (Nat.le_of_ble_eq_true rfl)
  rw [lg_entry_eq]
  generalize (lg_sl ([.ref (md 0)]) ++ List.replicate (1 - (lg_sl ([.ref (md 0)])).length) Slot.unset).toArray = ls at hl ⊢
  have hl : lv_has ls 1 [(0, .ref (md 0))] := hl
  have w_89 := hts (.fieldLink RX6 89 "PoisonedMemoryModel" "states" "I") (by decide +kernel)
  have hinX6 : ∀ w ∈ wsX60, w ∈ wsX6_undo := by decide +kernel
  refine lv_aload_n hx hb dX6_undo_0 rfl (lv_at hl 0 rfl) ?_
  refine va_get (D := D) (ci := 6) (v := .int (nI (n))) (C := RX6) (T := TX6) (N := 8) hx hb hts hinX6 hown hK (hP.at 0 rfl) 0 rfl rfl 1 (by decide) w_89 (fun _ h9 => h9) rfl dX6_undo_1 ?_
  refine fr_if_ne (n) (by omega) (tgt := 10) hx hb dX6_undo_4 (by decide) (fun c_1 => ?_) (fun c_1 => ?_)
  · refine lv_aload_n hx hb dX6_undo_10 rfl (lv_at hl 0 rfl) ?_
    refine lv_aload_n hx hb dX6_undo_11 rfl (lv_at hl 0 rfl) ?_
    refine va_get (D := D) (ci := 6) (v := .int (nI (n))) (C := RX6) (T := TX6) (N := 8) hx hb hts hinX6 hown hK (hP.at 0 rfl) 0 rfl rfl 1 (by decide) w_89 (fun _ h9 => h9) rfl dX6_undo_12 ?_
    refine lv_iconst (v := nI 0) hx hb dX6_undo_15 (by decide) ?_
    refine fr_Vv (As := [.int (nI (n)), .int (nI 0)]) (rest := []) (fs' := [[((md 0), .inr (6, [.ref (md 1), .int (nI (n)), .ref (md 2), .int (nI (len)), .int (nI (p)), .int (nI (le)), .ref (md 3), .ref (md 4)]))], [((md 1), .inl (T 0, 1872, .inl (mCp σ n 0)))]]) (ci := 6) (q0 := (RX6, TX6, 8)) (i0 := 0) ⟨hx, hb, hml, hown, hts⟩ (kX6_copies l D T Z md n len p le σ n 0 (by omega) (by decide)) (cwV 2 hts gX6_undo_X6_copies rfl rfl rfl (by decide +kernel) ⟨Nat.le_of_ble_eq_true rfl, Nat.le_of_ble_eq_true rfl⟩) hK hN hM hP hD hS hA [0, 1] rfl rfl rfl rfl rfl rfl hl.1 rfl (Nat.le_of_ble_eq_true rfl) dX6_undo_16 ⟨Nat.zero_le _, Nat.zero_le _⟩ (fun H locs hP hD hS => ?_)
    refine lv_aload_n hx hb dX6_undo_19 rfl (lv_at hl 0 rfl) ?_
    refine lv_dup hx hb dX6_undo_20 rfl ?_
    refine va_get (D := D) (ci := 6) (v := .int (nI (n))) (C := RX6) (T := TX6) (N := 8) hx hb hts hinX6 hown hK (hP.at 0 rfl) 0 rfl rfl 1 (by decide) w_89 (fun _ h9 => h9) rfl dX6_undo_21 ?_
    refine lv_iconst (v := nI 1) hx hb dX6_undo_24 (by decide) ?_
    refine fr_isub (n) (1) (by omega) hx hb dX6_undo_25 ?_
    refine fr_put (T := T) (C := RX6) (TT := TX6) (N := 8) (ci := 6) (v := .int (nI ((n - 1)))) (fs' := [[((md 0), .inr (6, [.ref (md 1), .int (nI ((n - 1))), .ref (md 2), .int (nI (len)), .int (nI (p)), .int (nI (le)), .ref (md 3), .ref (md 4)]))], [((md 1), .inl (T 0, 1872, .inl (mCp σ n 0)))]]) (ty := .int) hx hb hts hinX6 tyX6 tyX6_ok nmX6 hown hK hP hD hS 0 rfl rfl 1 (by decide) rfl w_89 rfl rfl (by decide +kernel) rfl rfl (Nat.le_of_ble_eq_true rfl) dX6_undo_26 (fun H locs hP hD hS => ?_)
    refine lv_aload_n hx hb dX6_undo_29 rfl (lv_at hl 0 rfl) ?_
    refine va_get (D := D) (ci := 6) (v := .int (nI ((n - 1)))) (C := RX6) (T := TX6) (N := 8) hx hb hts hinX6 hown hK (hP.at 0 rfl) 0 rfl rfl 1 (by decide) w_89 (fun _ h9 => h9) rfl dX6_undo_30 ?_
    exact fr_iret hx hb hr hlk hP hS (by first | rfl | (simp only [c_1, ↓reduceIte, Bool.false_eq_true, bI_true, bI_false, Bool.true_and, Bool.and_true, Bool.and_false, Bool.false_and, Bool.not_true, Bool.not_false, Bool.or_true, Bool.true_or, Bool.or_false, Bool.false_or] <;> rfl) | (simp [c_1, bI]; done)) (by simp only [c_1, ↓reduceIte, Bool.false_eq_true, bI_true, bI_false, Bool.true_and, Bool.and_true, Bool.and_false, Bool.false_and, Bool.not_true, Bool.not_false, Bool.or_true, Bool.true_or, Bool.or_false, Bool.false_or] <;> rfl) dX6_undo_33
  · refine lv_bipush (v := (-6)) hx hb dX6_undo_7 (by decide) ?_
    exact fr_iret hx hb hr hlk hP hS (by first | rfl | (simp only [c_1, ↓reduceIte, Bool.false_eq_true, bI_true, bI_false, Bool.true_and, Bool.and_true, Bool.and_false, Bool.false_and, Bool.not_true, Bool.not_false, Bool.or_true, Bool.true_or, Bool.or_false, Bool.false_or] <;> rfl) | (simp [c_1, bI]; done)) (by simp only [c_1, ↓reduceIte, Bool.false_eq_true, bI_true, bI_false, Bool.true_and, Bool.and_true, Bool.and_false, Bool.false_and, Bool.not_true, Bool.not_false, Bool.or_true, Bool.true_or, Bool.or_false, Bool.false_or] <;> rfl) dX6_undo_9
