
set_option maxHeartbeats 8000000 in
set_option maxRecDepth 100000 in
theorem kX6_atRisk (l : Launch) (D : va_G) (T : Nat → ClassId) (Z : ZZ) (md : Nat → Nat) (n : Nat) (len : Nat) (p : Nat) (le : Nat) (σ : MS)  : CtI l D T Z yX6_atRisk wsX6_atRisk ({ frames := 1, cells := 0, slots := 0, locals := 22 }) [[((md 0), .inr (6, [.ref (md 1), .int (nI (n)), .ref (md 2), .int (nI (len)), .int (nI (p)), .int (nI (le)), .ref (md 3), .ref (md 4)]))], [((md 1), .inl (T 0, 1872, .inl (σ)))]] [.ref (md 0)] (arM σ 16) [[((md 0), .inr (6, [.ref (md 1), .int (nI (n)), .ref (md 2), .int (nI (len)), .int (nI (p)), .int (nI (le)), .ref (md 3), .ref (md 4)]))], [((md 1), .inl (T 0, 1872, .inl (σ)))]] := by
  have hrr : ∀ t r : Nat, rgt 0 t r = 0 + 192 + 3 * (4 * t + r) := fun _ _ => rfl
  refine CtI.of (cc := cX6_atRisk) (maxL := 4) (ret := (some .int)) (plainFor_of_name (by decide)) rfl rfl ?_
  intro pP eE s mM bW mE cC A hE hK hN hM hP hD hA
  obtain ⟨hx, hb, hr, hts, hown, hml, hlk⟩ := hE
  have hown : s.vm.findClass RX6 = some mM.cls := hown
  have hS : va_S A s.heap s.heap [] := va_S.rf
  have hl := lv_entry ([.ref (md 0)]) (n := 4) (Nat.le_of_ble_eq_true rfl)
  rw [lg_entry_eq]
  generalize (lg_sl ([.ref (md 0)]) ++ List.replicate (4 - (lg_sl ([.ref (md 0)])).length) Slot.unset).toArray = ls at hl ⊢
  have hl : lv_has ls 4 [(0, .ref (md 0))] := hl
  have w_7 := hts (.fieldLink RX6 7 "PoisonedMemoryModel" "s" "[I") (by decide +kernel)
  have hinX6 : ∀ w ∈ wsX60, w ∈ wsX6_atRisk := by decide +kernel
  refine lv_iconst (v := nI 0) hx hb dX6_atRisk_0 (by decide) ?_
  refine lv_istore_n (lv' := [(1, .int (nI 0)), (0, .ref (md 0))]) hx hb dX6_atRisk_1 rfl hl (by decide) rfl (fun ls hl => ?_)
  refine lv_iconst (v := nI 0) hx hb dX6_atRisk_2 (by decide) ?_
  refine lv_istore_n (lv' := [(2, .int (nI 0)), (1, .int (nI 0)), (0, .ref (md 0))]) hx hb dX6_atRisk_3 rfl hl (by decide) rfl (fun ls hl => ?_)
  have loop4 : ∀ (n9 k9 : Nat), k9 ≤ 16 → 16 < k9 + n9 → ∀ (H : Heap) (locs : List Loc), frP D [[((md 0), .inr (6, [.ref (md 1), .int (nI (n)), .ref (md 2), .int (nI (len)), .int (nI (p)), .int (nI (le)), .ref (md 3), .ref (md 4)]))], [((md 1), .inl (T 0, 1872, .inl (σ)))]] H → va_D A ([[((md 0), .inr (6, [.ref (md 1), .int (nI (n)), .ref (md 2), .int (nI (len)), .int (nI (p)), .int (nI (le)), .ref (md 3), .ref (md 4)]))], [((md 1), .inl (T 0, 1872, .inl (σ)))]] : List va_W).flatten → va_S A s.heap H locs → ∀ (ls : Array Slot), lv_has ls 4 [(2, .int (nI (k9))), (1, .int (arM σ k9)), (0, .ref (md 0))] → W pP l eE ({ frames := 1, cells := 0, slots := 0, locals := 22 }) s mM ([.ref (md 0)] : List Value).toArray bW mE cC H locs 0 0 (MQ bW (QcI D [[((md 0), .inr (6, [.ref (md 1), .int (nI (n)), .ref (md 2), .int (nI (len)), .int (nI (p)), .int (nI (le)), .ref (md 3), .ref (md 4)]))], [((md 1), .inl (T 0, 1872, .inl (σ)))]] (arM σ 16) A) ([.ref (md 0)] : List Value).toArray s 0 0 A) (F0 mM 4 ls []) := by
    intro n9
    induction n9 with
    | zero => intro k9 h1 h2; exact absurd h2 (by omega)
    | succ n9 ih =>
      intro k9 hk1 hk2 H locs hP hD hS ls hl
      have hr9 := hrr (k9 / 4) (k9 % 4)
      refine lv_iload_n hx hb dX6_atRisk_4 rfl (lv_at hl 0 rfl) ?_
      refine lv_bipush (v := nI 16) hx hb dX6_atRisk_5 (by decide) ?_
      refine fr_icmp_ge (k9) (16) (by omega) (by decide) (tgt := 70) hx hb dX6_atRisk_7 (by decide) (fun c_1 => ?_) (fun c_1 => ?_)
      · have c_1' := Nat.not_lt.mpr c_1
        obtain rfl : k9 = 16 := by omega
        refine lv_iload_n hx hb dX6_atRisk_70 rfl (lv_at hl 1 rfl) ?_
        exact fr_iret hx hb hr hlk hP hS rfl rfl dX6_atRisk_71
      · have c_1' := Nat.not_le.mpr c_1
        refine lv_aload_n hx hb dX6_atRisk_10 rfl (lv_at hl 2 rfl) ?_
        refine va_get (D := D) (ci := 6) (v := .ref (md 1)) (C := RX6) (T := TX6) (N := 8) hx hb hts hinX6 hown hK (hP.at 0 rfl) 0 rfl rfl 0 (by decide) w_7 (fun _ h9 => h9) rfl dX6_atRisk_11 ?_
        refine lv_sipush (v := nI 252) hx hb dX6_atRisk_14 (by decide) ?_
        refine lv_iload_n hx hb dX6_atRisk_17 rfl (lv_at hl 0 rfl) ?_
        refine lv_iconst (v := nI 4) hx hb dX6_atRisk_18 (by decide) ?_
        refine fr_idiv (k9) (4) (by omega) (by omega) (by omega) hx hb dX6_atRisk_19 ?_
        refine fr_iadd (252) ((k9 / 4)) hx hb dX6_atRisk_20 ?_
        refine fr_iald hx hb hK hP 1 ((252 + (k9 / 4))) rfl (by omega) (by omega) dX6_atRisk_21 ?_
        refine lv_if_ne (tgt := 46) hx hb dX6_atRisk_22 (by decide) (fun c_2 => ?_) (fun c_2 => ?_)
        · refine lv_iconst (v := nI 0) hx hb dX6_atRisk_46 (by decide) ?_
          refine lv_istore_n (lv' := [(3, .int (nI 0)), (2, .int (nI (k9))), (1, .int (arM σ k9)), (0, .ref (md 0))]) hx hb dX6_atRisk_47 rfl hl (by decide) rfl (fun ls hl => ?_)
          refine lv_iload_n hx hb dX6_atRisk_48 rfl (lv_at hl 2 rfl) ?_
          refine lv_iload_n hx hb dX6_atRisk_49 rfl (lv_at hl 0 rfl) ?_
          refine lv_if_eq (tgt := 61) hx hb dX6_atRisk_50 (by decide) (fun _ => ?_) (fun z => absurd (by decide) z)
          refine lv_iconst (v := nI 0) hx hb dX6_atRisk_61 (by decide) ?_
          refine lv_ior hx hb dX6_atRisk_62 ?_
          refine lv_istore_n (lv' := [(1, .int ((arM σ k9) ||| (nI 0))), (3, .int (nI 0)), (2, .int (nI (k9))), (0, .ref (md 0))]) hx hb dX6_atRisk_63 rfl hl (by decide) rfl (fun ls hl => ?_)
          refine fr_iinc (k9) ((k9 + 1)) (nI_inc _) (lv' := [(2, .int (nI ((k9 + 1)))), (1, .int ((arM σ k9) ||| (nI 0))), (3, .int (nI 0)), (0, .ref (md 0))]) (k := 2) hx hb dX6_atRisk_64 hl rfl (by decide) rfl (fun ls hl => ?_)
          refine lv_goto (tgt := 4) hx hb dX6_atRisk_67 (by decide) ?_
          have q_3 : ((arM σ k9) ||| (nI 0) : Int32) = arM σ (k9 + 1) := (by first | contradiction | with_reducible rfl | (simp only [arM, arG, decide_true, decide_false, c_1, c_1', c_2, ↓reduceIte, Bool.false_eq_true, bI_true, bI_false, Bool.true_and, Bool.and_true, Bool.and_false, Bool.false_and, Bool.not_true, Bool.not_false, Bool.or_true, Bool.true_or, Bool.or_false, Bool.false_or] <;> with_reducible rfl) | (simp only [arM, arG, decide_true, decide_false, c_1, c_1', c_2, ↓reduceIte, Bool.false_eq_true, bI_true, bI_false, Bool.true_and, Bool.and_true, Bool.and_false, Bool.false_and, Bool.not_true, Bool.not_false, Bool.or_true, Bool.true_or, Bool.or_false, Bool.false_or] <;> rfl) | rfl | (simp [arM, arG, decide_true, decide_false, c_1, c_1', c_2]; done))
          rw [q_3] at hl
          exact ih  ((k9 + 1)) (by omega) (by omega) H locs hP hD hS ls (lv_sub hl [0, 1, 3] rfl)
        · refine lv_aload_n hx hb dX6_atRisk_25 rfl (lv_at hl 2 rfl) ?_
          refine lv_iconst (v := nI 0) hx hb dX6_atRisk_26 (by decide) ?_
          refine lv_iload_n hx hb dX6_atRisk_27 rfl (lv_at hl 0 rfl) ?_
          refine lv_iconst (v := nI 4) hx hb dX6_atRisk_28 (by decide) ?_
          refine fr_idiv (k9) (4) (by omega) (by omega) (by omega) hx hb dX6_atRisk_29 ?_
          refine lv_iload_n hx hb dX6_atRisk_30 rfl (lv_at hl 0 rfl) ?_
          refine lv_iconst (v := nI 4) hx hb dX6_atRisk_31 (by decide) ?_
          refine fr_irem (k9) (4) (by omega) (by omega) (by omega) hx hb dX6_atRisk_32 ?_
          refine fr_S0 (As := [.int (nI 0), .int (nI ((k9 / 4))), .int (nI ((k9 % 4)))]) (rest := [.ref (md 0)]) ⟨hx, hb, hml, hown, hts⟩ (kX6_registerAt l D T Z 0 (k9 / 4) (k9 % 4)) (va_cwS 3 hts gX6_atRisk_X6_registerAt rfl rfl rfl (by decide +kernel) ⟨Nat.le_of_ble_eq_true rfl, Nat.le_of_ble_eq_true rfl⟩) hK hN hM hP hD hS hA rfl hl.1 rfl (Nat.le_of_ble_eq_true rfl) dX6_atRisk_33 ⟨Nat.zero_le _, Nat.zero_le _⟩ (fun H locs hP hD hS => ?_)
          refine fr_Vi (As := [.int (nI (rgt 0 (k9 / 4) (k9 % 4)))]) (rest := []) (fs' := [[((md 0), .inr (6, [.ref (md 1), .int (nI (n)), .ref (md 2), .int (nI (len)), .int (nI (p)), .int (nI (le)), .ref (md 3), .ref (md 4)]))], [((md 1), .inl (T 0, 1872, .inl (σ)))]]) (ci := 6) (q0 := (RX6, TX6, 8)) (i0 := 0) ⟨hx, hb, hml, hown, hts⟩ (kX6_isPoisoned l D T Z md n len p le σ (rgt 0 (k9 / 4) (k9 % 4)) (by omega)) (cwV 1 hts gX6_atRisk_X6_isPoisoned rfl rfl rfl (by decide +kernel) ⟨Nat.le_of_ble_eq_true rfl, Nat.le_of_ble_eq_true rfl⟩) hK hN hM hP hD hS hA [0, 1] rfl rfl rfl rfl rfl rfl hl.1 rfl (Nat.le_of_ble_eq_true rfl) dX6_atRisk_36 ⟨Nat.zero_le _, Nat.zero_le _⟩ (fun H locs hP hD hS => ?_)
          refine fr_ifeq_b (tgt := 46) hx hb dX6_atRisk_39 (by decide) (fun c_4 => ?_) (fun c_4 => ?_)
          · refine lv_iconst (v := nI 0) hx hb dX6_atRisk_46 (by decide) ?_
            refine lv_istore_n (lv' := [(3, .int (nI 0)), (2, .int (nI (k9))), (1, .int (arM σ k9)), (0, .ref (md 0))]) hx hb dX6_atRisk_47 rfl hl (by decide) rfl (fun ls hl => ?_)
            refine lv_iload_n hx hb dX6_atRisk_48 rfl (lv_at hl 2 rfl) ?_
            refine lv_iload_n hx hb dX6_atRisk_49 rfl (lv_at hl 0 rfl) ?_
            refine lv_if_eq (tgt := 61) hx hb dX6_atRisk_50 (by decide) (fun _ => ?_) (fun z => absurd (by decide) z)
            refine lv_iconst (v := nI 0) hx hb dX6_atRisk_61 (by decide) ?_
            refine lv_ior hx hb dX6_atRisk_62 ?_
            refine lv_istore_n (lv' := [(1, .int ((arM σ k9) ||| (nI 0))), (3, .int (nI 0)), (2, .int (nI (k9))), (0, .ref (md 0))]) hx hb dX6_atRisk_63 rfl hl (by decide) rfl (fun ls hl => ?_)
            refine fr_iinc (k9) ((k9 + 1)) (nI_inc _) (lv' := [(2, .int (nI ((k9 + 1)))), (1, .int ((arM σ k9) ||| (nI 0))), (3, .int (nI 0)), (0, .ref (md 0))]) (k := 2) hx hb dX6_atRisk_64 hl rfl (by decide) rfl (fun ls hl => ?_)
            refine lv_goto (tgt := 4) hx hb dX6_atRisk_67 (by decide) ?_
            have q_5 : ((arM σ k9) ||| (nI 0) : Int32) = arM σ (k9 + 1) := (by first | contradiction | with_reducible rfl | (simp only [arM, arG, decide_true, decide_false, c_1, c_1', c_2, c_4, ↓reduceIte, Bool.false_eq_true, bI_true, bI_false, Bool.true_and, Bool.and_true, Bool.and_false, Bool.false_and, Bool.not_true, Bool.not_false, Bool.or_true, Bool.true_or, Bool.or_false, Bool.false_or] <;> with_reducible rfl) | (simp only [arM, arG, decide_true, decide_false, c_1, c_1', c_2, c_4, ↓reduceIte, Bool.false_eq_true, bI_true, bI_false, Bool.true_and, Bool.and_true, Bool.and_false, Bool.false_and, Bool.not_true, Bool.not_false, Bool.or_true, Bool.true_or, Bool.or_false, Bool.false_or] <;> rfl) | rfl | (simp [arM, arG, decide_true, decide_false, c_1, c_1', c_2, c_4]; done))
            rw [q_5] at hl
            exact ih  ((k9 + 1)) (by omega) (by omega) H locs hP hD hS ls (lv_sub hl [0, 1, 3] rfl)
          · refine lv_iconst (v := nI 1) hx hb dX6_atRisk_42 (by decide) ?_
            refine lv_goto (tgt := 47) hx hb dX6_atRisk_43 (by decide) ?_
            refine lv_istore_n (lv' := [(3, .int (nI 1)), (2, .int (nI (k9))), (1, .int (arM σ k9)), (0, .ref (md 0))]) hx hb dX6_atRisk_47 rfl hl (by decide) rfl (fun ls hl => ?_)
            refine lv_iload_n hx hb dX6_atRisk_48 rfl (lv_at hl 2 rfl) ?_
            refine lv_iload_n hx hb dX6_atRisk_49 rfl (lv_at hl 0 rfl) ?_
            refine lv_if_eq (tgt := 61) hx hb dX6_atRisk_50 (by decide) (fun z => absurd z (by decide)) (fun _ => ?_)
            refine lv_iconst (v := nI 1) hx hb dX6_atRisk_53 (by decide) ?_
            refine lv_iload_n hx hb dX6_atRisk_54 rfl (lv_at hl 1 rfl) ?_
            refine lv_iconst (v := nI 4) hx hb dX6_atRisk_55 (by decide) ?_
            refine fr_idiv (k9) (4) (by omega) (by omega) (by omega) hx hb dX6_atRisk_56 ?_
            refine lv_ishl hx hb dX6_atRisk_57 ?_
            refine lv_goto (tgt := 62) hx hb dX6_atRisk_58 (by decide) ?_
            refine lv_ior hx hb dX6_atRisk_62 ?_
            refine lv_istore_n (lv' := [(1, .int ((arM σ k9) ||| ((nI 1) <<< ((nI ((k9 / 4))) &&& 31)))), (3, .int (nI 1)), (2, .int (nI (k9))), (0, .ref (md 0))]) hx hb dX6_atRisk_63 rfl hl (by decide) rfl (fun ls hl => ?_)
            refine fr_iinc (k9) ((k9 + 1)) (nI_inc _) (lv' := [(2, .int (nI ((k9 + 1)))), (1, .int ((arM σ k9) ||| ((nI 1) <<< ((nI ((k9 / 4))) &&& 31)))), (3, .int (nI 1)), (0, .ref (md 0))]) (k := 2) hx hb dX6_atRisk_64 hl rfl (by decide) rfl (fun ls hl => ?_)
            refine lv_goto (tgt := 4) hx hb dX6_atRisk_67 (by decide) ?_
            have q_6 : ((arM σ k9) ||| ((nI 1) <<< ((nI ((k9 / 4))) &&& 31)) : Int32) = arM σ (k9 + 1) := (by first | contradiction | with_reducible rfl | (simp only [arM, arG, decide_true, decide_false, c_1, c_1', c_2, c_4, ↓reduceIte, Bool.false_eq_true, bI_true, bI_false, Bool.true_and, Bool.and_true, Bool.and_false, Bool.false_and, Bool.not_true, Bool.not_false, Bool.or_true, Bool.true_or, Bool.or_false, Bool.false_or] <;> with_reducible rfl) | (simp only [arM, arG, decide_true, decide_false, c_1, c_1', c_2, c_4, ↓reduceIte, Bool.false_eq_true, bI_true, bI_false, Bool.true_and, Bool.and_true, Bool.and_false, Bool.false_and, Bool.not_true, Bool.not_false, Bool.or_true, Bool.true_or, Bool.or_false, Bool.false_or] <;> rfl) | rfl | (simp [arM, arG, decide_true, decide_false, c_1, c_1', c_2, c_4]; done))
            rw [q_6] at hl
            exact ih  ((k9 + 1)) (by omega) (by omega) H locs hP hD hS ls (lv_sub hl [0, 1, 3] rfl)
  have q_7 : (nI 0 : Int32) = arM σ 0 := (by first | contradiction | with_reducible rfl | (simp only [arM, arG, decide_true, decide_false, ↓reduceIte, Bool.false_eq_true, bI_true, bI_false, Bool.true_and, Bool.and_true, Bool.and_false, Bool.false_and, Bool.not_true, Bool.not_false, Bool.or_true, Bool.true_or, Bool.or_false, Bool.false_or] <;> with_reducible rfl) | (simp only [arM, arG, decide_true, decide_false, ↓reduceIte, Bool.false_eq_true, bI_true, bI_false, Bool.true_and, Bool.and_true, Bool.and_false, Bool.false_and, Bool.not_true, Bool.not_false, Bool.or_true, Bool.true_or, Bool.or_false, Bool.false_or] <;> rfl) | rfl | (simp [arM, arG, decide_true, decide_false]; done))
  rw [q_7] at hl
  exact loop4 (16 + 1) (0) (by omega) (by omega) _ _ hP hD hS ls (lv_sub hl [0, 1, 2] rfl)

set_option maxHeartbeats 8000000 in
set_option maxRecDepth 100000 in
theorem kX6_poisonedIfScrubbed (l : Launch) (D : va_G) (T : Nat → ClassId) (Z : ZZ) (md : Nat → Nat) (n : Nat) (len : Nat) (p : Nat) (le : Nat) (σ : MS)  : CtI l D T Z yX6_poisonedIfScrubbed wsX6_poisonedIfScrubbed ({ frames := 3, cells := 0, slots := 0, locals := 68 }) [[((md 0), .inr (6, [.ref (md 1), .int (nI (n)), .ref (md 2), .int (nI (len)), .int (nI (p)), .int (nI (le)), .ref (md 3), .ref (md 4)]))], [((md 1), .inl (T 0, 1872, .inl (σ)))]] [.ref (md 0)] (sumI (pwM σ 0) (32 - 0) - sumI (heM σ 0) (32 - 0)) [[((md 0), .inr (6, [.ref (md 1), .int (nI (n)), .ref (md 2), .int (nI (len)), .int (nI (p)), .int (nI (le)), .ref (md 3), .ref (md 4)]))], [((md 1), .inl (T 0, 1872, .inl (σ)))]] := by
  refine CtI.of (cc := cX6_poisonedIfScrubbed) (maxL := 1) (ret := (some .int)) (plainFor_of_name (by decide)) rfl rfl ?_
  intro pP eE s mM bW mE cC A hE hK hN hM hP hD hA
  obtain ⟨hx, hb, hr, hts, hown, hml, hlk⟩ := hE
  have hown : s.vm.findClass RX6 = some mM.cls := hown
  have hS : va_S A s.heap s.heap [] := va_S.rf
  have hl := lv_entry ([.ref (md 0)]) (n := 1) (Nat.le_of_ble_eq_true rfl)
  rw [lg_entry_eq]
  generalize (lg_sl ([.ref (md 0)]) ++ List.replicate (1 - (lg_sl ([.ref (md 0)])).length) Slot.unset).toArray = ls at hl ⊢
  have hl : lv_has ls 1 [(0, .ref (md 0))] := hl
  refine lv_aload_n hx hb dX6_poisonedIfScrubbed_0 rfl (lv_at hl 0 rfl) ?_
  refine lv_iconst (v := nI 0) hx hb dX6_poisonedIfScrubbed_1 (by decide) ?_
  refine lv_bipush (v := nI 32) hx hb dX6_poisonedIfScrubbed_2 (by decide) ?_
  refine fr_Vi (As := [.int (nI 0), .int (nI 32)]) (rest := []) (fs' := [[((md 0), .inr (6, [.ref (md 1), .int (nI (n)), .ref (md 2), .int (nI (len)), .int (nI (p)), .int (nI (le)), .ref (md 3), .ref (md 4)]))], [((md 1), .inl (T 0, 1872, .inl (σ)))]]) (ci := 6) (q0 := (RX6, TX6, 8)) (i0 := 0) ⟨hx, hb, hml, hown, hts⟩ (kX6_poisonedWords l D T Z md n len p le σ 0 32 (by decide) (by decide)) (cwV 2 hts gX6_poisonedIfScrubbed_X6_poisonedWords rfl rfl rfl (by decide +kernel) ⟨Nat.le_of_ble_eq_true rfl, Nat.le_of_ble_eq_true rfl⟩) hK hN hM hP hD hS hA [0, 1] rfl rfl rfl rfl rfl rfl hl.1 rfl (Nat.le_of_ble_eq_true rfl) dX6_poisonedIfScrubbed_4 ⟨Nat.zero_le _, Nat.zero_le _⟩ (fun H locs hP hD hS => ?_)
  refine lv_aload_n hx hb dX6_poisonedIfScrubbed_7 rfl (lv_at hl 0 rfl) ?_
  refine lv_iconst (v := nI 0) hx hb dX6_poisonedIfScrubbed_8 (by decide) ?_
  refine lv_bipush (v := nI 32) hx hb dX6_poisonedIfScrubbed_9 (by decide) ?_
  refine fr_Vi (As := [.int (nI 0), .int (nI 32)]) (rest := [.int (sumI (pwM σ 0) (32 - 0))]) (fs' := [[((md 0), .inr (6, [.ref (md 1), .int (nI (n)), .ref (md 2), .int (nI (len)), .int (nI (p)), .int (nI (le)), .ref (md 3), .ref (md 4)]))], [((md 1), .inl (T 0, 1872, .inl (σ)))]]) (ci := 6) (q0 := (RX6, TX6, 8)) (i0 := 0) ⟨hx, hb, hml, hown, hts⟩ (kX6_healable l D T Z md n len p le σ 0 32 (by decide) (by decide)) (cwV 2 hts gX6_poisonedIfScrubbed_X6_healable rfl rfl rfl (by decide +kernel) ⟨Nat.le_of_ble_eq_true rfl, Nat.le_of_ble_eq_true rfl⟩) hK hN hM hP hD hS hA [0, 1] rfl rfl rfl rfl rfl rfl hl.1 rfl (Nat.le_of_ble_eq_true rfl) dX6_poisonedIfScrubbed_11 ⟨Nat.zero_le _, Nat.zero_le _⟩ (fun H locs hP hD hS => ?_)
  refine lv_isub hx hb dX6_poisonedIfScrubbed_14 ?_
  exact fr_iret hx hb hr hlk hP hS (by first | with_reducible rfl | (simp only [↓reduceIte, Bool.false_eq_true, bI_true, bI_false, Bool.true_and, Bool.and_true, Bool.and_false, Bool.false_and, Bool.not_true, Bool.not_false, Bool.or_true, Bool.true_or, Bool.or_false, Bool.false_or] <;> with_reducible rfl) | (simp only [↓reduceIte, Bool.false_eq_true, bI_true, bI_false, Bool.true_and, Bool.and_true, Bool.and_false, Bool.false_and, Bool.not_true, Bool.not_false, Bool.or_true, Bool.true_or, Bool.or_false, Bool.false_or] <;> rfl) | (simp [bI]; done)) rfl dX6_poisonedIfScrubbed_15

set_option maxHeartbeats 8000000 in
set_option maxRecDepth 100000 in
theorem kX6_carriersWithout (l : Launch) (D : va_G) (T : Nat → ClassId) (Z : ZZ) (md : Nat → Nat) (n : Nat) (len : Nat) (p : Nat) (le : Nat) (σ : MS) (x : Int32) (w : Int32) (hi : WH (σ 256) 20) : CtI l D T Z yX6_carriersWithout wsX6_carriersWithout ({ frames := 2, cells := 0, slots := 0, locals := 45 }) [[((md 0), .inr (6, [.ref (md 1), .int (nI (n)), .ref (md 2), .int (nI (len)), .int (nI (p)), .int (nI (le)), .ref (md 3), .ref (md 4)]))], [((md 1), .inl (T 0, 1872, .inl (σ)))]] [.ref (md 0), .int (x), .int (w)] (if iN x (tn (σ 256)) && iN w 32 then sumI (crG σ x) 80 - (if σ (wdt 0 (tn w) + 1) = x then nI 1 else nI 0) else -1) [[((md 0), .inr (6, [.ref (md 1), .int (nI (n)), .ref (md 2), .int (nI (len)), .int (nI (p)), .int (nI (le)), .ref (md 3), .ref (md 4)]))], [((md 1), .inl (T 0, 1872, .inl (σ)))]] := by
  have hi2 := hi.2
  have hwd : wdt 0 (tn w) = 0 + 3 * tn w := rfl
  have hcp : cpt 0 (tn w) = 0 + 96 + 3 * tn w := rfl
  refine CtI.of (cc := cX6_carriersWithout) (maxL := 3) (ret := (some .int)) (plainFor_of_name (by decide)) rfl rfl ?_
  intro pP eE s mM bW mE cC A hE hK hN hM hP hD hA
  obtain ⟨hx, hb, hr, hts, hown, hml, hlk⟩ := hE
  have hown : s.vm.findClass RX6 = some mM.cls := hown
  have hS : va_S A s.heap s.heap [] := va_S.rf
  have hl := lv_entry ([.ref (md 0), .int (x), .int (w)]) (n := 3) (Nat.le_of_ble_eq_true rfl)
  rw [lg_entry_eq]
  generalize (lg_sl ([.ref (md 0), .int (x), .int (w)]) ++ List.replicate (3 - (lg_sl ([.ref (md 0), .int (x), .int (w)])).length) Slot.unset).toArray = ls at hl ⊢
  have hl : lv_has ls 3 [(0, .ref (md 0)), (1, .int (x)), (2, .int (w))] := hl
  have w_7 := hts (.fieldLink RX6 7 "PoisonedMemoryModel" "s" "[I") (by decide +kernel)
  have hinX6 : ∀ w ∈ wsX60, w ∈ wsX6_carriersWithout := by decide +kernel
  refine lv_aload_n hx hb dX6_carriersWithout_0 rfl (lv_at hl 0 rfl) ?_
  refine lv_iload_n hx hb dX6_carriersWithout_1 rfl (lv_at hl 1 rfl) ?_
  refine fr_Vi (As := [.int (x)]) (rest := []) (fs' := [[((md 0), .inr (6, [.ref (md 1), .int (nI (n)), .ref (md 2), .int (nI (len)), .int (nI (p)), .int (nI (le)), .ref (md 3), .ref (md 4)]))], [((md 1), .inl (T 0, 1872, .inl (σ)))]]) (ci := 6) (q0 := (RX6, TX6, 8)) (i0 := 0) ⟨hx, hb, hml, hown, hts⟩ (kX6_isOrigin l D T Z md n len p le σ x hi) (cwV 1 hts gX6_carriersWithout_X6_isOrigin rfl rfl rfl (by decide +kernel) ⟨Nat.le_of_ble_eq_true rfl, Nat.le_of_ble_eq_true rfl⟩) hK hN hM hP hD hS hA [0, 1] rfl rfl rfl rfl rfl rfl hl.1 rfl (Nat.le_of_ble_eq_true rfl) dX6_carriersWithout_2 ⟨Nat.zero_le _, Nat.zero_le _⟩ (fun H locs hP hD hS => ?_)
  refine fr_ifeq_b (tgt := 15) hx hb dX6_carriersWithout_5 (by decide) (fun c_1 => ?_) (fun c_1 => ?_)
  · refine lv_iconst (v := (-1)) hx hb dX6_carriersWithout_15 (by decide) ?_
    exact fr_iret hx hb hr hlk hP hS (by first | with_reducible rfl | (simp only [c_1, ↓reduceIte, Bool.false_eq_true, bI_true, bI_false, Bool.true_and, Bool.and_true, Bool.and_false, Bool.false_and, Bool.not_true, Bool.not_false, Bool.or_true, Bool.true_or, Bool.or_false, Bool.false_or] <;> with_reducible rfl) | (simp only [c_1, ↓reduceIte, Bool.false_eq_true, bI_true, bI_false, Bool.true_and, Bool.and_true, Bool.and_false, Bool.false_and, Bool.not_true, Bool.not_false, Bool.or_true, Bool.true_or, Bool.or_false, Bool.false_or] <;> rfl) | (simp [c_1, bI]; done)) rfl dX6_carriersWithout_16
  · have e_2 := iN_eq c_1
    have e_2b := iN_lt c_1 (by omega)
    refine lv_iload_n hx hb dX6_carriersWithout_8 rfl (lv_at hl 2 rfl) ?_
    refine fr_S0 (As := [.int (w)]) (rest := []) ⟨hx, hb, hml, hown, hts⟩ (kX6_isWord l D T Z w) (va_cwS 1 hts gX6_carriersWithout_X6_isWord rfl rfl rfl (by decide +kernel) ⟨Nat.le_of_ble_eq_true rfl, Nat.le_of_ble_eq_true rfl⟩) hK hN hM hP hD hS hA rfl hl.1 rfl (Nat.le_of_ble_eq_true rfl) dX6_carriersWithout_9 ⟨Nat.zero_le _, Nat.zero_le _⟩ (fun H locs hP hD hS => ?_)
    refine fr_ifne_b (tgt := 17) hx hb dX6_carriersWithout_12 (by decide) (fun c_3 => ?_) (fun c_3 => ?_)
    · have e_4 := iN_eq c_3
      have e_4b := iN_lt c_3 (by decide)
      refine lv_aload_n hx hb dX6_carriersWithout_17 rfl (lv_at hl 0 rfl) ?_
      refine lv_iload_n hx hb dX6_carriersWithout_18 rfl (lv_at hl 1 rfl) ?_
      refine fr_Vi (As := [.int (x)]) (rest := []) (fs' := [[((md 0), .inr (6, [.ref (md 1), .int (nI (n)), .ref (md 2), .int (nI (len)), .int (nI (p)), .int (nI (le)), .ref (md 3), .ref (md 4)]))], [((md 1), .inl (T 0, 1872, .inl (σ)))]]) (ci := 6) (q0 := (RX6, TX6, 8)) (i0 := 0) ⟨hx, hb, hml, hown, hts⟩ (kX6_carriersOf l D T Z md n len p le σ x) (cwV 1 hts gX6_carriersWithout_X6_carriersOf rfl rfl rfl (by decide +kernel) ⟨Nat.le_of_ble_eq_true rfl, Nat.le_of_ble_eq_true rfl⟩) hK hN hM hP hD hS hA [0, 1] rfl rfl rfl rfl rfl rfl hl.1 rfl (Nat.le_of_ble_eq_true rfl) dX6_carriersWithout_19 ⟨Nat.zero_le _, Nat.zero_le _⟩ (fun H locs hP hD hS => ?_)
      refine lv_aload_n hx hb dX6_carriersWithout_22 rfl (lv_at hl 0 rfl) ?_
      refine va_get (D := D) (ci := 6) (v := .ref (md 1)) (C := RX6) (T := TX6) (N := 8) hx hb hts hinX6 hown hK (hP.at 0 rfl) 0 rfl rfl 0 (by decide) w_7 (fun _ h9 => h9) rfl dX6_carriersWithout_23 ?_
      refine lv_iconst (v := nI 0) hx hb dX6_carriersWithout_26 (by decide) ?_
      refine lv_iload_n hx hb dX6_carriersWithout_27 rfl (lv_at hl 2 rfl) ?_
      refine fr_val e_4 ?_
      refine fr_S0 (As := [.int (nI 0), .int (nI (tn w))]) (rest := [.ref (md 1), .int (sumI (crG σ x) 80)]) ⟨hx, hb, hml, hown, hts⟩ (kX6_wordAt l D T Z 0 (tn w)) (va_cwS 2 hts gX6_carriersWithout_X6_wordAt rfl rfl rfl (by decide +kernel) ⟨Nat.le_of_ble_eq_true rfl, Nat.le_of_ble_eq_true rfl⟩) hK hN hM hP hD hS hA rfl hl.1 rfl (Nat.le_of_ble_eq_true rfl) dX6_carriersWithout_28 ⟨Nat.zero_le _, Nat.zero_le _⟩ (fun H locs hP hD hS => ?_)
      refine lv_iconst (v := nI 1) hx hb dX6_carriersWithout_31 (by decide) ?_
      refine fr_iadd (wdt 0 (tn w)) (1) hx hb dX6_carriersWithout_32 ?_
      refine fr_iald hx hb hK hP 1 ((wdt 0 (tn w) + 1)) rfl (by omega) (by omega) dX6_carriersWithout_33 ?_
      refine lv_iload_n hx hb dX6_carriersWithout_34 rfl (lv_at hl 1 rfl) ?_
      refine lv_icmp_ne (tgt := 42) hx hb dX6_carriersWithout_35 (by decide) (fun c_5 => ?_) (fun c_5 => ?_)
      · refine lv_iconst (v := nI 0) hx hb dX6_carriersWithout_42 (by decide) ?_
        refine lv_isub hx hb dX6_carriersWithout_43 ?_
        exact fr_iret hx hb hr hlk hP hS (by first | with_reducible rfl | (simp only [c_1, c_3, c_5, ↓reduceIte, Bool.false_eq_true, bI_true, bI_false, Bool.true_and, Bool.and_true, Bool.and_false, Bool.false_and, Bool.not_true, Bool.not_false, Bool.or_true, Bool.true_or, Bool.or_false, Bool.false_or] <;> with_reducible rfl) | (simp only [c_1, c_3, c_5, ↓reduceIte, Bool.false_eq_true, bI_true, bI_false, Bool.true_and, Bool.and_true, Bool.and_false, Bool.false_and, Bool.not_true, Bool.not_false, Bool.or_true, Bool.true_or, Bool.or_false, Bool.false_or] <;> rfl) | (simp [c_1, c_3, c_5, bI]; done)) rfl dX6_carriersWithout_44
      · refine lv_iconst (v := nI 1) hx hb dX6_carriersWithout_38 (by decide) ?_
        refine lv_goto (tgt := 43) hx hb dX6_carriersWithout_39 (by decide) ?_
        refine lv_isub hx hb dX6_carriersWithout_43 ?_
        exact fr_iret hx hb hr hlk hP hS (by first | with_reducible rfl | (simp only [c_1, c_3, c_5, ↓reduceIte, Bool.false_eq_true, bI_true, bI_false, Bool.true_and, Bool.and_true, Bool.and_false, Bool.false_and, Bool.not_true, Bool.not_false, Bool.or_true, Bool.true_or, Bool.or_false, Bool.false_or] <;> with_reducible rfl) | (simp only [c_1, c_3, c_5, ↓reduceIte, Bool.false_eq_true, bI_true, bI_false, Bool.true_and, Bool.and_true, Bool.and_false, Bool.false_and, Bool.not_true, Bool.not_false, Bool.or_true, Bool.true_or, Bool.or_false, Bool.false_or] <;> rfl) | (simp [c_1, c_3, c_5, bI]; done)) rfl dX6_carriersWithout_44
    · refine lv_iconst (v := (-1)) hx hb dX6_carriersWithout_15 (by decide) ?_
      exact fr_iret hx hb hr hlk hP hS (by first | with_reducible rfl | (simp only [c_1, c_3, ↓reduceIte, Bool.false_eq_true, bI_true, bI_false, Bool.true_and, Bool.and_true, Bool.and_false, Bool.false_and, Bool.not_true, Bool.not_false, Bool.or_true, Bool.true_or, Bool.or_false, Bool.false_or] <;> with_reducible rfl) | (simp only [c_1, c_3, ↓reduceIte, Bool.false_eq_true, bI_true, bI_false, Bool.true_and, Bool.and_true, Bool.and_false, Bool.false_and, Bool.not_true, Bool.not_false, Bool.or_true, Bool.true_or, Bool.or_false, Bool.false_or] <;> rfl) | (simp [c_1, c_3, bI]; done)) rfl dX6_carriersWithout_16
