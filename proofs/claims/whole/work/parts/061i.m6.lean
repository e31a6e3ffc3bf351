
set_option maxHeartbeats 8000000 in
set_option maxRecDepth 100000 in
theorem kX6_copyBlock (l : Launch) (D : va_G) (T : Nat → ClassId) (Z : ZZ) (md : Nat → Nat) (n : Nat) (len : Nat) (p : Nat) (le : Nat) (σ : MS) (ρ : MS) (x : Int32) (y : Int32) (c : Int32) (hn4 : n ≤ 4) : CtI l D T Z yX6_copyBlock wsX6_copyBlock ({ frames := 3, cells := 0, slots := 0, locals := 67 }) [[((md 0), .inr (6, [.ref (md 1), .int (nI (n)), .ref (md 2), .int (nI (len)), .int (nI (p)), .int (nI (le)), .ref (md 3), .ref (md 4)]))], [((md 1), .inl (T 0, 1872, .inl (σ)))], [((md 4), .inl (T 0, 48, .inl (ρ)))]] [.ref (md 0), .int (x), .int (y), .int (c)] (if iN x 32 && iN y 32 then (if iB c then (if tn x + tn c ≤ 32 ∧ tn y + tn c ≤ 32 then sumI (cpyC (fetM (mCp σ 0 5) (tn x) (tn c)) (redM (mCp σ 0 5) ρ (tn x) (tn c)) (tn y)) (tn c) else -1) else -2) else -1) [[((md 0), .inr (6, [.ref (md 1), .int (nI (mAN (cpOkM x y c) n (sumI (cpyC (fetM (mCp σ 0 5) (tn x) (tn c)) (redM (mCp σ 0 5) ρ (tn x) (tn c)) (tn y)) (tn c)))), .ref (md 2), .int (nI (len)), .int (nI (p)), .int (nI (le)), .ref (md 3), .ref (md 4)]))], [((md 1), .inl (T 0, 1872, .inl (mAS (cpOkM x y c) (putM (fetM (mCp σ 0 5) (tn x) (tn c)) (redM (mCp σ 0 5) ρ (tn x) (tn c)) (tn y) (tn c)) n (sumI (cpyC (fetM (mCp σ 0 5) (tn x) (tn c)) (redM (mCp σ 0 5) ρ (tn x) (tn c)) (tn y)) (tn c)) σ)))], [((md 4), .inl (T 0, 48, .inl (if cpOkM x y c then redM (mCp σ 0 5) ρ (tn x) (tn c) else ρ)))]] := by
  have hww : ∀ w : Nat, wdt 1560 w = 1560 + 3 * w := fun _ => rfl
  refine CtI.of (cc := cX6_copyBlock) (maxL := 7) (ret := (some .int)) (plainFor_of_name (by decide)) rfl rfl ?_
  intro pP eE s mM bW mE cC A hE hK hN hM hP hD hA
  obtain ⟨hx, hb, hr, hts, hown, hml, hlk⟩ := hE
  have hown : s.vm.findClass RX6 = some mM.cls := hown
  have hS : va_S A s.heap s.heap [] := va_S.rf
  have hl := lv_entry ([.ref (md 0), .int (x), .int (y), .int (c)]) (n := 7) (Nat.le_of_ble_eq_true rfl)
  rw [lg_entry_eq]
  generalize (lg_sl ([.ref (md 0), .int (x), .int (y), .int (c)]) ++ List.replicate (7 - (lg_sl ([.ref (md 0), .int (x), .int (y), .int (c)])).length) Slot.unset).toArray = ls at hl ⊢
  have hl : lv_has ls 7 [(0, .ref (md 0)), (1, .int (x)), (2, .int (y)), (3, .int (c))] := hl
  have w_19 := hts (.fieldLink RX6 19 "PoisonedMemoryModel" "read" "[I") (by decide +kernel)
  have hinX6 : ∀ w ∈ wsX60, w ∈ wsX6_copyBlock := by decide +kernel
  have w_7 := hts (.fieldLink RX6 7 "PoisonedMemoryModel" "s" "[I") (by decide +kernel)
  refine lv_iload_n hx hb dX6_copyBlock_0 rfl (lv_at hl 1 rfl) ?_
  refine fr_S0 (As := [.int (x)]) (rest := []) ⟨hx, hb, hml, hown, hts⟩ (kX6_isWord l D T Z x) (va_cwS 1 hts gX6_copyBlock_X6_isWord rfl rfl rfl (by decide +kernel) ⟨Nat.le_of_ble_eq_true rfl, Nat.le_of_ble_eq_true rfl⟩) hK hN hM hP hD hS hA rfl hl.1 rfl (Nat.le_of_ble_eq_true rfl) dX6_copyBlock_1 ⟨Nat.zero_le _, Nat.zero_le _⟩ (fun H locs hP hD hS => ?_)
  refine fr_ifeq_b (tgt := 14) hx hb dX6_copyBlock_4 (by decide) (fun c_1 => ?_) (fun c_1 => ?_)
  · refine lv_iconst (v := (-1)) hx hb dX6_copyBlock_14 (by decide) ?_
    exact fr_iret hx hb hr hlk hP hS (by first | with_reducible rfl | (simp only [mAS, mAN, cpOkM, decide_true, decide_false, decide_eq_true_eq, true_and, and_true, false_and, and_false, c_1, ↓reduceIte, Bool.false_eq_true, bI_true, bI_false, Bool.true_and, Bool.and_true, Bool.and_false, Bool.false_and, Bool.not_true, Bool.not_false, Bool.or_true, Bool.true_or, Bool.or_false, Bool.false_or] <;> with_reducible rfl) | (simp only [mAS, mAN, cpOkM, decide_true, decide_false, decide_eq_true_eq, true_and, and_true, false_and, and_false, c_1, ↓reduceIte, Bool.false_eq_true, bI_true, bI_false, Bool.true_and, Bool.and_true, Bool.and_false, Bool.false_and, Bool.not_true, Bool.not_false, Bool.or_true, Bool.true_or, Bool.or_false, Bool.false_or] <;> rfl) | (simp [mAS, mAN, cpOkM, decide_true, decide_false, decide_eq_true_eq, true_and, and_true, false_and, and_false, c_1, bI]; done)) (by first | with_reducible rfl | (simp only [mAS, mAN, cpOkM, decide_true, decide_false, decide_eq_true_eq, true_and, and_true, false_and, and_false, c_1, ↓reduceIte, Bool.false_eq_true, bI_true, bI_false, Bool.true_and, Bool.and_true, Bool.and_false, Bool.false_and, Bool.not_true, Bool.not_false, Bool.or_true, Bool.true_or, Bool.or_false, Bool.false_or] <;> with_reducible rfl) | (simp only [mAS, mAN, cpOkM, decide_true, decide_false, decide_eq_true_eq, true_and, and_true, false_and, and_false, c_1, ↓reduceIte, Bool.false_eq_true, bI_true, bI_false, Bool.true_and, Bool.and_true, Bool.and_false, Bool.false_and, Bool.not_true, Bool.not_false, Bool.or_true, Bool.true_or, Bool.or_false, Bool.false_or] <;> rfl) | (simp [mAS, mAN, cpOkM, decide_true, decide_false, decide_eq_true_eq, true_and, and_true, false_and, and_false, c_1, bI]; done)) dX6_copyBlock_15
  · have e_2 := iN_eq c_1
    have e_2b := iN_lt c_1 (by decide)
    refine lv_iload_n hx hb dX6_copyBlock_7 rfl (lv_at hl 2 rfl) ?_
    refine fr_S0 (As := [.int (y)]) (rest := []) ⟨hx, hb, hml, hown, hts⟩ (kX6_isWord l D T Z y) (va_cwS 1 hts gX6_copyBlock_X6_isWord rfl rfl rfl (by decide +kernel) ⟨Nat.le_of_ble_eq_true rfl, Nat.le_of_ble_eq_true rfl⟩) hK hN hM hP hD hS hA rfl hl.1 rfl (Nat.le_of_ble_eq_true rfl) dX6_copyBlock_8 ⟨Nat.zero_le _, Nat.zero_le _⟩ (fun H locs hP hD hS => ?_)
    refine fr_ifne_b (tgt := 16) hx hb dX6_copyBlock_11 (by decide) (fun c_3 => ?_) (fun c_3 => ?_)
    · have e_4 := iN_eq c_3
      have e_4b := iN_lt c_3 (by decide)
      refine lv_iload_n hx hb dX6_copyBlock_16 rfl (lv_at hl 3 rfl) ?_
      refine lv_iconst (v := nI 1) hx hb dX6_copyBlock_17 (by decide) ?_
      refine lv_bipush (v := nI 16) hx hb dX6_copyBlock_18 (by decide) ?_
      refine fr_S0 (As := [.int (c), .int (nI 1), .int (nI 16)]) (rest := []) ⟨hx, hb, hml, hown, hts⟩ (kX6_in l D T Z c (nI 1) (nI 16)) (va_cwS 3 hts gX6_copyBlock_X6_in rfl rfl rfl (by decide +kernel) ⟨Nat.le_of_ble_eq_true rfl, Nat.le_of_ble_eq_true rfl⟩) hK hN hM hP hD hS hA rfl hl.1 rfl (Nat.le_of_ble_eq_true rfl) dX6_copyBlock_20 ⟨Nat.zero_le _, Nat.zero_le _⟩ (fun H locs hP hD hS => ?_)
      refine fr_ifne_b (tgt := 29) hx hb dX6_copyBlock_23 (by decide) (fun c_5 => ?_) (fun c_5 => ?_)
      · have r_6 : iB c = true := c_5
        obtain ⟨e_7, e_7a, e_7b⟩ := iB_eq r_6
        refine lv_iload_n hx hb dX6_copyBlock_29 rfl (lv_at hl 1 rfl) ?_
        refine fr_val e_2 ?_
        refine lv_iload_n hx hb dX6_copyBlock_30 rfl (lv_at hl 3 rfl) ?_
        refine fr_val e_7 ?_
        refine fr_iadd (tn x) (tn c) hx hb dX6_copyBlock_31 ?_
        refine lv_bipush (v := nI 32) hx hb dX6_copyBlock_32 (by decide) ?_
        refine fr_icmp_gt ((tn x + tn c)) (32) (by omega) (by decide) (tgt := 45) hx hb dX6_copyBlock_34 (by decide) (fun c_8 => ?_) (fun c_8 => ?_)
        · have c_8' := Nat.not_le.mpr c_8
          refine lv_iconst (v := (-1)) hx hb dX6_copyBlock_45 (by decide) ?_
          exact fr_iret hx hb hr hlk hP hS (by first | with_reducible rfl | (simp only [mAS, mAN, cpOkM, decide_true, decide_false, decide_eq_true_eq, true_and, and_true, false_and, and_false, c_1, c_3, c_5, r_6, c_8, c_8', ↓reduceIte, Bool.false_eq_true, bI_true, bI_false, Bool.true_and, Bool.and_true, Bool.and_false, Bool.false_and, Bool.not_true, Bool.not_false, Bool.or_true, Bool.true_or, Bool.or_false, Bool.false_or] <;> with_reducible rfl) | (simp only [mAS, mAN, cpOkM, decide_true, decide_false, decide_eq_true_eq, true_and, and_true, false_and, and_false, c_1, c_3, c_5, r_6, c_8, c_8', ↓reduceIte, Bool.false_eq_true, bI_true, bI_false, Bool.true_and, Bool.and_true, Bool.and_false, Bool.false_and, Bool.not_true, Bool.not_false, Bool.or_true, Bool.true_or, Bool.or_false, Bool.false_or] <;> rfl) | (simp [mAS, mAN, cpOkM, decide_true, decide_false, decide_eq_true_eq, true_and, and_true, false_and, and_false, c_1, c_3, c_5, r_6, c_8, c_8', bI]; done)) (by first | with_reducible rfl | (simp only [mAS, mAN, cpOkM, decide_true, decide_false, decide_eq_true_eq, true_and, and_true, false_and, and_false, c_1, c_3, c_5, r_6, c_8, c_8', ↓reduceIte, Bool.false_eq_true, bI_true, bI_false, Bool.true_and, Bool.and_true, Bool.and_false, Bool.false_and, Bool.not_true, Bool.not_false, Bool.or_true, Bool.true_or, Bool.or_false, Bool.false_or] <;> with_reducible rfl) | (simp only [mAS, mAN, cpOkM, decide_true, decide_false, decide_eq_true_eq, true_and, and_true, false_and, and_false, c_1, c_3, c_5, r_6, c_8, c_8', ↓reduceIte, Bool.false_eq_true, bI_true, bI_false, Bool.true_and, Bool.and_true, Bool.and_false, Bool.false_and, Bool.not_true, Bool.not_false, Bool.or_true, Bool.true_or, Bool.or_false, Bool.false_or] <;> rfl) | (simp [mAS, mAN, cpOkM, decide_true, decide_false, decide_eq_true_eq, true_and, and_true, false_and, and_false, c_1, c_3, c_5, r_6, c_8, c_8', bI]; done)) dX6_copyBlock_46
        · have c_8' := Nat.not_lt.mpr c_8
          refine lv_iload_n hx hb dX6_copyBlock_37 rfl (lv_at hl 2 rfl) ?_
          refine fr_val e_4 ?_
          refine lv_iload_n hx hb dX6_copyBlock_38 rfl (lv_at hl 3 rfl) ?_
          refine fr_val e_7 ?_
          refine fr_iadd (tn y) (tn c) hx hb dX6_copyBlock_39 ?_
          refine lv_bipush (v := nI 32) hx hb dX6_copyBlock_40 (by decide) ?_
          refine fr_icmp_le ((tn y + tn c)) (32) (by omega) (by decide) (tgt := 47) hx hb dX6_copyBlock_42 (by decide) (fun c_9 => ?_) (fun c_9 => ?_)
          · have c_9' := Nat.not_lt.mpr c_9
            refine lv_aload_n hx hb dX6_copyBlock_47 rfl (lv_at hl 0 rfl) ?_
            refine fr_Vi (As := []) (rest := []) (fs' := [[((md 0), .inr (6, [.ref (md 1), .int (nI (n)), .ref (md 2), .int (nI (len)), .int (nI (p)), .int (nI (le)), .ref (md 3), .ref (md 4)]))], [((md 1), .inl (T 0, 1872, .inl (mCp σ 0 5)))], [((md 4), .inl (T 0, 48, .inl (ρ)))]]) (ci := 6) (q0 := (RX6, TX6, 8)) (i0 := 0) ⟨hx, hb, hml, hown, hts⟩ (kX6_begins l D T Z md n len p le σ) (cwV 0 hts gX6_copyBlock_X6_begins rfl rfl rfl (by decide +kernel) ⟨Nat.le_of_ble_eq_true rfl, Nat.le_of_ble_eq_true rfl⟩) hK hN hM hP hD hS hA [0, 1] rfl rfl rfl rfl rfl rfl hl.1 rfl (Nat.le_of_ble_eq_true rfl) dX6_copyBlock_48 ⟨Nat.zero_le _, Nat.zero_le _⟩ (fun H locs hP hD hS => ?_)
            refine lv_istore (lv' := [(4, .int (nI 1560)), (0, .ref (md 0)), (1, .int (x)), (2, .int (y)), (3, .int (c))]) hx hb dX6_copyBlock_51 hl (by decide) rfl (fun ls hl => ?_)
            refine lv_iconst (v := nI 0) hx hb dX6_copyBlock_53 (by decide) ?_
            refine lv_istore (lv' := [(5, .int (nI 0)), (4, .int (nI 1560)), (0, .ref (md 0)), (1, .int (x)), (2, .int (y)), (3, .int (c))]) hx hb dX6_copyBlock_54 hl (by decide) rfl (fun ls hl => ?_)
            have loop56 : ∀ (n9 k9 : Nat), k9 ≤ tn c → tn c < k9 + n9 → ∀ (H : Heap) (locs : List Loc), frP D [[((md 0), .inr (6, [.ref (md 1), .int (nI (n)), .ref (md 2), .int (nI (len)), .int (nI (p)), .int (nI (le)), .ref (md 3), .ref (md 4)]))], [((md 1), .inl (T 0, 1872, .inl (fetM (mCp σ 0 5) (tn x) k9)))], [((md 4), .inl (T 0, 48, .inl (redM (mCp σ 0 5) ρ (tn x) k9)))]] H → va_D A ([[((md 0), .inr (6, [.ref (md 1), .int (nI (n)), .ref (md 2), .int (nI (len)), .int (nI (p)), .int (nI (le)), .ref (md 3), .ref (md 4)]))], [((md 1), .inl (T 0, 1872, .inl (fetM (mCp σ 0 5) (tn x) k9)))], [((md 4), .inl (T 0, 48, .inl (redM (mCp σ 0 5) ρ (tn x) k9)))]] : List va_W).flatten → va_S A s.heap H locs → ∀ (ls : Array Slot), lv_has ls 7 [(5, .int (nI (k9))), (4, .int (nI 1560)), (0, .ref (md 0)), (1, .int (x)), (2, .int (y)), (3, .int (c))] → W pP l eE ({ frames := 3, cells := 0, slots := 0, locals := 67 }) s mM ([.ref (md 0), .int (x), .int (y), .int (c)] : List Value).toArray bW mE cC H locs 0 0 (MQ bW (QcI D [[((md 0), .inr (6, [.ref (md 1), .int (nI (mAN (cpOkM x y c) n (sumI (cpyC (fetM (mCp σ 0 5) (tn x) (tn c)) (redM (mCp σ 0 5) ρ (tn x) (tn c)) (tn y)) (tn c)))), .ref (md 2), .int (nI (len)), .int (nI (p)), .int (nI (le)), .ref (md 3), .ref (md 4)]))], [((md 1), .inl (T 0, 1872, .inl (mAS (cpOkM x y c) (putM (fetM (mCp σ 0 5) (tn x) (tn c)) (redM (mCp σ 0 5) ρ (tn x) (tn c)) (tn y) (tn c)) n (sumI (cpyC (fetM (mCp σ 0 5) (tn x) (tn c)) (redM (mCp σ 0 5) ρ (tn x) (tn c)) (tn y)) (tn c)) σ)))], [((md 4), .inl (T 0, 48, .inl (if cpOkM x y c then redM (mCp σ 0 5) ρ (tn x) (tn c) else ρ)))]] (if iN x 32 && iN y 32 then (if iB c then (if tn x + tn c ≤ 32 ∧ tn y + tn c ≤ 32 then sumI (cpyC (fetM (mCp σ 0 5) (tn x) (tn c)) (redM (mCp σ 0 5) ρ (tn x) (tn c)) (tn y)) (tn c) else -1) else -2) else -1) A) ([.ref (md 0), .int (x), .int (y), .int (c)] : List Value).toArray s 0 0 A) (F0 mM 56 ls []) := by
              intro n9
              induction n9 with
              | zero => intro k9 h1 h2; exact absurd h2 (by omega)
              | succ n9 ih =>
                intro k9 hk1 hk2 H locs hP hD hS ls hl
                have hw9 := hww (tn x + k9)
                refine lv_iload hx hb dX6_copyBlock_56 (lv_at hl 0 rfl) ?_
                refine lv_iload_n hx hb dX6_copyBlock_58 rfl (lv_at hl 5 rfl) ?_
                refine fr_val e_7 ?_
                refine fr_icmp_ge (k9) (tn c) (by omega) (by omega) (tgt := 123) hx hb dX6_copyBlock_59 (by decide) (fun c_10 => ?_) (fun c_10 => ?_)
                · have c_10' := Nat.not_lt.mpr c_10
                  obtain rfl : k9 = tn c := by omega
                  refine lv_iconst (v := nI 0) hx hb dX6_copyBlock_123 (by decide) ?_
                  refine lv_istore (lv' := [(5, .int (nI 0)), (4, .int (nI 1560)), (0, .ref (md 0)), (1, .int (x)), (2, .int (y)), (3, .int (c))]) hx hb dX6_copyBlock_124 hl (by decide) rfl (fun ls hl => ?_)
                  refine lv_iconst (v := nI 0) hx hb dX6_copyBlock_126 (by decide) ?_
                  refine lv_istore (lv' := [(6, .int (nI 0)), (5, .int (nI 0)), (4, .int (nI 1560)), (0, .ref (md 0)), (1, .int (x)), (2, .int (y)), (3, .int (c))]) hx hb dX6_copyBlock_127 hl (by decide) rfl (fun ls hl => ?_)
                  have loop129 : ∀ (n9 k8 : Nat), k8 ≤ tn c → tn c < k8 + n9 → ∀ (H : Heap) (locs : List Loc), frP D [[((md 0), .inr (6, [.ref (md 1), .int (nI (n)), .ref (md 2), .int (nI (len)), .int (nI (p)), .int (nI (le)), .ref (md 3), .ref (md 4)]))], [((md 1), .inl (T 0, 1872, .inl (putM (fetM (mCp σ 0 5) (tn x) (tn c)) (redM (mCp σ 0 5) ρ (tn x) (tn c)) (tn y) k8)))], [((md 4), .inl (T 0, 48, .inl (redM (mCp σ 0 5) ρ (tn x) (tn c))))]] H → va_D A ([[((md 0), .inr (6, [.ref (md 1), .int (nI (n)), .ref (md 2), .int (nI (len)), .int (nI (p)), .int (nI (le)), .ref (md 3), .ref (md 4)]))], [((md 1), .inl (T 0, 1872, .inl (putM (fetM (mCp σ 0 5) (tn x) (tn c)) (redM (mCp σ 0 5) ρ (tn x) (tn c)) (tn y) k8)))], [((md 4), .inl (T 0, 48, .inl (redM (mCp σ 0 5) ρ (tn x) (tn c))))]] : List va_W).flatten → va_S A s.heap H locs → ∀ (ls : Array Slot), lv_has ls 7 [(6, .int (nI (k8))), (5, .int (sumI (cpyC (fetM (mCp σ 0 5) (tn x) (tn c)) (redM (mCp σ 0 5) ρ (tn x) (tn c)) (tn y)) k8)), (4, .int (nI 1560)), (0, .ref (md 0)), (1, .int (x)), (2, .int (y)), (3, .int (c))] → W pP l eE ({ frames := 3, cells := 0, slots := 0, locals := 67 }) s mM ([.ref (md 0), .int (x), .int (y), .int (c)] : List Value).toArray bW mE cC H locs 0 0 (MQ bW (QcI D [[((md 0), .inr (6, [.ref (md 1), .int (nI (mAN (cpOkM x y c) n (sumI (cpyC (fetM (mCp σ 0 5) (tn x) (tn c)) (redM (mCp σ 0 5) ρ (tn x) (tn c)) (tn y)) (tn c)))), .ref (md 2), .int (nI (len)), .int (nI (p)), .int (nI (le)), .ref (md 3), .ref (md 4)]))], [((md 1), .inl (T 0, 1872, .inl (mAS (cpOkM x y c) (putM (fetM (mCp σ 0 5) (tn x) (tn c)) (redM (mCp σ 0 5) ρ (tn x) (tn c)) (tn y) (tn c)) n (sumI (cpyC (fetM (mCp σ 0 5) (tn x) (tn c)) (redM (mCp σ 0 5) ρ (tn x) (tn c)) (tn y)) (tn c)) σ)))], [((md 4), .inl (T 0, 48, .inl (if cpOkM x y c then redM (mCp σ 0 5) ρ (tn x) (tn c) else ρ)))]] (if iN x 32 && iN y 32 then (if iB c then (if tn x + tn c ≤ 32 ∧ tn y + tn c ≤ 32 then sumI (cpyC (fetM (mCp σ 0 5) (tn x) (tn c)) (redM (mCp σ 0 5) ρ (tn x) (tn c)) (tn y)) (tn c) else -1) else -2) else -1) A) ([.ref (md 0), .int (x), .int (y), .int (c)] : List Value).toArray s 0 0 A) (F0 mM 129 ls []) := by
                    intro n9
                    induction n9 with
                    | zero => intro k8 h1 h2; exact absurd h2 (by omega)
                    | succ n9 ih =>
                      intro k8 hk1 hk2 H locs hP hD hS ls hl
                      have hw9 := hww (tn y + k8)
                      refine lv_iload hx hb dX6_copyBlock_129 (lv_at hl 0 rfl) ?_
                      refine lv_iload_n hx hb dX6_copyBlock_131 rfl (lv_at hl 6 rfl) ?_
                      refine fr_val e_7 ?_
                      refine fr_icmp_ge (k8) (tn c) (by omega) (by omega) (tgt := 224) hx hb dX6_copyBlock_132 (by decide) (fun c_11 => ?_) (fun c_11 => ?_)
                      · have c_11' := Nat.not_lt.mpr c_11
                        obtain rfl : k8 = tn c := by omega
                        refine lv_aload_n hx hb dX6_copyBlock_224 rfl (lv_at hl 3 rfl) ?_
                        refine lv_iload hx hb dX6_copyBlock_225 (lv_at hl 1 rfl) ?_
                        refine fr_Vi (As := [.int (sumI (cpyC (fetM (mCp σ 0 5) (tn x) (tn c)) (redM (mCp σ 0 5) ρ (tn x) (tn c)) (tn y)) (tn c))]) (rest := []) (fs' := [[((md 0), .inr (6, [.ref (md 1), .int (nI (nAcc n (sumI (cpyC (fetM (mCp σ 0 5) (tn x) (tn c)) (redM (mCp σ 0 5) ρ (tn x) (tn c)) (tn y)) (tn c)))), .ref (md 2), .int (nI (len)), .int (nI (p)), .int (nI (le)), .ref (md 3), .ref (md 4)]))], [((md 1), .inl (T 0, 1872, .inl (mAcc (putM (fetM (mCp σ 0 5) (tn x) (tn c)) (redM (mCp σ 0 5) ρ (tn x) (tn c)) (tn y) (tn c)) n (sumI (cpyC (fetM (mCp σ 0 5) (tn x) (tn c)) (redM (mCp σ 0 5) ρ (tn x) (tn c)) (tn y)) (tn c)))))], [((md 4), .inl (T 0, 48, .inl (redM (mCp σ 0 5) ρ (tn x) (tn c))))]]) (ci := 6) (q0 := (RX6, TX6, 8)) (i0 := 0) ⟨hx, hb, hml, hown, hts⟩ (kX6_accepts l D T Z md n len p le (putM (fetM (mCp σ 0 5) (tn x) (tn c)) (redM (mCp σ 0 5) ρ (tn x) (tn c)) (tn y) (tn c)) (sumI (cpyC (fetM (mCp σ 0 5) (tn x) (tn c)) (redM (mCp σ 0 5) ρ (tn x) (tn c)) (tn y)) (tn c)) (by omega)) (cwV 1 hts gX6_copyBlock_X6_accepts rfl rfl rfl (by decide +kernel) ⟨Nat.le_of_ble_eq_true rfl, Nat.le_of_ble_eq_true rfl⟩) hK hN hM hP hD hS hA [0, 1] rfl rfl rfl rfl rfl rfl hl.1 rfl (Nat.le_of_ble_eq_true rfl) dX6_copyBlock_227 ⟨Nat.zero_le _, Nat.zero_le _⟩ (fun H locs hP hD hS => ?_)
                        exact fr_iret hx hb hr hlk hP hS (by first | with_reducible rfl | (simp only [mAS, mAN, cpOkM, decide_true, decide_false, decide_eq_true_eq, true_and, and_true, false_and, and_false, c_1, c_3, c_5, r_6, c_8, c_8', c_9, c_9', c_10, c_10', c_11, c_11', ↓reduceIte, Bool.false_eq_true, bI_true, bI_false, Bool.true_and, Bool.and_true, Bool.and_false, Bool.false_and, Bool.not_true, Bool.not_false, Bool.or_true, Bool.true_or, Bool.or_false, Bool.false_or] <;> with_reducible rfl) | (simp only [mAS, mAN, cpOkM, decide_true, decide_false, decide_eq_true_eq, true_and, and_true, false_and, and_false, c_1, c_3, c_5, r_6, c_8, c_8', c_9, c_9', c_10, c_10', c_11, c_11', ↓reduceIte, Bool.false_eq_true, bI_true, bI_false, Bool.true_and, Bool.and_true, Bool.and_false, Bool.false_and, Bool.not_true, Bool.not_false, Bool.or_true, Bool.true_or, Bool.or_false, Bool.false_or] <;> rfl) | (simp [mAS, mAN, cpOkM, decide_true, decide_false, decide_eq_true_eq, true_and, and_true, false_and, and_false, c_1, c_3, c_5, r_6, c_8, c_8', c_9, c_9', c_10, c_10', c_11, c_11', bI]; done)) (by first | with_reducible rfl | (simp only [mAS, mAN, cpOkM, decide_true, decide_false, decide_eq_true_eq, true_and, and_true, false_and, and_false, c_1, c_3, c_5, r_6, c_8, c_8', c_9, c_9', c_10, c_10', c_11, c_11', ↓reduceIte, Bool.false_eq_true, bI_true, bI_false, Bool.true_and, Bool.and_true, Bool.and_false, Bool.false_and, Bool.not_true, Bool.not_false, Bool.or_true, Bool.true_or, Bool.or_false, Bool.false_or] <;> with_reducible rfl) | (simp only [mAS, mAN, cpOkM, decide_true, decide_false, decide_eq_true_eq, true_and, and_true, false_and, and_false, c_1, c_3, c_5, r_6, c_8, c_8', c_9, c_9', c_10, c_10', c_11, c_11', ↓reduceIte, Bool.false_eq_true, bI_true, bI_false, Bool.true_and, Bool.and_true, Bool.and_false, Bool.false_and, Bool.not_true, Bool.not_false, Bool.or_true, Bool.true_or, Bool.or_false, Bool.false_or] <;> rfl) | (simp [mAS, mAN, cpOkM, decide_true, decide_false, decide_eq_true_eq, true_and, and_true, false_and, and_false, c_1, c_3, c_5, r_6, c_8, c_8', c_9, c_9', c_10, c_10', c_11, c_11', bI]; done)) dX6_copyBlock_230
                      · have c_11' := Nat.not_le.mpr c_11
                        refine lv_aload_n hx hb dX6_copyBlock_135 rfl (lv_at hl 3 rfl) ?_
                        refine lv_iload hx hb dX6_copyBlock_136 (lv_at hl 2 rfl) ?_
                        refine lv_iload_n hx hb dX6_copyBlock_138 rfl (lv_at hl 5 rfl) ?_
                        refine fr_val e_4 ?_
                        refine lv_iload hx hb dX6_copyBlock_139 (lv_at hl 0 rfl) ?_
                        refine fr_iadd (tn y) (k8) hx hb dX6_copyBlock_141 ?_
                        refine fr_S0 (As := [.int (nI 1560), .int (nI ((tn y + k8)))]) (rest := [.ref (md 0)]) ⟨hx, hb, hml, hown, hts⟩ (kX6_wordAt l D T Z 1560 (tn y + k8)) (va_cwS 2 hts gX6_copyBlock_X6_wordAt rfl rfl rfl (by decide +kernel) ⟨Nat.le_of_ble_eq_true rfl, Nat.le_of_ble_eq_true rfl⟩) hK hN hM hP hD hS hA rfl hl.1 rfl (Nat.le_of_ble_eq_true rfl) dX6_copyBlock_142 ⟨Nat.zero_le _, Nat.zero_le _⟩ (fun H locs hP hD hS => ?_)
                        refine lv_aload_n hx hb dX6_copyBlock_145 rfl (lv_at hl 3 rfl) ?_
                        refine va_get (D := D) (ci := 6) (v := .ref (md 4)) (C := RX6) (T := TX6) (N := 8) hx hb hts hinX6 hown hK (hP.at 0 rfl) 0 rfl rfl 7 (by decide) w_19 (fun _ h9 => h9) rfl dX6_copyBlock_146 ?_
                        refine lv_iconst (v := nI 3) hx hb dX6_copyBlock_149 (by decide) ?_
                        refine lv_iload hx hb dX6_copyBlock_150 (lv_at hl 0 rfl) ?_
                        refine fr_imul (3) (k8) hx hb dX6_copyBlock_152 ?_
                        refine fr_iald hx hb hK hP 2 ((3 * k8)) rfl (by omega) (by omega) dX6_copyBlock_153 ?_
                        refine lv_aload_n hx hb dX6_copyBlock_154 rfl (lv_at hl 3 rfl) ?_
                        refine va_get (D := D) (ci := 6) (v := .ref (md 4)) (C := RX6) (T := TX6) (N := 8) hx hb hts hinX6 hown hK (hP.at 0 rfl) 0 rfl rfl 7 (by decide) w_19 (fun _ h9 => h9) rfl dX6_copyBlock_155 ?_
                        refine lv_iconst (v := nI 3) hx hb dX6_copyBlock_158 (by decide) ?_
                        refine lv_iload hx hb dX6_copyBlock_159 (lv_at hl 0 rfl) ?_
                        refine fr_imul (3) (k8) hx hb dX6_copyBlock_161 ?_
                        refine lv_iconst (v := nI 1) hx hb dX6_copyBlock_162 (by decide) ?_
                        refine fr_iadd ((3 * k8)) (1) hx hb dX6_copyBlock_163 ?_
                        refine fr_iald hx hb hK hP 2 (((3 * k8) + 1)) rfl (by omega) (by omega) dX6_copyBlock_164 ?_
                        refine lv_aload_n hx hb dX6_copyBlock_165 rfl (lv_at hl 3 rfl) ?_
                        refine va_get (D := D) (ci := 6) (v := .ref (md 4)) (C := RX6) (T := TX6) (N := 8) hx hb hts hinX6 hown hK (hP.at 0 rfl) 0 rfl rfl 7 (by decide) w_19 (fun _ h9 => h9) rfl dX6_copyBlock_166 ?_
                        refine lv_iconst (v := nI 3) hx hb dX6_copyBlock_169 (by decide) ?_
                        refine lv_iload hx hb dX6_copyBlock_170 (lv_at hl 0 rfl) ?_
                        refine fr_imul (3) (k8) hx hb dX6_copyBlock_172 ?_
                        refine lv_iconst (v := nI 2) hx hb dX6_copyBlock_173 (by decide) ?_
                        refine fr_iadd ((3 * k8)) (2) hx hb dX6_copyBlock_174 ?_
                        refine fr_iald hx hb hK hP 2 (((3 * k8) + 2)) rfl (by omega) (by omega) dX6_copyBlock_175 ?_
                        refine fr_S0 (As := [.int ((redM (mCp σ 0 5) ρ (tn x) (tn c)) ((3 * k8) + 2))]) (rest := [.int ((redM (mCp σ 0 5) ρ (tn x) (tn c)) ((3 * k8) + 1)), .int ((redM (mCp σ 0 5) ρ (tn x) (tn c)) (3 * k8)), .int (nI (wdt 1560 (tn y + k8))), .ref (md 0)]) ⟨hx, hb, hml, hown, hts⟩ (kX6_more l D T Z ((redM (mCp σ 0 5) ρ (tn x) (tn c)) ((3 * k8) + 2))) (va_cwS 1 hts gX6_copyBlock_X6_more rfl rfl rfl (by decide +kernel) ⟨Nat.le_of_ble_eq_true rfl, Nat.le_of_ble_eq_true rfl⟩) hK hN hM hP hD hS hA rfl hl.1 rfl (Nat.le_of_ble_eq_true rfl) dX6_copyBlock_176 ⟨Nat.zero_le _, Nat.zero_le _⟩ (fun H locs hP hD hS => ?_)
                        refine fr_Vv (As := [.int (nI (wdt 1560 (tn y + k8))), .int ((redM (mCp σ 0 5) ρ (tn x) (tn c)) (3 * k8)), .int ((redM (mCp σ 0 5) ρ (tn x) (tn c)) ((3 * k8) + 1)), .int (mor ((redM (mCp σ 0 5) ρ (tn x) (tn c)) ((3 * k8) + 2)))]) (rest := []) (fs' := [[((md 0), .inr (6, [.ref (md 1), .int (nI (n)), .ref (md 2), .int (nI (len)), .int (nI (p)), .int (nI (le)), .ref (md 3), .ref (md 4)]))], [((md 1), .inl (T 0, 1872, .inl (lay (putM (fetM (mCp σ 0 5) (tn x) (tn c)) (redM (mCp σ 0 5) ρ (tn x) (tn c)) (tn y) k8) (wdt 1560 (tn y + k8)) ((redM (mCp σ 0 5) ρ (tn x) (tn c)) (3 * k8)) ((redM (mCp σ 0 5) ρ (tn x) (tn c)) ((3 * k8) + 1)) (mor ((redM (mCp σ 0 5) ρ (tn x) (tn c)) ((3 * k8) + 2))))))], [((md 4), .inl (T 0, 48, .inl (redM (mCp σ 0 5) ρ (tn x) (tn c))))]]) (ci := 6) (q0 := (RX6, TX6, 8)) (i0 := 0) ⟨hx, hb, hml, hown, hts⟩ (kX6_lays l D T Z md n len p le (putM (fetM (mCp σ 0 5) (tn x) (tn c)) (redM (mCp σ 0 5) ρ (tn x) (tn c)) (tn y) k8) (wdt 1560 (tn y + k8)) ((redM (mCp σ 0 5) ρ (tn x) (tn c)) (3 * k8)) ((redM (mCp σ 0 5) ρ (tn x) (tn c)) ((3 * k8) + 1)) (mor ((redM (mCp σ 0 5) ρ (tn x) (tn c)) ((3 * k8) + 2))) (by omega)) (cwV 4 hts gX6_copyBlock_X6_lays rfl rfl rfl (by decide +kernel) ⟨Nat.le_of_ble_eq_true rfl, Nat.le_of_ble_eq_true rfl⟩) hK hN hM hP hD hS hA [0, 1] rfl rfl rfl rfl rfl rfl hl.1 rfl (Nat.le_of_ble_eq_true rfl) dX6_copyBlock_179 ⟨Nat.zero_le _, Nat.zero_le _⟩ (fun H locs hP hD hS => ?_)
                        refine lv_aload_n hx hb dX6_copyBlock_182 rfl (lv_at hl 3 rfl) ?_
                        refine lv_iload hx hb dX6_copyBlock_183 (lv_at hl 2 rfl) ?_
                        refine lv_iload_n hx hb dX6_copyBlock_185 rfl (lv_at hl 5 rfl) ?_
                        refine fr_val e_4 ?_
                        refine lv_iload hx hb dX6_copyBlock_186 (lv_at hl 0 rfl) ?_
                        refine fr_iadd (tn y) (k8) hx hb dX6_copyBlock_188 ?_
                        refine fr_Vv (As := [.int (nI 1560), .int (nI ((tn y + k8)))]) (rest := []) (fs' := [[((md 0), .inr (6, [.ref (md 1), .int (nI (n)), .ref (md 2), .int (nI (len)), .int (nI (p)), .int (nI (le)), .ref (md 3), .ref (md 4)]))], [((md 1), .inl (T 0, 1872, .inl (mWr (lay (putM (fetM (mCp σ 0 5) (tn x) (tn c)) (redM (mCp σ 0 5) ρ (tn x) (tn c)) (tn y) k8) (wdt 1560 (tn y + k8)) ((redM (mCp σ 0 5) ρ (tn x) (tn c)) (3 * k8)) ((redM (mCp σ 0 5) ρ (tn x) (tn c)) ((3 * k8) + 1)) (mor ((redM (mCp σ 0 5) ρ (tn x) (tn c)) ((3 * k8) + 2)))) 1560 (tn y + k8))))], [((md 4), .inl (T 0, 48, .inl (redM (mCp σ 0 5) ρ (tn x) (tn c))))]]) (ci := 6) (q0 := (RX6, TX6, 8)) (i0 := 0) ⟨hx, hb, hml, hown, hts⟩ (kX6_written l D T Z md n len p le (lay (putM (fetM (mCp σ 0 5) (tn x) (tn c)) (redM (mCp σ 0 5) ρ (tn x) (tn c)) (tn y) k8) (wdt 1560 (tn y + k8)) ((redM (mCp σ 0 5) ρ (tn x) (tn c)) (3 * k8)) ((redM (mCp σ 0 5) ρ (tn x) (tn c)) ((3 * k8) + 1)) (mor ((redM (mCp σ 0 5) ρ (tn x) (tn c)) ((3 * k8) + 2)))) 1560 (tn y + k8) (by decide) (by omega)) (cwV 2 hts gX6_copyBlock_X6_written rfl rfl rfl (by decide +kernel) ⟨Nat.le_of_ble_eq_true rfl, Nat.le_of_ble_eq_true rfl⟩) hK hN hM hP hD hS hA [0, 1] rfl rfl rfl rfl rfl rfl hl.1 rfl (Nat.le_of_ble_eq_true rfl) dX6_copyBlock_189 ⟨Nat.zero_le _, Nat.zero_le _⟩ (fun H locs hP hD hS => ?_)
                        refine lv_iload hx hb dX6_copyBlock_192 (lv_at hl 1 rfl) ?_
                        refine lv_aload_n hx hb dX6_copyBlock_194 rfl (lv_at hl 3 rfl) ?_
                        refine lv_iload hx hb dX6_copyBlock_195 (lv_at hl 2 rfl) ?_
                        refine lv_iload_n hx hb dX6_copyBlock_197 rfl (lv_at hl 5 rfl) ?_
                        refine fr_val e_4 ?_
                        refine lv_iload hx hb dX6_copyBlock_198 (lv_at hl 0 rfl) ?_
                        refine fr_iadd (tn y) (k8) hx hb dX6_copyBlock_200 ?_
                        refine fr_S0 (As := [.int (nI 1560), .int (nI ((tn y + k8)))]) (rest := [.ref (md 0), .int (sumI (cpyC (fetM (mCp σ 0 5) (tn x) (tn c)) (redM (mCp σ 0 5) ρ (tn x) (tn c)) (tn y)) k8)]) ⟨hx, hb, hml, hown, hts⟩ (kX6_wordAt l D T Z 1560 (tn y + k8)) (va_cwS 2 hts gX6_copyBlock_X6_wordAt rfl rfl rfl (by decide +kernel) ⟨Nat.le_of_ble_eq_true rfl, Nat.le_of_ble_eq_true rfl⟩) hK hN hM hP hD hS hA rfl hl.1 rfl (Nat.le_of_ble_eq_true rfl) dX6_copyBlock_201 ⟨Nat.zero_le _, Nat.zero_le _⟩ (fun H locs hP hD hS => ?_)
                        refine fr_Vi (As := [.int (nI (wdt 1560 (tn y + k8)))]) (rest := [.int (sumI (cpyC (fetM (mCp σ 0 5) (tn x) (tn c)) (redM (mCp σ 0 5) ρ (tn x) (tn c)) (tn y)) k8)]) (fs' := [[((md 0), .inr (6, [.ref (md 1), .int (nI (n)), .ref (md 2), .int (nI (len)), .int (nI (p)), .int (nI (le)), .ref (md 3), .ref (md 4)]))], [((md 1), .inl (T 0, 1872, .inl (mWr (lay (putM (fetM (mCp σ 0 5) (tn x) (tn c)) (redM (mCp σ 0 5) ρ (tn x) (tn c)) (tn y) k8) (wdt 1560 (tn y + k8)) ((redM (mCp σ 0 5) ρ (tn x) (tn c)) (3 * k8)) ((redM (mCp σ 0 5) ρ (tn x) (tn c)) ((3 * k8) + 1)) (mor ((redM (mCp σ 0 5) ρ (tn x) (tn c)) ((3 * k8) + 2)))) 1560 (tn y + k8))))], [((md 4), .inl (T 0, 48, .inl (redM (mCp σ 0 5) ρ (tn x) (tn c))))]]) (ci := 6) (q0 := (RX6, TX6, 8)) (i0 := 0) ⟨hx, hb, hml, hown, hts⟩ (kX6_isPoisoned l D T Z md n len p le (mWr (lay (putM (fetM (mCp σ 0 5) (tn x) (tn c)) (redM (mCp σ 0 5) ρ (tn x) (tn c)) (tn y) k8) (wdt 1560 (tn y + k8)) ((redM (mCp σ 0 5) ρ (tn x) (tn c)) (3 * k8)) ((redM (mCp σ 0 5) ρ (tn x) (tn c)) ((3 * k8) + 1)) (mor ((redM (mCp σ 0 5) ρ (tn x) (tn c)) ((3 * k8) + 2)))) 1560 (tn y + k8)) (wdt 1560 (tn y + k8)) (by omega)) (cwV 1 hts gX6_copyBlock_X6_isPoisoned rfl rfl rfl (by decide +kernel) ⟨Nat.le_of_ble_eq_true rfl, Nat.le_of_ble_eq_true rfl⟩) hK hN hM hP hD hS hA [0, 1] rfl rfl rfl rfl rfl rfl hl.1 rfl (Nat.le_of_ble_eq_true rfl) dX6_copyBlock_204 ⟨Nat.zero_le _, Nat.zero_le _⟩ (fun H locs hP hD hS => ?_)
                        refine fr_ifeq_b (tgt := 214) hx hb dX6_copyBlock_207 (by decide) (fun c_12 => ?_) (fun c_12 => ?_)
                        · refine lv_iconst (v := nI 0) hx hb dX6_copyBlock_214 (by decide) ?_
                          refine lv_iadd hx hb dX6_copyBlock_215 ?_
                          refine lv_istore (lv' := [(5, .int ((sumI (cpyC (fetM (mCp σ 0 5) (tn x) (tn c)) (redM (mCp σ 0 5) ρ (tn x) (tn c)) (tn y)) k8) + (nI 0))), (6, .int (nI (k8))), (4, .int (nI 1560)), (0, .ref (md 0)), (1, .int (x)), (2, .int (y)), (3, .int (c))]) hx hb dX6_copyBlock_216 hl (by decide) rfl (fun ls hl => ?_)
                          refine fr_iinc (k8) ((k8 + 1)) (nI_inc _) (lv' := [(6, .int (nI ((k8 + 1)))), (5, .int ((sumI (cpyC (fetM (mCp σ 0 5) (tn x) (tn c)) (redM (mCp σ 0 5) ρ (tn x) (tn c)) (tn y)) k8) + (nI 0))), (4, .int (nI 1560)), (0, .ref (md 0)), (1, .int (x)), (2, .int (y)), (3, .int (c))]) (k := 1) hx hb dX6_copyBlock_218 hl rfl (by decide) rfl (fun ls hl => ?_)
                          refine lv_goto (tgt := 129) hx hb dX6_copyBlock_221 (by decide) ?_
                          have q_13 : ((sumI (cpyC (fetM (mCp σ 0 5) (tn x) (tn c)) (redM (mCp σ 0 5) ρ (tn x) (tn c)) (tn y)) k8) + (nI 0) : Int32) = sumI (cpyC (fetM (mCp σ 0 5) (tn x) (tn c)) (redM (mCp σ 0 5) ρ (tn x) (tn c)) (tn y)) (k8 + 1) := (by first | with_reducible rfl | (simp only [sumI, cpyC, putM, mAS, mAN, cpOkM, decide_true, decide_false, decide_eq_true_eq, true_and, and_true, false_and, and_false, c_1, c_3, c_5, r_6, c_8, c_8', c_9, c_9', c_10, c_10', c_11, c_11', c_12, ↓reduceIte, Bool.false_eq_true, bI_true, bI_false, Bool.true_and, Bool.and_true, Bool.and_false, Bool.false_and, Bool.not_true, Bool.not_false, Bool.or_true, Bool.true_or, Bool.or_false, Bool.false_or] <;> with_reducible rfl) | (simp only [sumI, cpyC, mAS, mAN, cpOkM, decide_true, decide_false, decide_eq_true_eq, true_and, and_true, false_and, and_false, c_1, c_3, c_5, r_6, c_8, c_8', c_9, c_9', c_10, c_10', c_11, c_11', c_12, ↓reduceIte, Bool.false_eq_true, bI_true, bI_false, Bool.true_and, Bool.and_true, Bool.and_false, Bool.false_and, Bool.not_true, Bool.not_false, Bool.or_true, Bool.true_or, Bool.or_false, Bool.false_or] <;> rfl) | rfl)
                          rw [q_13] at hl
                          have q_14 : ([[((md 0), .inr (6, [.ref (md 1), .int (nI (n)), .ref (md 2), .int (nI (len)), .int (nI (p)), .int (nI (le)), .ref (md 3), .ref (md 4)]))], [((md 1), .inl (T 0, 1872, .inl (mWr (lay (putM (fetM (mCp σ 0 5) (tn x) (tn c)) (redM (mCp σ 0 5) ρ (tn x) (tn c)) (tn y) k8) (wdt 1560 (tn y + k8)) ((redM (mCp σ 0 5) ρ (tn x) (tn c)) (3 * k8)) ((redM (mCp σ 0 5) ρ (tn x) (tn c)) ((3 * k8) + 1)) (mor ((redM (mCp σ 0 5) ρ (tn x) (tn c)) ((3 * k8) + 2)))) 1560 (tn y + k8))))], [((md 4), .inl (T 0, 48, .inl (redM (mCp σ 0 5) ρ (tn x) (tn c))))]] : List va_W) = [[((md 0), .inr (6, [.ref (md 1), .int (nI (n)), .ref (md 2), .int (nI (len)), .int (nI (p)), .int (nI (le)), .ref (md 3), .ref (md 4)]))], [((md 1), .inl (T 0, 1872, .inl (putM (fetM (mCp σ 0 5) (tn x) (tn c)) (redM (mCp σ 0 5) ρ (tn x) (tn c)) (tn y) (k8 + 1))))], [((md 4), .inl (T 0, 48, .inl (redM (mCp σ 0 5) ρ (tn x) (tn c))))]] := (by first | with_reducible rfl | (simp only [sumI, cpyC, putM, mAS, mAN, cpOkM, decide_true, decide_false, decide_eq_true_eq, true_and, and_true, false_and, and_false, c_1, c_3, c_5, r_6, c_8, c_8', c_9, c_9', c_10, c_10', c_11, c_11', c_12, ↓reduceIte, Bool.false_eq_true, bI_true, bI_false, Bool.true_and, Bool.and_true, Bool.and_false, Bool.false_and, Bool.not_true, Bool.not_false, Bool.or_true, Bool.true_or, Bool.or_false, Bool.false_or] <;> with_reducible rfl) | (simp only [sumI, cpyC, mAS, mAN, cpOkM, decide_true, decide_false, decide_eq_true_eq, true_and, and_true, false_and, and_false, c_1, c_3, c_5, r_6, c_8, c_8', c_9, c_9', c_10, c_10', c_11, c_11', c_12, ↓reduceIte, Bool.false_eq_true, bI_true, bI_false, Bool.true_and, Bool.and_true, Bool.and_false, Bool.false_and, Bool.not_true, Bool.not_false, Bool.or_true, Bool.true_or, Bool.or_false, Bool.false_or] <;> rfl) | rfl)
                          rw [q_14] at hP hD
                          exact ih  ((k8 + 1)) (by omega) (by omega) H locs hP hD hS ls (lv_sub hl [0, 1, 2, 3, 4, 5, 6] rfl)
                        · refine lv_iconst (v := nI 1) hx hb dX6_copyBlock_210 (by decide) ?_
                          refine lv_goto (tgt := 215) hx hb dX6_copyBlock_211 (by decide) ?_
                          refine lv_iadd hx hb dX6_copyBlock_215 ?_
                          refine lv_istore (lv' := [(5, .int ((sumI (cpyC (fetM (mCp σ 0 5) (tn x) (tn c)) (redM (mCp σ 0 5) ρ (tn x) (tn c)) (tn y)) k8) + (nI 1))), (6, .int (nI (k8))), (4, .int (nI 1560)), (0, .ref (md 0)), (1, .int (x)), (2, .int (y)), (3, .int (c))]) hx hb dX6_copyBlock_216 hl (by decide) rfl (fun ls hl => ?_)
                          refine fr_iinc (k8) ((k8 + 1)) (nI_inc _) (lv' := [(6, .int (nI ((k8 + 1)))), (5, .int ((sumI (cpyC (fetM (mCp σ 0 5) (tn x) (tn c)) (redM (mCp σ 0 5) ρ (tn x) (tn c)) (tn y)) k8) + (nI 1))), (4, .int (nI 1560)), (0, .ref (md 0)), (1, .int (x)), (2, .int (y)), (3, .int (c))]) (k := 1) hx hb dX6_copyBlock_218 hl rfl (by decide) rfl (fun ls hl => ?_)
                          refine lv_goto (tgt := 129) hx hb dX6_copyBlock_221 (by decide) ?_
                          have q_15 : ((sumI (cpyC (fetM (mCp σ 0 5) (tn x) (tn c)) (redM (mCp σ 0 5) ρ (tn x) (tn c)) (tn y)) k8) + (nI 1) : Int32) = sumI (cpyC (fetM (mCp σ 0 5) (tn x) (tn c)) (redM (mCp σ 0 5) ρ (tn x) (tn c)) (tn y)) (k8 + 1) := (by first | with_reducible rfl | (simp only [sumI, cpyC, putM, mAS, mAN, cpOkM, decide_true, decide_false, decide_eq_true_eq, true_and, and_true, false_and, and_false, c_1, c_3, c_5, r_6, c_8, c_8', c_9, c_9', c_10, c_10', c_11, c_11', c_12, ↓reduceIte, Bool.false_eq_true, bI_true, bI_false, Bool.true_and, Bool.and_true, Bool.and_false, Bool.false_and, Bool.not_true, Bool.not_false, Bool.or_true, Bool.true_or, Bool.or_false, Bool.false_or] <;> with_reducible rfl) | (simp only [sumI, cpyC, mAS, mAN, cpOkM, decide_true, decide_false, decide_eq_true_eq, true_and, and_true, false_and, and_false, c_1, c_3, c_5, r_6, c_8, c_8', c_9, c_9', c_10, c_10', c_11, c_11', c_12, ↓reduceIte, Bool.false_eq_true, bI_true, bI_false, Bool.true_and, Bool.and_true, Bool.and_false, Bool.false_and, Bool.not_true, Bool.not_false, Bool.or_true, Bool.true_or, Bool.or_false, Bool.false_or] <;> rfl) | rfl)
                          rw [q_15] at hl
                          have q_16 : ([[((md 0), .inr (6, [.ref (md 1), .int (nI (n)), .ref (md 2), .int (nI (len)), .int (nI (p)), .int (nI (le)), .ref (md 3), .ref (md 4)]))], [((md 1), .inl (T 0, 1872, .inl (mWr (lay (putM (fetM (mCp σ 0 5) (tn x) (tn c)) (redM (mCp σ 0 5) ρ (tn x) (tn c)) (tn y) k8) (wdt 1560 (tn y + k8)) ((redM (mCp σ 0 5) ρ (tn x) (tn c)) (3 * k8)) ((redM (mCp σ 0 5) ρ (tn x) (tn c)) ((3 * k8) + 1)) (mor ((redM (mCp σ 0 5) ρ (tn x) (tn c)) ((3 * k8) + 2)))) 1560 (tn y + k8))))], [((md 4), .inl (T 0, 48, .inl (redM (mCp σ 0 5) ρ (tn x) (tn c))))]] : List va_W) = [[((md 0), .inr (6, [.ref (md 1), .int (nI (n)), .ref (md 2), .int (nI (len)), .int (nI (p)), .int (nI (le)), .ref (md 3), .ref (md 4)]))], [((md 1), .inl (T 0, 1872, .inl (putM (fetM (mCp σ 0 5) (tn x) (tn c)) (redM (mCp σ 0 5) ρ (tn x) (tn c)) (tn y) (k8 + 1))))], [((md 4), .inl (T 0, 48, .inl (redM (mCp σ 0 5) ρ (tn x) (tn c))))]] := (by first | with_reducible rfl | (simp only [sumI, cpyC, putM, mAS, mAN, cpOkM, decide_true, decide_false, decide_eq_true_eq, true_and, and_true, false_and, and_false, c_1, c_3, c_5, r_6, c_8, c_8', c_9, c_9', c_10, c_10', c_11, c_11', c_12, ↓reduceIte, Bool.false_eq_true, bI_true, bI_false, Bool.true_and, Bool.and_true, Bool.and_false, Bool.false_and, Bool.not_true, Bool.not_false, Bool.or_true, Bool.true_or, Bool.or_false, Bool.false_or] <;> with_reducible rfl) | (simp only [sumI, cpyC, mAS, mAN, cpOkM, decide_true, decide_false, decide_eq_true_eq, true_and, and_true, false_and, and_false, c_1, c_3, c_5, r_6, c_8, c_8', c_9, c_9', c_10, c_10', c_11, c_11', c_12, ↓reduceIte, Bool.false_eq_true, bI_true, bI_false, Bool.true_and, Bool.and_true, Bool.and_false, Bool.false_and, Bool.not_true, Bool.not_false, Bool.or_true, Bool.true_or, Bool.or_false, Bool.false_or] <;> rfl) | rfl)
                          rw [q_16] at hP hD
                          exact ih  ((k8 + 1)) (by omega) (by omega) H locs hP hD hS ls (lv_sub hl [0, 1, 2, 3, 4, 5, 6] rfl)
                  have q_17 : (nI 0 : Int32) = sumI (cpyC (fetM (mCp σ 0 5) (tn x) (tn c)) (redM (mCp σ 0 5) ρ (tn x) (tn c)) (tn y)) 0 := (by first | contradiction | with_reducible rfl | (simp only [mAS, mAN, cpOkM, decide_true, decide_false, decide_eq_true_eq, true_and, and_true, false_and, and_false, c_1, c_3, c_5, r_6, c_8, c_8', c_9, c_9', c_10, c_10', ↓reduceIte, Bool.false_eq_true, bI_true, bI_false, Bool.true_and, Bool.and_true, Bool.and_false, Bool.false_and, Bool.not_true, Bool.not_false, Bool.or_true, Bool.true_or, Bool.or_false, Bool.false_or] <;> with_reducible rfl) | (simp only [mAS, mAN, cpOkM, decide_true, decide_false, decide_eq_true_eq, true_and, and_true, false_and, and_false, c_1, c_3, c_5, r_6, c_8, c_8', c_9, c_9', c_10, c_10', ↓reduceIte, Bool.false_eq_true, bI_true, bI_false, Bool.true_and, Bool.and_true, Bool.and_false, Bool.false_and, Bool.not_true, Bool.not_false, Bool.or_true, Bool.true_or, Bool.or_false, Bool.false_or] <;> rfl) | rfl | (simp [mAS, mAN, cpOkM, decide_true, decide_false, decide_eq_true_eq, true_and, and_true, false_and, and_false, c_1, c_3, c_5, r_6, c_8, c_8', c_9, c_9', c_10, c_10']; done))
                  rw [q_17] at hl
                  have q_18 : ([[((md 0), .inr (6, [.ref (md 1), .int (nI (n)), .ref (md 2), .int (nI (len)), .int (nI (p)), .int (nI (le)), .ref (md 3), .ref (md 4)]))], [((md 1), .inl (T 0, 1872, .inl (fetM (mCp σ 0 5) (tn x) (tn c))))], [((md 4), .inl (T 0, 48, .inl (redM (mCp σ 0 5) ρ (tn x) (tn c))))]] : List va_W) = [[((md 0), .inr (6, [.ref (md 1), .int (nI (n)), .ref (md 2), .int (nI (len)), .int (nI (p)), .int (nI (le)), .ref (md 3), .ref (md 4)]))], [((md 1), .inl (T 0, 1872, .inl (putM (fetM (mCp σ 0 5) (tn x) (tn c)) (redM (mCp σ 0 5) ρ (tn x) (tn c)) (tn y) 0)))], [((md 4), .inl (T 0, 48, .inl (redM (mCp σ 0 5) ρ (tn x) (tn c))))]] := (by first | contradiction | with_reducible rfl | (simp only [mAS, mAN, cpOkM, decide_true, decide_false, decide_eq_true_eq, true_and, and_true, false_and, and_false, c_1, c_3, c_5, r_6, c_8, c_8', c_9, c_9', c_10, c_10', ↓reduceIte, Bool.false_eq_true, bI_true, bI_false, Bool.true_and, Bool.and_true, Bool.and_false, Bool.false_and, Bool.not_true, Bool.not_false, Bool.or_true, Bool.true_or, Bool.or_false, Bool.false_or] <;> with_reducible rfl) | (simp only [mAS, mAN, cpOkM, decide_true, decide_false, decide_eq_true_eq, true_and, and_true, false_and, and_false, c_1, c_3, c_5, r_6, c_8, c_8', c_9, c_9', c_10, c_10', ↓reduceIte, Bool.false_eq_true, bI_true, bI_false, Bool.true_and, Bool.and_true, Bool.and_false, Bool.false_and, Bool.not_true, Bool.not_false, Bool.or_true, Bool.true_or, Bool.or_false, Bool.false_or] <;> rfl) | rfl | (simp [mAS, mAN, cpOkM, decide_true, decide_false, decide_eq_true_eq, true_and, and_true, false_and, and_false, c_1, c_3, c_5, r_6, c_8, c_8', c_9, c_9', c_10, c_10']; done))
                  rw [q_18] at hP hD
                  exact loop129 (tn c + 1) (0) (by omega) (by omega) _ _ hP hD hS ls (lv_sub hl [0, 1, 2, 3, 4, 5, 6] rfl)
                · have c_10' := Nat.not_le.mpr c_10
                  refine lv_aload_n hx hb dX6_copyBlock_62 rfl (lv_at hl 2 rfl) ?_
                  refine lv_iload hx hb dX6_copyBlock_63 (lv_at hl 1 rfl) ?_
                  refine lv_iload_n hx hb dX6_copyBlock_65 rfl (lv_at hl 3 rfl) ?_
                  refine fr_val e_2 ?_
                  refine lv_iload hx hb dX6_copyBlock_66 (lv_at hl 0 rfl) ?_
                  refine fr_iadd (tn x) (k9) hx hb dX6_copyBlock_68 ?_
                  refine fr_Vi (As := [.int (nI 1560), .int (nI ((tn x + k9)))]) (rest := []) (fs' := [[((md 0), .inr (6, [.ref (md 1), .int (nI (n)), .ref (md 2), .int (nI (len)), .int (nI (p)), .int (nI (le)), .ref (md 3), .ref (md 4)]))], [((md 1), .inl (T 0, 1872, .inl (mFe (fetM (mCp σ 0 5) (tn x) k9) 1560 (tn x + k9))))], [((md 4), .inl (T 0, 48, .inl (redM (mCp σ 0 5) ρ (tn x) k9)))]]) (ci := 6) (q0 := (RX6, TX6, 8)) (i0 := 0) ⟨hx, hb, hml, hown, hts⟩ (kX6_fetches l D T Z md n len p le (fetM (mCp σ 0 5) (tn x) k9) 1560 (tn x + k9) (by decide) (by omega)) (cwV 2 hts gX6_copyBlock_X6_fetches rfl rfl rfl (by decide +kernel) ⟨Nat.le_of_ble_eq_true rfl, Nat.le_of_ble_eq_true rfl⟩) hK hN hM hP hD hS hA [0, 1] rfl rfl rfl rfl rfl rfl hl.1 rfl (Nat.le_of_ble_eq_true rfl) dX6_copyBlock_69 ⟨Nat.zero_le _, Nat.zero_le _⟩ (fun H locs hP hD hS => ?_)
                  refine lv_pop hx hb dX6_copyBlock_72 rfl ?_
                  refine lv_iconst (v := nI 0) hx hb dX6_copyBlock_73 (by decide) ?_
                  refine lv_istore (lv' := [(6, .int (nI 0)), (5, .int (nI (k9))), (4, .int (nI 1560)), (0, .ref (md 0)), (1, .int (x)), (2, .int (y)), (3, .int (c))]) hx hb dX6_copyBlock_74 hl (by decide) rfl (fun ls hl => ?_)
                  refine lv_iload hx hb dX6_copyBlock_76 (lv_at hl 0 rfl) ?_
                  refine lv_iconst (v := nI 3) hx hb dX6_copyBlock_78 (by decide) ?_
                  refine fr_icmp_ge 0 3 (by decide) (by decide) (tgt := 117) hx hb dX6_copyBlock_79 (by decide) (fun z => absurd z (by decide)) (fun _ => ?_)
                  refine lv_aload_n hx hb dX6_copyBlock_82 rfl (lv_at hl 3 rfl) ?_
                  refine va_get (D := D) (ci := 6) (v := .ref (md 4)) (C := RX6) (T := TX6) (N := 8) hx hb hts hinX6 hown hK (hP.at 0 rfl) 0 rfl rfl 7 (by decide) w_19 (fun _ h9 => h9) rfl dX6_copyBlock_83 ?_
                  refine lv_iconst (v := nI 3) hx hb dX6_copyBlock_86 (by decide) ?_
                  refine lv_iload hx hb dX6_copyBlock_87 (lv_at hl 1 rfl) ?_
                  refine fr_imul (3) (k9) hx hb dX6_copyBlock_89 ?_
                  refine lv_iload hx hb dX6_copyBlock_90 (lv_at hl 0 rfl) ?_
                  refine fr_iadd ((3 * k9)) (0) hx hb dX6_copyBlock_92 ?_
                  refine lv_aload_n hx hb dX6_copyBlock_93 rfl (lv_at hl 3 rfl) ?_
                  refine va_get (D := D) (ci := 6) (v := .ref (md 1)) (C := RX6) (T := TX6) (N := 8) hx hb hts hinX6 hown hK (hP.at 0 rfl) 0 rfl rfl 0 (by decide) w_7 (fun _ h9 => h9) rfl dX6_copyBlock_94 ?_
                  refine lv_iload hx hb dX6_copyBlock_97 (lv_at hl 2 rfl) ?_
                  refine lv_iload_n hx hb dX6_copyBlock_99 rfl (lv_at hl 4 rfl) ?_
                  refine fr_val e_2 ?_
                  refine lv_iload hx hb dX6_copyBlock_100 (lv_at hl 1 rfl) ?_
                  refine fr_iadd (tn x) (k9) hx hb dX6_copyBlock_102 ?_
                  refine fr_S0 (As := [.int (nI 1560), .int (nI ((tn x + k9)))]) (rest := [.ref (md 1), .int (nI (((3 * k9) + 0))), .ref (md 4)]) ⟨hx, hb, hml, hown, hts⟩ (kX6_wordAt l D T Z 1560 (tn x + k9)) (va_cwS 2 hts gX6_copyBlock_X6_wordAt rfl rfl rfl (by decide +kernel) ⟨Nat.le_of_ble_eq_true rfl, Nat.le_of_ble_eq_true rfl⟩) hK hN hM hP hD hS hA rfl hl.1 rfl (Nat.le_of_ble_eq_true rfl) dX6_copyBlock_103 ⟨Nat.zero_le _, Nat.zero_le _⟩ (fun H locs hP hD hS => ?_)
                  refine lv_iload hx hb dX6_copyBlock_106 (lv_at hl 0 rfl) ?_
                  refine fr_iadd (wdt 1560 (tn x + k9)) (0) hx hb dX6_copyBlock_108 ?_
                  refine fr_iald hx hb hK hP 1 ((wdt 1560 (tn x + k9) + 0)) rfl (by omega) (by omega) dX6_copyBlock_109 ?_
                  refine fr_iast (fs' := [[((md 0), .inr (6, [.ref (md 1), .int (nI (n)), .ref (md 2), .int (nI (len)), .int (nI (p)), .int (nI (le)), .ref (md 3), .ref (md 4)]))], [((md 1), .inl (T 0, 1872, .inl (mFe (fetM (mCp σ 0 5) (tn x) k9) 1560 (tn x + k9))))], [((md 4), .inl (T 0, 48, .inl (upd (redM (mCp σ 0 5) ρ (tn x) k9) ((3 * k9) + 0) ((mFe (fetM (mCp σ 0 5) (tn x) k9) 1560 (tn x + k9)) (wdt 1560 (tn x + k9) + 0)))))]]) hx hb hK hP hD hS 2 (((3 * k9) + 0)) rfl rfl (by omega) (by omega) dX6_copyBlock_110 (fun H locs hP hD hS => ?_)
                  refine fr_iinc (0) (1) (nI_inc _) (lv' := [(6, .int (nI 1)), (5, .int (nI (k9))), (4, .int (nI 1560)), (0, .ref (md 0)), (1, .int (x)), (2, .int (y)), (3, .int (c))]) (k := 0) hx hb dX6_copyBlock_111 hl rfl (by decide) rfl (fun ls hl => ?_)
                  refine lv_goto (tgt := 76) hx hb dX6_copyBlock_114 (by decide) ?_
                  refine lv_iload hx hb dX6_copyBlock_76 (lv_at hl 0 rfl) ?_
                  refine lv_iconst (v := nI 3) hx hb dX6_copyBlock_78 (by decide) ?_
                  refine fr_icmp_ge 1 3 (by decide) (by decide) (tgt := 117) hx hb dX6_copyBlock_79 (by decide) (fun z => absurd z (by decide)) (fun _ => ?_)
                  refine lv_aload_n hx hb dX6_copyBlock_82 rfl (lv_at hl 3 rfl) ?_
                  refine va_get (D := D) (ci := 6) (v := .ref (md 4)) (C := RX6) (T := TX6) (N := 8) hx hb hts hinX6 hown hK (hP.at 0 rfl) 0 rfl rfl 7 (by decide) w_19 (fun _ h9 => h9) rfl dX6_copyBlock_83 ?_
                  refine lv_iconst (v := nI 3) hx hb dX6_copyBlock_86 (by decide) ?_
                  refine lv_iload hx hb dX6_copyBlock_87 (lv_at hl 1 rfl) ?_
                  refine fr_imul (3) (k9) hx hb dX6_copyBlock_89 ?_
                  refine lv_iload hx hb dX6_copyBlock_90 (lv_at hl 0 rfl) ?_
                  refine fr_iadd ((3 * k9)) (1) hx hb dX6_copyBlock_92 ?_
                  refine lv_aload_n hx hb dX6_copyBlock_93 rfl (lv_at hl 3 rfl) ?_
                  refine va_get (D := D) (ci := 6) (v := .ref (md 1)) (C := RX6) (T := TX6) (N := 8) hx hb hts hinX6 hown hK (hP.at 0 rfl) 0 rfl rfl 0 (by decide) w_7 (fun _ h9 => h9) rfl dX6_copyBlock_94 ?_
                  refine lv_iload hx hb dX6_copyBlock_97 (lv_at hl 2 rfl) ?_
                  refine lv_iload_n hx hb dX6_copyBlock_99 rfl (lv_at hl 4 rfl) ?_
                  refine fr_val e_2 ?_
                  refine lv_iload hx hb dX6_copyBlock_100 (lv_at hl 1 rfl) ?_
                  refine fr_iadd (tn x) (k9) hx hb dX6_copyBlock_102 ?_
                  refine fr_S0 (As := [.int (nI 1560), .int (nI ((tn x + k9)))]) (rest := [.ref (md 1), .int (nI (((3 * k9) + 1))), .ref (md 4)]) ⟨hx, hb, hml, hown, hts⟩ (kX6_wordAt l D T Z 1560 (tn x + k9)) (va_cwS 2 hts gX6_copyBlock_X6_wordAt rfl rfl rfl (by decide +kernel) ⟨Nat.le_of_ble_eq_true rfl, Nat.le_of_ble_eq_true rfl⟩) hK hN hM hP hD hS hA rfl hl.1 rfl (Nat.le_of_ble_eq_true rfl) dX6_copyBlock_103 ⟨Nat.zero_le _, Nat.zero_le _⟩ (fun H locs hP hD hS => ?_)
                  refine lv_iload hx hb dX6_copyBlock_106 (lv_at hl 0 rfl) ?_
                  refine fr_iadd (wdt 1560 (tn x + k9)) (1) hx hb dX6_copyBlock_108 ?_
                  refine fr_iald hx hb hK hP 1 ((wdt 1560 (tn x + k9) + 1)) rfl (by omega) (by omega) dX6_copyBlock_109 ?_
                  refine fr_iast (fs' := [[((md 0), .inr (6, [.ref (md 1), .int (nI (n)), .ref (md 2), .int (nI (len)), .int (nI (p)), .int (nI (le)), .ref (md 3), .ref (md 4)]))], [((md 1), .inl (T 0, 1872, .inl (mFe (fetM (mCp σ 0 5) (tn x) k9) 1560 (tn x + k9))))], [((md 4), .inl (T 0, 48, .inl (upd (upd (redM (mCp σ 0 5) ρ (tn x) k9) ((3 * k9) + 0) ((mFe (fetM (mCp σ 0 5) (tn x) k9) 1560 (tn x + k9)) (wdt 1560 (tn x + k9) + 0))) ((3 * k9) + 1) ((mFe (fetM (mCp σ 0 5) (tn x) k9) 1560 (tn x + k9)) (wdt 1560 (tn x + k9) + 1)))))]]) hx hb hK hP hD hS 2 (((3 * k9) + 1)) rfl rfl (by omega) (by omega) dX6_copyBlock_110 (fun H locs hP hD hS => ?_)
                  refine fr_iinc (1) (2) (nI_inc _) (lv' := [(6, .int (nI 2)), (5, .int (nI (k9))), (4, .int (nI 1560)), (0, .ref (md 0)), (1, .int (x)), (2, .int (y)), (3, .int (c))]) (k := 0) hx hb dX6_copyBlock_111 hl rfl (by decide) rfl (fun ls hl => ?_)
                  refine lv_goto (tgt := 76) hx hb dX6_copyBlock_114 (by decide) ?_
                  refine lv_iload hx hb dX6_copyBlock_76 (lv_at hl 0 rfl) ?_
                  refine lv_iconst (v := nI 3) hx hb dX6_copyBlock_78 (by decide) ?_
                  refine fr_icmp_ge 2 3 (by decide) (by decide) (tgt := 117) hx hb dX6_copyBlock_79 (by decide) (fun z => absurd z (by decide)) (fun _ => ?_)
                  refine lv_aload_n hx hb dX6_copyBlock_82 rfl (lv_at hl 3 rfl) ?_
                  refine va_get (D := D) (ci := 6) (v := .ref (md 4)) (C := RX6) (T := TX6) (N := 8) hx hb hts hinX6 hown hK (hP.at 0 rfl) 0 rfl rfl 7 (by decide) w_19 (fun _ h9 => h9) rfl dX6_copyBlock_83 ?_
                  refine lv_iconst (v := nI 3) hx hb dX6_copyBlock_86 (by decide) ?_
                  refine lv_iload hx hb dX6_copyBlock_87 (lv_at hl 1 rfl) ?_
                  refine fr_imul (3) (k9) hx hb dX6_copyBlock_89 ?_
                  refine lv_iload hx hb dX6_copyBlock_90 (lv_at hl 0 rfl) ?_
                  refine fr_iadd ((3 * k9)) (2) hx hb dX6_copyBlock_92 ?_
                  refine lv_aload_n hx hb dX6_copyBlock_93 rfl (lv_at hl 3 rfl) ?_
                  refine va_get (D := D) (ci := 6) (v := .ref (md 1)) (C := RX6) (T := TX6) (N := 8) hx hb hts hinX6 hown hK (hP.at 0 rfl) 0 rfl rfl 0 (by decide) w_7 (fun _ h9 => h9) rfl dX6_copyBlock_94 ?_
                  refine lv_iload hx hb dX6_copyBlock_97 (lv_at hl 2 rfl) ?_
                  refine lv_iload_n hx hb dX6_copyBlock_99 rfl (lv_at hl 4 rfl) ?_
                  refine fr_val e_2 ?_
                  refine lv_iload hx hb dX6_copyBlock_100 (lv_at hl 1 rfl) ?_
                  refine fr_iadd (tn x) (k9) hx hb dX6_copyBlock_102 ?_
                  refine fr_S0 (As := [.int (nI 1560), .int (nI ((tn x + k9)))]) (rest := [.ref (md 1), .int (nI (((3 * k9) + 2))), .ref (md 4)]) ⟨hx, hb, hml, hown, hts⟩ (kX6_wordAt l D T Z 1560 (tn x + k9)) (va_cwS 2 hts gX6_copyBlock_X6_wordAt rfl rfl rfl (by decide +kernel) ⟨Nat.le_of_ble_eq_true rfl, Nat.le_of_ble_eq_true rfl⟩) hK hN hM hP hD hS hA rfl hl.1 rfl (Nat.le_of_ble_eq_true rfl) dX6_copyBlock_103 ⟨Nat.zero_le _, Nat.zero_le _⟩ (fun H locs hP hD hS => ?_)
                  refine lv_iload hx hb dX6_copyBlock_106 (lv_at hl 0 rfl) ?_
                  refine fr_iadd (wdt 1560 (tn x + k9)) (2) hx hb dX6_copyBlock_108 ?_
                  refine fr_iald hx hb hK hP 1 ((wdt 1560 (tn x + k9) + 2)) rfl (by omega) (by omega) dX6_copyBlock_109 ?_
                  refine fr_iast (fs' := [[((md 0), .inr (6, [.ref (md 1), .int (nI (n)), .ref (md 2), .int (nI (len)), .int (nI (p)), .int (nI (le)), .ref (md 3), .ref (md 4)]))], [((md 1), .inl (T 0, 1872, .inl (mFe (fetM (mCp σ 0 5) (tn x) k9) 1560 (tn x + k9))))], [((md 4), .inl (T 0, 48, .inl (upd (upd (upd (redM (mCp σ 0 5) ρ (tn x) k9) ((3 * k9) + 0) ((mFe (fetM (mCp σ 0 5) (tn x) k9) 1560 (tn x + k9)) (wdt 1560 (tn x + k9) + 0))) ((3 * k9) + 1) ((mFe (fetM (mCp σ 0 5) (tn x) k9) 1560 (tn x + k9)) (wdt 1560 (tn x + k9) + 1))) ((3 * k9) + 2) ((mFe (fetM (mCp σ 0 5) (tn x) k9) 1560 (tn x + k9)) (wdt 1560 (tn x + k9) + 2)))))]]) hx hb hK hP hD hS 2 (((3 * k9) + 2)) rfl rfl (by omega) (by omega) dX6_copyBlock_110 (fun H locs hP hD hS => ?_)
                  refine fr_iinc (2) (3) (nI_inc _) (lv' := [(6, .int (nI 3)), (5, .int (nI (k9))), (4, .int (nI 1560)), (0, .ref (md 0)), (1, .int (x)), (2, .int (y)), (3, .int (c))]) (k := 0) hx hb dX6_copyBlock_111 hl rfl (by decide) rfl (fun ls hl => ?_)
                  refine lv_goto (tgt := 76) hx hb dX6_copyBlock_114 (by decide) ?_
                  refine lv_iload hx hb dX6_copyBlock_76 (lv_at hl 0 rfl) ?_
                  refine lv_iconst (v := nI 3) hx hb dX6_copyBlock_78 (by decide) ?_
                  refine fr_icmp_ge 3 3 (by decide) (by decide) (tgt := 117) hx hb dX6_copyBlock_79 (by decide) (fun _ => ?_) (fun z => absurd z (by decide))
                  refine fr_iinc (k9) ((k9 + 1)) (nI_inc _) (lv' := [(5, .int (nI ((k9 + 1)))), (6, .int (nI 3)), (4, .int (nI 1560)), (0, .ref (md 0)), (1, .int (x)), (2, .int (y)), (3, .int (c))]) (k := 1) hx hb dX6_copyBlock_117 hl rfl (by decide) rfl (fun ls hl => ?_)
                  refine lv_goto (tgt := 56) hx hb dX6_copyBlock_120 (by decide) ?_
                  have q_19 : ([[((md 0), .inr (6, [.ref (md 1), .int (nI (n)), .ref (md 2), .int (nI (len)), .int (nI (p)), .int (nI (le)), .ref (md 3), .ref (md 4)]))], [((md 1), .inl (T 0, 1872, .inl (mFe (fetM (mCp σ 0 5) (tn x) k9) 1560 (tn x + k9))))], [((md 4), .inl (T 0, 48, .inl (upd (upd (upd (redM (mCp σ 0 5) ρ (tn x) k9) ((3 * k9) + 0) ((mFe (fetM (mCp σ 0 5) (tn x) k9) 1560 (tn x + k9)) (wdt 1560 (tn x + k9) + 0))) ((3 * k9) + 1) ((mFe (fetM (mCp σ 0 5) (tn x) k9) 1560 (tn x + k9)) (wdt 1560 (tn x + k9) + 1))) ((3 * k9) + 2) ((mFe (fetM (mCp σ 0 5) (tn x) k9) 1560 (tn x + k9)) (wdt 1560 (tn x + k9) + 2)))))]] : List va_W) = [[((md 0), .inr (6, [.ref (md 1), .int (nI (n)), .ref (md 2), .int (nI (len)), .int (nI (p)), .int (nI (le)), .ref (md 3), .ref (md 4)]))], [((md 1), .inl (T 0, 1872, .inl (fetM (mCp σ 0 5) (tn x) (k9 + 1))))], [((md 4), .inl (T 0, 48, .inl (redM (mCp σ 0 5) ρ (tn x) (k9 + 1))))]] := (by first | contradiction | with_reducible rfl | (simp only [mAS, mAN, cpOkM, decide_true, decide_false, decide_eq_true_eq, true_and, and_true, false_and, and_false, c_1, c_3, c_5, r_6, c_8, c_8', c_9, c_9', c_10, c_10', ↓reduceIte, Bool.false_eq_true, bI_true, bI_false, Bool.true_and, Bool.and_true, Bool.and_false, Bool.false_and, Bool.not_true, Bool.not_false, Bool.or_true, Bool.true_or, Bool.or_false, Bool.false_or] <;> with_reducible rfl) | (simp only [mAS, mAN, cpOkM, decide_true, decide_false, decide_eq_true_eq, true_and, and_true, false_and, and_false, c_1, c_3, c_5, r_6, c_8, c_8', c_9, c_9', c_10, c_10', ↓reduceIte, Bool.false_eq_true, bI_true, bI_false, Bool.true_and, Bool.and_true, Bool.and_false, Bool.false_and, Bool.not_true, Bool.not_false, Bool.or_true, Bool.true_or, Bool.or_false, Bool.false_or] <;> rfl) | rfl | (simp [mAS, mAN, cpOkM, decide_true, decide_false, decide_eq_true_eq, true_and, and_true, false_and, and_false, c_1, c_3, c_5, r_6, c_8, c_8', c_9, c_9', c_10, c_10']; done))
                  rw [q_19] at hP hD
                  exact ih  ((k9 + 1)) (by omega) (by omega) H locs hP hD hS ls (lv_sub hl [0, 2, 3, 4, 5, 6] rfl)
            have q_20 : ([[((md 0), .inr (6, [.ref (md 1), .int (nI (n)), .ref (md 2), .int (nI (len)), .int (nI (p)), .int (nI (le)), .ref (md 3), .ref (md 4)]))], [((md 1), .inl (T 0, 1872, .inl (mCp σ 0 5)))], [((md 4), .inl (T 0, 48, .inl (ρ)))]] : List va_W) = [[((md 0), .inr (6, [.ref (md 1), .int (nI (n)), .ref (md 2), .int (nI (len)), .int (nI (p)), .int (nI (le)), .ref (md 3), .ref (md 4)]))], [((md 1), .inl (T 0, 1872, .inl (fetM (mCp σ 0 5) (tn x) 0)))], [((md 4), .inl (T 0, 48, .inl (redM (mCp σ 0 5) ρ (tn x) 0)))]] := (by first | contradiction | with_reducible rfl | (simp only [mAS, mAN, cpOkM, decide_true, decide_false, decide_eq_true_eq, true_and, and_true, false_and, and_false, c_1, c_3, c_5, r_6, c_8, c_8', c_9, c_9', ↓reduceIte, Bool.false_eq_true, bI_true, bI_false, Bool.true_and, Bool.and_true, Bool.and_false, Bool.false_and, Bool.not_true, Bool.not_false, Bool.or_true, Bool.true_or, Bool.or_false, Bool.false_or] <;> with_reducible rfl) | (simp only [mAS, mAN, cpOkM, decide_true, decide_false, decide_eq_true_eq, true_and, and_true, false_and, and_false, c_1, c_3, c_5, r_6, c_8, c_8', c_9, c_9', ↓reduceIte, Bool.false_eq_true, bI_true, bI_false, Bool.true_and, Bool.and_true, Bool.and_false, Bool.false_and, Bool.not_true, Bool.not_false, Bool.or_true, Bool.true_or, Bool.or_false, Bool.false_or] <;> rfl) | rfl | (simp [mAS, mAN, cpOkM, decide_true, decide_false, decide_eq_true_eq, true_and, and_true, false_and, and_false, c_1, c_3, c_5, r_6, c_8, c_8', c_9, c_9']; done))
            rw [q_20] at hP hD
            exact loop56 (tn c + 1) (0) (by omega) (by omega) _ _ hP hD hS ls (lv_sub hl [0, 1, 2, 3, 4, 5] rfl)
          · have c_9' := Nat.not_le.mpr c_9
            refine lv_iconst (v := (-1)) hx hb dX6_copyBlock_45 (by decide) ?_
            exact fr_iret hx hb hr hlk hP hS (by first | with_reducible rfl | (simp only [mAS, mAN, cpOkM, decide_true, decide_false, decide_eq_true_eq, true_and, and_true, false_and, and_false, c_1, c_3, c_5, r_6, c_8, c_8', c_9, c_9', ↓reduceIte, Bool.false_eq_true, bI_true, bI_false, Bool.true_and, Bool.and_true, Bool.and_false, Bool.false_and, Bool.not_true, Bool.not_false, Bool.or_true, Bool.true_or, Bool.or_false, Bool.false_or] <;> with_reducible rfl) | (simp only [mAS, mAN, cpOkM, decide_true, decide_false, decide_eq_true_eq, true_and, and_true, false_and, and_false, c_1, c_3, c_5, r_6, c_8, c_8', c_9, c_9', ↓reduceIte, Bool.false_eq_true, bI_true, bI_false, Bool.true_and, Bool.and_true, Bool.and_false, Bool.false_and, Bool.not_true, Bool.not_false, Bool.or_true, Bool.true_or, Bool.or_false, Bool.false_or] <;> rfl) | (simp [mAS, mAN, cpOkM, decide_true, decide_false, decide_eq_true_eq, true_and, and_true, false_and, and_false, c_1, c_3, c_5, r_6, c_8, c_8', c_9, c_9', bI]; done)) (by first | with_reducible rfl | (simp only [mAS, mAN, cpOkM, decide_true, decide_false, decide_eq_true_eq, true_and, and_true, false_and, and_false, c_1, c_3, c_5, r_6, c_8, c_8', c_9, c_9', ↓reduceIte, Bool.false_eq_true, bI_true, bI_false, Bool.true_and, Bool.and_true, Bool.and_false, Bool.false_and, Bool.not_true, Bool.not_false, Bool.or_true, Bool.true_or, Bool.or_false, Bool.false_or] <;> with_reducible rfl) | (simp only [mAS, mAN, cpOkM, decide_true, decide_false, decide_eq_true_eq, true_and, and_true, false_and, and_false, c_1, c_3, c_5, r_6, c_8, c_8', c_9, c_9', ↓reduceIte, Bool.false_eq_true, bI_true, bI_false, Bool.true_and, Bool.and_true, Bool.and_false, Bool.false_and, Bool.not_true, Bool.not_false, Bool.or_true, Bool.true_or, Bool.or_false, Bool.false_or] <;> rfl) | (simp [mAS, mAN, cpOkM, decide_true, decide_false, decide_eq_true_eq, true_and, and_true, false_and, and_false, c_1, c_3, c_5, r_6, c_8, c_8', c_9, c_9', bI]; done)) dX6_copyBlock_46
      · have r_21 : iB c = false := c_5
        refine lv_bipush (v := (-2)) hx hb dX6_copyBlock_26 (by decide) ?_
        exact fr_iret hx hb hr hlk hP hS (by first | with_reducible rfl | (simp only [mAS, mAN, cpOkM, decide_true, decide_false, decide_eq_true_eq, true_and, and_true, false_and, and_false, c_1, c_3, c_5, r_21, ↓reduceIte, Bool.false_eq_true, bI_true, bI_false, Bool.true_and, Bool.and_true, Bool.and_false, Bool.false_and, Bool.not_true, Bool.not_false, Bool.or_true, Bool.true_or, Bool.or_false, Bool.false_or] <;> with_reducible rfl) | (simp only [mAS, mAN, cpOkM, decide_true, decide_false, decide_eq_true_eq, true_and, and_true, false_and, and_false, c_1, c_3, c_5, r_21, ↓reduceIte, Bool.false_eq_true, bI_true, bI_false, Bool.true_and, Bool.and_true, Bool.and_false, Bool.false_and, Bool.not_true, Bool.not_false, Bool.or_true, Bool.true_or, Bool.or_false, Bool.false_or] <;> rfl) | (simp [mAS, mAN, cpOkM, decide_true, decide_false, decide_eq_true_eq, true_and, and_true, false_and, and_false, c_1, c_3, c_5, r_21, bI]; done)) (by first | with_reducible rfl | (simp only [mAS, mAN, cpOkM, decide_true, decide_false, decide_eq_true_eq, true_and, and_true, false_and, and_false, c_1, c_3, c_5, r_21, ↓reduceIte, Bool.false_eq_true, bI_true, bI_false, Bool.true_and, Bool.and_true, Bool.and_false, Bool.false_and, Bool.not_true, Bool.not_false, Bool.or_true, Bool.true_or, Bool.or_false, Bool.false_or] <;> with_reducible rfl) | (simp only [mAS, mAN, cpOkM, decide_true, decide_false, decide_eq_true_eq, true_and, and_true, false_and, and_false, c_1, c_3, c_5, r_21, ↓reduceIte, Bool.false_eq_true, bI_true, bI_false, Bool.true_and, Bool.and_true, Bool.and_false, Bool.false_and, Bool.not_true, Bool.not_false, Bool.or_true, Bool.true_or, Bool.or_false, Bool.false_or] <;> rfl) | (simp [mAS, mAN, cpOkM, decide_true, decide_false, decide_eq_true_eq, true_and, and_true, false_and, and_false, c_1, c_3, c_5, r_21, bI]; done)) dX6_copyBlock_28
    · refine lv_iconst (v := (-1)) hx hb dX6_copyBlock_14 (by decide) ?_
      exact fr_iret hx hb hr hlk hP hS (by first | with_reducible rfl | (simp only [mAS, mAN, cpOkM, decide_true, decide_false, decide_eq_true_eq, true_and, and_true, false_and, and_false, c_1, c_3, ↓reduceIte, Bool.false_eq_true, bI_true, bI_false, Bool.true_and, Bool.and_true, Bool.and_false, Bool.false_and, Bool.not_true, Bool.not_false, Bool.or_true, Bool.true_or, Bool.or_false, Bool.false_or] <;> with_reducible rfl) | (simp only [mAS, mAN, cpOkM, decide_true, decide_false, decide_eq_true_eq, true_and, and_true, false_and, and_false, c_1, c_3, ↓reduceIte, Bool.false_eq_true, bI_true, bI_false, Bool.true_and, Bool.and_true, Bool.and_false, Bool.false_and, Bool.not_true, Bool.not_false, Bool.or_true, Bool.true_or, Bool.or_false, Bool.false_or] <;> rfl) | (simp [mAS, mAN, cpOkM, decide_true, decide_false, decide_eq_true_eq, true_and, and_true, false_and, and_false, c_1, c_3, bI]; done)) (by first | with_reducible rfl | (simp only [mAS, mAN, cpOkM, decide_true, decide_false, decide_eq_true_eq, true_and, and_true, false_and, and_false, c_1, c_3, ↓reduceIte, Bool.false_eq_true, bI_true, bI_false, Bool.true_and, Bool.and_true, Bool.and_false, Bool.false_and, Bool.not_true, Bool.not_false, Bool.or_true, Bool.true_or, Bool.or_false, Bool.false_or] <;> with_reducible rfl) | (simp only [mAS, mAN, cpOkM, decide_true, decide_false, decide_eq_true_eq, true_and, and_true, false_and, and_false, c_1, c_3, ↓reduceIte, Bool.false_eq_true, bI_true, bI_false, Bool.true_and, Bool.and_true, Bool.and_false, Bool.false_and, Bool.not_true, Bool.not_false, Bool.or_true, Bool.true_or, Bool.or_false, Bool.false_or] <;> rfl) | (simp [mAS, mAN, cpOkM, decide_true, decide_false, decide_eq_true_eq, true_and, and_true, false_and, and_false, c_1, c_3, bI]; done)) dX6_copyBlock_15

set_option maxHeartbeats 8000000 in
set_option maxRecDepth 100000 in
theorem kX6_setMirror (l : Launch) (D : va_G) (T : Nat → ClassId) (Z : ZZ) (md : Nat → Nat) (n : Nat) (len : Nat) (p : Nat) (le : Nat) (σ : MS) (x : Int32) (u : Bool) (hn4 : n ≤ 4) : CtI l D T Z yX6_setMirror wsX6_setMirror ({ frames := 2, cells := 0, slots := 0, locals := 47 }) [[((md 0), .inr (6, [.ref (md 1), .int (nI (n)), .ref (md 2), .int (nI (len)), .int (nI (p)), .int (nI (le)), .ref (md 3), .ref (md 4)]))], [((md 1), .inl (T 0, 1872, .inl (σ)))]] [.ref (md 0), .int (x), .int (bI (u))] (if iN x 8 then sumI (fun k => mMirS (mCp σ 0 5) 1560 (tn x) u (1560 + 240 + k)) 8 else -1) [[((md 0), .inr (6, [.ref (md 1), .int (nI (mAN (iN x 8) n (sumI (fun k => mMirS (mCp σ 0 5) 1560 (tn x) u (1560 + 240 + k)) 8))), .ref (md 2), .int (nI (len)), .int (nI (p)), .int (nI (le)), .ref (md 3), .ref (md 4)]))], [((md 1), .inl (T 0, 1872, .inl (mAS (iN x 8) (mMirS (mCp σ 0 5) 1560 (tn x) u) n (sumI (fun k => mMirS (mCp σ 0 5) 1560 (tn x) u (1560 + 240 + k)) 8) σ)))]] := by
  refine CtI.of (cc := cX6_setMirror) (maxL := 6) (ret := (some .int)) (plainFor_of_name (by decide)) rfl rfl ?_
  intro pP eE s mM bW mE cC A hE hK hN hM hP hD hA
  obtain ⟨hx, hb, hr, hts, hown, hml, hlk⟩ := hE
  have hown : s.vm.findClass RX6 = some mM.cls := hown
  have hS : va_S A s.heap s.heap [] := va_S.rf
  have hl := lv_entry ([.ref (md 0), .int (x), .int (bI (u))]) (n := 6) (Nat.le_of_ble_eq_true rfl)
  rw [lg_entry_eq]
  generalize (lg_sl ([.ref (md 0), .int (x), .int (bI (u))]) ++ List.replicate (6 - (lg_sl ([.ref (md 0), .int (x), .int (bI (u))])).length) Slot.unset).toArray = ls at hl ⊢
  have hl : lv_has ls 6 [(0, .ref (md 0)), (1, .int (x)), (2, .int (bI (u)))] := hl
  have w_7 := hts (.fieldLink RX6 7 "PoisonedMemoryModel" "s" "[I") (by decide +kernel)
  have hinX6 : ∀ w ∈ wsX60, w ∈ wsX6_setMirror := by decide +kernel
  refine lv_iload_n hx hb dX6_setMirror_0 rfl (lv_at hl 1 rfl) ?_
  refine fr_S0 (As := [.int (x)]) (rest := []) ⟨hx, hb, hml, hown, hts⟩ (kX6_isPage l D T Z x) (va_cwS 1 hts gX6_setMirror_X6_isPage rfl rfl rfl (by decide +kernel) ⟨Nat.le_of_ble_eq_true rfl, Nat.le_of_ble_eq_true rfl⟩) hK hN hM hP hD hS hA rfl hl.1 rfl (Nat.le_of_ble_eq_true rfl) dX6_setMirror_1 ⟨Nat.zero_le _, Nat.zero_le _⟩ (fun H locs hP hD hS => ?_)
  refine fr_ifne_b (tgt := 9) hx hb dX6_setMirror_4 (by decide) (fun c_1 => ?_) (fun c_1 => ?_)
  · have e_2 := iN_eq c_1
    have e_2b := iN_lt c_1 (by decide)
    refine lv_aload_n hx hb dX6_setMirror_9 rfl (lv_at hl 0 rfl) ?_
    refine fr_Vi (As := []) (rest := []) (fs' := [[((md 0), .inr (6, [.ref (md 1), .int (nI (n)), .ref (md 2), .int (nI (len)), .int (nI (p)), .int (nI (le)), .ref (md 3), .ref (md 4)]))], [((md 1), .inl (T 0, 1872, .inl (mCp σ 0 5)))]]) (ci := 6) (q0 := (RX6, TX6, 8)) (i0 := 0) ⟨hx, hb, hml, hown, hts⟩ (kX6_begins l D T Z md n len p le σ) (cwV 0 hts gX6_setMirror_X6_begins rfl rfl rfl (by decide +kernel) ⟨Nat.le_of_ble_eq_true rfl, Nat.le_of_ble_eq_true rfl⟩) hK hN hM hP hD hS hA [0, 1] rfl rfl rfl rfl rfl rfl hl.1 rfl (Nat.le_of_ble_eq_true rfl) dX6_setMirror_10 ⟨Nat.zero_le _, Nat.zero_le _⟩ (fun H locs hP hD hS => ?_)
    refine lv_istore_n (lv' := [(3, .int (nI 1560)), (0, .ref (md 0)), (1, .int (x)), (2, .int (bI (u)))]) hx hb dX6_setMirror_13 rfl hl (by decide) rfl (fun ls hl => ?_)
    refine lv_aload_n hx hb dX6_setMirror_14 rfl (lv_at hl 1 rfl) ?_
    refine va_get (D := D) (ci := 6) (v := .ref (md 1)) (C := RX6) (T := TX6) (N := 8) hx hb hts hinX6 hown hK (hP.at 0 rfl) 0 rfl rfl 0 (by decide) w_7 (fun _ h9 => h9) rfl dX6_setMirror_15 ?_
    refine lv_iload_n hx hb dX6_setMirror_18 rfl (lv_at hl 0 rfl) ?_
    refine lv_sipush (v := nI 240) hx hb dX6_setMirror_19 (by decide) ?_
    refine fr_iadd (1560) (240) hx hb dX6_setMirror_22 ?_
    refine lv_iload_n hx hb dX6_setMirror_23 rfl (lv_at hl 2 rfl) ?_
    refine fr_val e_2 ?_
    refine fr_iadd (1800) (tn x) hx hb dX6_setMirror_24 ?_
    refine lv_iload_n hx hb dX6_setMirror_25 rfl (lv_at hl 3 rfl) ?_
    refine fr_ifeq_b (tgt := 33) hx hb dX6_setMirror_26 (by decide) (fun c_3 => ?_) (fun c_3 => ?_)
    · refine lv_iconst (v := nI 0) hx hb dX6_setMirror_33 (by decide) ?_
      refine fr_iast (fs' := [[((md 0), .inr (6, [.ref (md 1), .int (nI (n)), .ref (md 2), .int (nI (len)), .int (nI (p)), .int (nI (le)), .ref (md 3), .ref (md 4)]))], [((md 1), .inl (T 0, 1872, .inl (upd (mCp σ 0 5) (1800 + tn x) (nI 0))))]]) hx hb hK hP hD hS 1 ((1800 + tn x)) rfl rfl (by omega) (by omega) dX6_setMirror_34 (fun H locs hP hD hS => ?_)
      refine lv_iconst (v := nI 4) hx hb dX6_setMirror_35 (by decide) ?_
      refine lv_iload_n hx hb dX6_setMirror_36 rfl (lv_at hl 2 rfl) ?_
      refine fr_val e_2 ?_
      refine fr_imul (4) (tn x) hx hb dX6_setMirror_37 ?_
      refine lv_istore (lv' := [(4, .int (nI ((4 * tn x)))), (3, .int (nI 1560)), (0, .ref (md 0)), (1, .int (x)), (2, .int (bI (u)))]) hx hb dX6_setMirror_38 hl (by decide) rfl (fun ls hl => ?_)
      refine lv_iload hx hb dX6_setMirror_40 (lv_at hl 0 rfl) ?_
      refine lv_iconst (v := nI 4) hx hb dX6_setMirror_42 (by decide) ?_
      refine lv_iload_n hx hb dX6_setMirror_43 rfl (lv_at hl 3 rfl) ?_
      refine fr_val e_2 ?_
      refine fr_imul (4) (tn x) hx hb dX6_setMirror_44 ?_
      refine lv_iconst (v := nI 4) hx hb dX6_setMirror_45 (by decide) ?_
      refine fr_iadd ((4 * tn x)) (4) hx hb dX6_setMirror_46 ?_
      refine fr_icmp_ge ((4 * tn x)) (((4 * tn x) + 4)) (by omega) (by omega) (tgt := 63) hx hb dX6_setMirror_47 (by decide) (fun z => absurd z (by omega)) (fun _ => ?_)
      refine lv_aload_n hx hb dX6_setMirror_50 rfl (lv_at hl 2 rfl) ?_
      refine lv_iload_n hx hb dX6_setMirror_51 rfl (lv_at hl 1 rfl) ?_
      refine lv_iload hx hb dX6_setMirror_52 (lv_at hl 0 rfl) ?_
      refine fr_Vv (As := [.int (nI 1560), .int (nI ((4 * tn x)))]) (rest := []) (fs' := [[((md 0), .inr (6, [.ref (md 1), .int (nI (n)), .ref (md 2), .int (nI (len)), .int (nI (p)), .int (nI (le)), .ref (md 3), .ref (md 4)]))], [((md 1), .inl (T 0, 1872, .inl (mWr (upd (mCp σ 0 5) (1800 + tn x) (nI 0)) 1560 (4 * tn x))))]]) (ci := 6) (q0 := (RX6, TX6, 8)) (i0 := 0) ⟨hx, hb, hml, hown, hts⟩ (kX6_written l D T Z md n len p le (upd (mCp σ 0 5) (1800 + tn x) (nI 0)) 1560 (4 * tn x) (by decide) (by omega)) (cwV 2 hts gX6_setMirror_X6_written rfl rfl rfl (by decide +kernel) ⟨Nat.le_of_ble_eq_true rfl, Nat.le_of_ble_eq_true rfl⟩) hK hN hM hP hD hS hA [0, 1] rfl rfl rfl rfl rfl rfl hl.1 rfl (Nat.le_of_ble_eq_true rfl) dX6_setMirror_54 ⟨Nat.zero_le _, Nat.zero_le _⟩ (fun H locs hP hD hS => ?_)
      refine fr_iinc ((4 * tn x)) (((4 * tn x) + 1)) (nI_inc _) (lv' := [(4, .int (nI (((4 * tn x) + 1)))), (3, .int (nI 1560)), (0, .ref (md 0)), (1, .int (x)), (2, .int (bI (u)))]) (k := 0) hx hb dX6_setMirror_57 hl rfl (by decide) rfl (fun ls hl => ?_)
      refine lv_goto (tgt := 40) hx hb dX6_setMirror_60 (by decide) ?_
      refine lv_iload hx hb dX6_setMirror_40 (lv_at hl 0 rfl) ?_
      refine lv_iconst (v := nI 4) hx hb dX6_setMirror_42 (by decide) ?_
      refine lv_iload_n hx hb dX6_setMirror_43 rfl (lv_at hl 3 rfl) ?_
      refine fr_val e_2 ?_
      refine fr_imul (4) (tn x) hx hb dX6_setMirror_44 ?_
      refine lv_iconst (v := nI 4) hx hb dX6_setMirror_45 (by decide) ?_
      refine fr_iadd ((4 * tn x)) (4) hx hb dX6_setMirror_46 ?_
      refine fr_icmp_ge (((4 * tn x) + 1)) (((4 * tn x) + 4)) (by omega) (by omega) (tgt := 63) hx hb dX6_setMirror_47 (by decide) (fun z => absurd z (by omega)) (fun _ => ?_)
      refine lv_aload_n hx hb dX6_setMirror_50 rfl (lv_at hl 2 rfl) ?_
      refine lv_iload_n hx hb dX6_setMirror_51 rfl (lv_at hl 1 rfl) ?_
      refine lv_iload hx hb dX6_setMirror_52 (lv_at hl 0 rfl) ?_
      refine fr_Vv (As := [.int (nI 1560), .int (nI (((4 * tn x) + 1)))]) (rest := []) (fs' := [[((md 0), .inr (6, [.ref (md 1), .int (nI (n)), .ref (md 2), .int (nI (len)), .int (nI (p)), .int (nI (le)), .ref (md 3), .ref (md 4)]))], [((md 1), .inl (T 0, 1872, .inl (mWr (mWr (upd (mCp σ 0 5) (1800 + tn x) (nI 0)) 1560 (4 * tn x)) 1560 ((4 * tn x) + 1))))]]) (ci := 6) (q0 := (RX6, TX6, 8)) (i0 := 0) ⟨hx, hb, hml, hown, hts⟩ (kX6_written l D T Z md n len p le (mWr (upd (mCp σ 0 5) (1800 + tn x) (nI 0)) 1560 (4 * tn x)) 1560 ((4 * tn x) + 1) (by decide) (by omega)) (cwV 2 hts gX6_setMirror_X6_written rfl rfl rfl (by decide +kernel) ⟨Nat.le_of_ble_eq_true rfl, Nat.le_of_ble_eq_true rfl⟩) hK hN hM hP hD hS hA [0, 1] rfl rfl rfl rfl rfl rfl hl.1 rfl (Nat.le_of_ble_eq_true rfl) dX6_setMirror_54 ⟨Nat.zero_le _, Nat.zero_le _⟩ (fun H locs hP hD hS => ?_)
      refine fr_iinc (((4 * tn x) + 1)) ((((4 * tn x) + 1) + 1)) (nI_inc _) (lv' := [(4, .int (nI ((((4 * tn x) + 1) + 1)))), (3, .int (nI 1560)), (0, .ref (md 0)), (1, .int (x)), (2, .int (bI (u)))]) (k := 0) hx hb dX6_setMirror_57 hl rfl (by decide) rfl (fun ls hl => ?_)
      refine lv_goto (tgt := 40) hx hb dX6_setMirror_60 (by decide) ?_
      refine lv_iload hx hb dX6_setMirror_40 (lv_at hl 0 rfl) ?_
      refine lv_iconst (v := nI 4) hx hb dX6_setMirror_42 (by decide) ?_
      refine lv_iload_n hx hb dX6_setMirror_43 rfl (lv_at hl 3 rfl) ?_
      refine fr_val e_2 ?_
      refine fr_imul (4) (tn x) hx hb dX6_setMirror_44 ?_
      refine lv_iconst (v := nI 4) hx hb dX6_setMirror_45 (by decide) ?_
      refine fr_iadd ((4 * tn x)) (4) hx hb dX6_setMirror_46 ?_
      refine fr_icmp_ge ((((4 * tn x) + 1) + 1)) (((4 * tn x) + 4)) (by omega) (by omega) (tgt := 63) hx hb dX6_setMirror_47 (by decide) (fun z => absurd z (by omega)) (fun _ => ?_)
      refine lv_aload_n hx hb dX6_setMirror_50 rfl (lv_at hl 2 rfl) ?_
      refine lv_iload_n hx hb dX6_setMirror_51 rfl (lv_at hl 1 rfl) ?_
      refine lv_iload hx hb dX6_setMirror_52 (lv_at hl 0 rfl) ?_
      refine fr_Vv (As := [.int (nI 1560), .int (nI ((((4 * tn x) + 1) + 1)))]) (rest := []) (fs' := [[((md 0), .inr (6, [.ref (md 1), .int (nI (n)), .ref (md 2), .int (nI (len)), .int (nI (p)), .int (nI (le)), .ref (md 3), .ref (md 4)]))], [((md 1), .inl (T 0, 1872, .inl (mWr (mWr (mWr (upd (mCp σ 0 5) (1800 + tn x) (nI 0)) 1560 (4 * tn x)) 1560 ((4 * tn x) + 1)) 1560 (((4 * tn x) + 1) + 1))))]]) (ci := 6) (q0 := (RX6, TX6, 8)) (i0 := 0) ⟨hx, hb, hml, hown, hts⟩ (kX6_written l D T Z md n len p le (mWr (mWr (upd (mCp σ 0 5) (1800 + tn x) (nI 0)) 1560 (4 * tn x)) 1560 ((4 * tn x) + 1)) 1560 (((4 * tn x) + 1) + 1) (by decide) (by omega)) (cwV 2 hts gX6_setMirror_X6_written rfl rfl rfl (by decide +kernel) ⟨Nat.le_of_ble_eq_true rfl, Nat.le_of_ble_eq_true rfl⟩) hK hN hM hP hD hS hA [0, 1] rfl rfl rfl rfl rfl rfl hl.1 rfl (Nat.le_of_ble_eq_true rfl) dX6_setMirror_54 ⟨Nat.zero_le _, Nat.zero_le _⟩ (fun H locs hP hD hS => ?_)
      refine fr_iinc ((((4 * tn x) + 1) + 1)) (((((4 * tn x) + 1) + 1) + 1)) (nI_inc _) (lv' := [(4, .int (nI (((((4 * tn x) + 1) + 1) + 1)))), (3, .int (nI 1560)), (0, .ref (md 0)), (1, .int (x)), (2, .int (bI (u)))]) (k := 0) hx hb dX6_setMirror_57 hl rfl (by decide) rfl (fun ls hl => ?_)
      refine lv_goto (tgt := 40) hx hb dX6_setMirror_60 (by decide) ?_
      refine lv_iload hx hb dX6_setMirror_40 (lv_at hl 0 rfl) ?_
      refine lv_iconst (v := nI 4) hx hb dX6_setMirror_42 (by decide) ?_
      refine lv_iload_n hx hb dX6_setMirror_43 rfl (lv_at hl 3 rfl) ?_
      refine fr_val e_2 ?_
      refine fr_imul (4) (tn x) hx hb dX6_setMirror_44 ?_
      refine lv_iconst (v := nI 4) hx hb dX6_setMirror_45 (by decide) ?_
      refine fr_iadd ((4 * tn x)) (4) hx hb dX6_setMirror_46 ?_
      refine fr_icmp_ge (((((4 * tn x) + 1) + 1) + 1)) (((4 * tn x) + 4)) (by omega) (by omega) (tgt := 63) hx hb dX6_setMirror_47 (by decide) (fun z => absurd z (by omega)) (fun _ => ?_)
      refine lv_aload_n hx hb dX6_setMirror_50 rfl (lv_at hl 2 rfl) ?_
      refine lv_iload_n hx hb dX6_setMirror_51 rfl (lv_at hl 1 rfl) ?_
      refine lv_iload hx hb dX6_setMirror_52 (lv_at hl 0 rfl) ?_
      refine fr_Vv (As := [.int (nI 1560), .int (nI (((((4 * tn x) + 1) + 1) + 1)))]) (rest := []) (fs' := [[((md 0), .inr (6, [.ref (md 1), .int (nI (n)), .ref (md 2), .int (nI (len)), .int (nI (p)), .int (nI (le)), .ref (md 3), .ref (md 4)]))], [((md 1), .inl (T 0, 1872, .inl (mWr (mWr (mWr (mWr (upd (mCp σ 0 5) (1800 + tn x) (nI 0)) 1560 (4 * tn x)) 1560 ((4 * tn x) + 1)) 1560 (((4 * tn x) + 1) + 1)) 1560 ((((4 * tn x) + 1) + 1) + 1))))]]) (ci := 6) (q0 := (RX6, TX6, 8)) (i0 := 0) ⟨hx, hb, hml, hown, hts⟩ (kX6_written l D T Z md n len p le (mWr (mWr (mWr (upd (mCp σ 0 5) (1800 + tn x) (nI 0)) 1560 (4 * tn x)) 1560 ((4 * tn x) + 1)) 1560 (((4 * tn x) + 1) + 1)) 1560 ((((4 * tn x) + 1) + 1) + 1) (by decide) (by omega)) (cwV 2 hts gX6_setMirror_X6_written rfl rfl rfl (by decide +kernel) ⟨Nat.le_of_ble_eq_true rfl, Nat.le_of_ble_eq_true rfl⟩) hK hN hM hP hD hS hA [0, 1] rfl rfl rfl rfl rfl rfl hl.1 rfl (Nat.le_of_ble_eq_true rfl) dX6_setMirror_54 ⟨Nat.zero_le _, Nat.zero_le _⟩ (fun H locs hP hD hS => ?_)
      refine fr_iinc (((((4 * tn x) + 1) + 1) + 1)) ((((((4 * tn x) + 1) + 1) + 1) + 1)) (nI_inc _) (lv' := [(4, .int (nI ((((((4 * tn x) + 1) + 1) + 1) + 1)))), (3, .int (nI 1560)), (0, .ref (md 0)), (1, .int (x)), (2, .int (bI (u)))]) (k := 0) hx hb dX6_setMirror_57 hl rfl (by decide) rfl (fun ls hl => ?_)
      refine lv_goto (tgt := 40) hx hb dX6_setMirror_60 (by decide) ?_
      refine lv_iload hx hb dX6_setMirror_40 (lv_at hl 0 rfl) ?_
      refine lv_iconst (v := nI 4) hx hb dX6_setMirror_42 (by decide) ?_
      refine lv_iload_n hx hb dX6_setMirror_43 rfl (lv_at hl 3 rfl) ?_
      refine fr_val e_2 ?_
      refine fr_imul (4) (tn x) hx hb dX6_setMirror_44 ?_
      refine lv_iconst (v := nI 4) hx hb dX6_setMirror_45 (by decide) ?_
      refine fr_iadd ((4 * tn x)) (4) hx hb dX6_setMirror_46 ?_
      refine fr_icmp_ge ((((((4 * tn x) + 1) + 1) + 1) + 1)) (((4 * tn x) + 4)) (by omega) (by omega) (tgt := 63) hx hb dX6_setMirror_47 (by decide) (fun _ => ?_) (fun z => absurd z (by omega))
      refine lv_iconst (v := nI 0) hx hb dX6_setMirror_63 (by decide) ?_
      refine lv_istore (lv' := [(4, .int (nI 0)), (3, .int (nI 1560)), (0, .ref (md 0)), (1, .int (x)), (2, .int (bI (u)))]) hx hb dX6_setMirror_64 hl (by decide) rfl (fun ls hl => ?_)
      refine lv_iconst (v := nI 0) hx hb dX6_setMirror_66 (by decide) ?_
      refine lv_istore (lv' := [(5, .int (nI 0)), (4, .int (nI 0)), (3, .int (nI 1560)), (0, .ref (md 0)), (1, .int (x)), (2, .int (bI (u)))]) hx hb dX6_setMirror_67 hl (by decide) rfl (fun ls hl => ?_)
      have loop69 : ∀ (n9 k9 : Nat), k9 ≤ 8 → 8 < k9 + n9 → ∀ (H : Heap) (locs : List Loc), frP D [[((md 0), .inr (6, [.ref (md 1), .int (nI (n)), .ref (md 2), .int (nI (len)), .int (nI (p)), .int (nI (le)), .ref (md 3), .ref (md 4)]))], [((md 1), .inl (T 0, 1872, .inl (mMirS (mCp σ 0 5) 1560 (tn x) u)))]] H → va_D A ([[((md 0), .inr (6, [.ref (md 1), .int (nI (n)), .ref (md 2), .int (nI (len)), .int (nI (p)), .int (nI (le)), .ref (md 3), .ref (md 4)]))], [((md 1), .inl (T 0, 1872, .inl (mMirS (mCp σ 0 5) 1560 (tn x) u)))]] : List va_W).flatten → va_S A s.heap H locs → ∀ (ls : Array Slot), lv_has ls 6 [(5, .int (nI (k9))), (4, .int (sumI (fun k => mMirS (mCp σ 0 5) 1560 (tn x) u (1560 + 240 + k)) k9)), (3, .int (nI 1560)), (0, .ref (md 0)), (1, .int (x)), (2, .int (bI (u)))] → W pP l eE ({ frames := 2, cells := 0, slots := 0, locals := 47 }) s mM ([.ref (md 0), .int (x), .int (bI (u))] : List Value).toArray bW mE cC H locs 0 0 (MQ bW (QcI D [[((md 0), .inr (6, [.ref (md 1), .int (nI (mAN (iN x 8) n (sumI (fun k => mMirS (mCp σ 0 5) 1560 (tn x) u (1560 + 240 + k)) 8))), .ref (md 2), .int (nI (len)), .int (nI (p)), .int (nI (le)), .ref (md 3), .ref (md 4)]))], [((md 1), .inl (T 0, 1872, .inl (mAS (iN x 8) (mMirS (mCp σ 0 5) 1560 (tn x) u) n (sumI (fun k => mMirS (mCp σ 0 5) 1560 (tn x) u (1560 + 240 + k)) 8) σ)))]] (if iN x 8 then sumI (fun k => mMirS (mCp σ 0 5) 1560 (tn x) u (1560 + 240 + k)) 8 else -1) A) ([.ref (md 0), .int (x), .int (bI (u))] : List Value).toArray s 0 0 A) (F0 mM 69 ls []) := by
        intro n9
        induction n9 with
        | zero => intro k9 h1 h2; exact absurd h2 (by omega)
        | succ n9 ih =>
          intro k9 hk1 hk2 H locs hP hD hS ls hl
          refine lv_iload hx hb dX6_setMirror_69 (lv_at hl 0 rfl) ?_
          refine lv_bipush (v := nI 8) hx hb dX6_setMirror_71 (by decide) ?_
          refine fr_icmp_ge (k9) (8) (by omega) (by decide) (tgt := 100) hx hb dX6_setMirror_73 (by decide) (fun c_4 => ?_) (fun c_4 => ?_)
          · have c_4' := Nat.not_lt.mpr c_4
            obtain rfl : k9 = 8 := by omega
            refine lv_aload_n hx hb dX6_setMirror_100 rfl (lv_at hl 3 rfl) ?_
            refine lv_iload hx hb dX6_setMirror_101 (lv_at hl 1 rfl) ?_
            refine fr_Vi (As := [.int (sumI (fun k => mMirS (mCp σ 0 5) 1560 (tn x) u (1560 + 240 + k)) 8)]) (rest := []) (fs' := [[((md 0), .inr (6, [.ref (md 1), .int (nI (nAcc n (sumI (fun k => mMirS (mCp σ 0 5) 1560 (tn x) u (1560 + 240 + k)) 8))), .ref (md 2), .int (nI (len)), .int (nI (p)), .int (nI (le)), .ref (md 3), .ref (md 4)]))], [((md 1), .inl (T 0, 1872, .inl (mAcc (mMirS (mCp σ 0 5) 1560 (tn x) u) n (sumI (fun k => mMirS (mCp σ 0 5) 1560 (tn x) u (1560 + 240 + k)) 8))))]]) (ci := 6) (q0 := (RX6, TX6, 8)) (i0 := 0) ⟨hx, hb, hml, hown, hts⟩ (kX6_accepts l D T Z md n len p le (mMirS (mCp σ 0 5) 1560 (tn x) u) (sumI (fun k => mMirS (mCp σ 0 5) 1560 (tn x) u (1560 + 240 + k)) 8) (by omega)) (cwV 1 hts gX6_setMirror_X6_accepts rfl rfl rfl (by decide +kernel) ⟨Nat.le_of_ble_eq_true rfl, Nat.le_of_ble_eq_true rfl⟩) hK hN hM hP hD hS hA [0, 1] rfl rfl rfl rfl rfl rfl hl.1 rfl (Nat.le_of_ble_eq_true rfl) dX6_setMirror_103 ⟨Nat.zero_le _, Nat.zero_le _⟩ (fun H locs hP hD hS => ?_)
            exact fr_iret hx hb hr hlk hP hS (by first | with_reducible rfl | (simp only [mMirS, mAS, mAN, c_1, c_3, c_4, c_4', ↓reduceIte, Bool.false_eq_true, bI_true, bI_false, Bool.true_and, Bool.and_true, Bool.and_false, Bool.false_and, Bool.not_true, Bool.not_false, Bool.or_true, Bool.true_or, Bool.or_false, Bool.false_or] <;> with_reducible rfl) | (simp only [mMirS, mAS, mAN, c_1, c_3, c_4, c_4', ↓reduceIte, Bool.false_eq_true, bI_true, bI_false, Bool.true_and, Bool.and_true, Bool.and_false, Bool.false_and, Bool.not_true, Bool.not_false, Bool.or_true, Bool.true_or, Bool.or_false, Bool.false_or] <;> rfl) | (simp [mMirS, mAS, mAN, c_1, c_3, c_4, c_4', bI]; done)) (by first | with_reducible rfl | (simp only [mMirS, mAS, mAN, c_1, c_3, c_4, c_4', ↓reduceIte, Bool.false_eq_true, bI_true, bI_false, Bool.true_and, Bool.and_true, Bool.and_false, Bool.false_and, Bool.not_true, Bool.not_false, Bool.or_true, Bool.true_or, Bool.or_false, Bool.false_or] <;> with_reducible rfl) | (simp only [mMirS, mAS, mAN, c_1, c_3, c_4, c_4', ↓reduceIte, Bool.false_eq_true, bI_true, bI_false, Bool.true_and, Bool.and_true, Bool.and_false, Bool.false_and, Bool.not_true, Bool.not_false, Bool.or_true, Bool.true_or, Bool.or_false, Bool.false_or] <;> rfl) | (simp [mMirS, mAS, mAN, c_1, c_3, c_4, c_4', bI]; done)) dX6_setMirror_106
          · have c_4' := Nat.not_le.mpr c_4
            refine lv_iload hx hb dX6_setMirror_76 (lv_at hl 1 rfl) ?_
            refine lv_aload_n hx hb dX6_setMirror_78 rfl (lv_at hl 3 rfl) ?_
            refine va_get (D := D) (ci := 6) (v := .ref (md 1)) (C := RX6) (T := TX6) (N := 8) hx hb hts hinX6 hown hK (hP.at 0 rfl) 0 rfl rfl 0 (by decide) w_7 (fun _ h9 => h9) rfl dX6_setMirror_79 ?_
            refine lv_iload_n hx hb dX6_setMirror_82 rfl (lv_at hl 2 rfl) ?_
            refine lv_sipush (v := nI 240) hx hb dX6_setMirror_83 (by decide) ?_
            refine fr_iadd (1560) (240) hx hb dX6_setMirror_86 ?_
            refine lv_iload hx hb dX6_setMirror_87 (lv_at hl 0 rfl) ?_
            refine fr_iadd (1800) (k9) hx hb dX6_setMirror_89 ?_
            refine fr_iald hx hb hK hP 1 ((1800 + k9)) rfl (by omega) (by omega) dX6_setMirror_90 ?_
            refine lv_iadd hx hb dX6_setMirror_91 ?_
            refine lv_istore (lv' := [(4, .int ((sumI (fun k => mMirS (mCp σ 0 5) 1560 (tn x) u (1560 + 240 + k)) k9) + ((mMirS (mCp σ 0 5) 1560 (tn x) u) (1800 + k9)))), (5, .int (nI (k9))), (3, .int (nI 1560)), (0, .ref (md 0)), (1, .int (x)), (2, .int (bI (u)))]) hx hb dX6_setMirror_92 hl (by decide) rfl (fun ls hl => ?_)
            refine fr_iinc (k9) ((k9 + 1)) (nI_inc _) (lv' := [(5, .int (nI ((k9 + 1)))), (4, .int ((sumI (fun k => mMirS (mCp σ 0 5) 1560 (tn x) u (1560 + 240 + k)) k9) + ((mMirS (mCp σ 0 5) 1560 (tn x) u) (1800 + k9)))), (3, .int (nI 1560)), (0, .ref (md 0)), (1, .int (x)), (2, .int (bI (u)))]) (k := 1) hx hb dX6_setMirror_94 hl rfl (by decide) rfl (fun ls hl => ?_)
            refine lv_goto (tgt := 69) hx hb dX6_setMirror_97 (by decide) ?_
            have q_5 : ((sumI (fun k => mMirS (mCp σ 0 5) 1560 (tn x) u (1560 + 240 + k)) k9) + ((mMirS (mCp σ 0 5) 1560 (tn x) u) (1800 + k9)) : Int32) = sumI (fun k => mMirS (mCp σ 0 5) 1560 (tn x) u (1560 + 240 + k)) (k9 + 1) := (by rfl)
            rw [q_5] at hl
            exact ih  ((k9 + 1)) (by omega) (by omega) H locs hP hD hS ls (lv_sub hl [0, 1, 2, 3, 4, 5] rfl)
      have q_6 : (nI 0 : Int32) = sumI (fun k => mMirS (mCp σ 0 5) 1560 (tn x) u (1560 + 240 + k)) 0 := (by first | rfl | (simp only [mMirS, mMirS, mAS, mAN, c_1, c_3, ↓reduceIte, Bool.false_eq_true, bI_true, bI_false, Bool.true_and, Bool.and_true, Bool.and_false, Bool.false_and, Bool.not_true, Bool.not_false, Bool.or_true, Bool.true_or, Bool.or_false, Bool.false_or] <;> rfl))
      rw [q_6] at hl
      have q_7 : ([[((md 0), .inr (6, [.ref (md 1), .int (nI (n)), .ref (md 2), .int (nI (len)), .int (nI (p)), .int (nI (le)), .ref (md 3), .ref (md 4)]))], [((md 1), .inl (T 0, 1872, .inl (mWr (mWr (mWr (mWr (upd (mCp σ 0 5) (1800 + tn x) (nI 0)) 1560 (4 * tn x)) 1560 ((4 * tn x) + 1)) 1560 (((4 * tn x) + 1) + 1)) 1560 ((((4 * tn x) + 1) + 1) + 1))))]] : List va_W) = [[((md 0), .inr (6, [.ref (md 1), .int (nI (n)), .ref (md 2), .int (nI (len)), .int (nI (p)), .int (nI (le)), .ref (md 3), .ref (md 4)]))], [((md 1), .inl (T 0, 1872, .inl (mMirS (mCp σ 0 5) 1560 (tn x) u)))]] := (by first | rfl | (simp only [mMirS, mMirS, mAS, mAN, c_1, c_3, ↓reduceIte, Bool.false_eq_true, bI_true, bI_false, Bool.true_and, Bool.and_true, Bool.and_false, Bool.false_and, Bool.not_true, Bool.not_false, Bool.or_true, Bool.true_or, Bool.or_false, Bool.false_or] <;> rfl))
      rw [q_7] at hP hD
      exact loop69 (8 + 1) (0) (by omega) (by omega) _ _ hP hD hS ls (lv_sub hl [0, 1, 2, 3, 4, 5] rfl)
    · refine lv_iconst (v := nI 1) hx hb dX6_setMirror_29 (by decide) ?_
      refine lv_goto (tgt := 34) hx hb dX6_setMirror_30 (by decide) ?_
      refine fr_iast (fs' := [[((md 0), .inr (6, [.ref (md 1), .int (nI (n)), .ref (md 2), .int (nI (len)), .int (nI (p)), .int (nI (le)), .ref (md 3), .ref (md 4)]))], [((md 1), .inl (T 0, 1872, .inl (upd (mCp σ 0 5) (1800 + tn x) (nI 1))))]]) hx hb hK hP hD hS 1 ((1800 + tn x)) rfl rfl (by omega) (by omega) dX6_setMirror_34 (fun H locs hP hD hS => ?_)
      refine lv_iconst (v := nI 4) hx hb dX6_setMirror_35 (by decide) ?_
      refine lv_iload_n hx hb dX6_setMirror_36 rfl (lv_at hl 2 rfl) ?_
      refine fr_val e_2 ?_
      refine fr_imul (4) (tn x) hx hb dX6_setMirror_37 ?_
      refine lv_istore (lv' := [(4, .int (nI ((4 * tn x)))), (3, .int (nI 1560)), (0, .ref (md 0)), (1, .int (x)), (2, .int (bI (u)))]) hx hb dX6_setMirror_38 hl (by decide) rfl (fun ls hl => ?_)
      refine lv_iload hx hb dX6_setMirror_40 (lv_at hl 0 rfl) ?_
      refine lv_iconst (v := nI 4) hx hb dX6_setMirror_42 (by decide) ?_
      refine lv_iload_n hx hb dX6_setMirror_43 rfl (lv_at hl 3 rfl) ?_
      refine fr_val e_2 ?_
      refine fr_imul (4) (tn x) hx hb dX6_setMirror_44 ?_
      refine lv_iconst (v := nI 4) hx hb dX6_setMirror_45 (by decide) ?_
      refine fr_iadd ((4 * tn x)) (4) hx hb dX6_setMirror_46 ?_
      refine fr_icmp_ge ((4 * tn x)) (((4 * tn x) + 4)) (by omega) (by omega) (tgt := 63) hx hb dX6_setMirror_47 (by decide) (fun z => absurd z (by omega)) (fun _ => ?_)
      refine lv_aload_n hx hb dX6_setMirror_50 rfl (lv_at hl 2 rfl) ?_
      refine lv_iload_n hx hb dX6_setMirror_51 rfl (lv_at hl 1 rfl) ?_
      refine lv_iload hx hb dX6_setMirror_52 (lv_at hl 0 rfl) ?_
      refine fr_Vv (As := [.int (nI 1560), .int (nI ((4 * tn x)))]) (rest := []) (fs' := [[((md 0), .inr (6, [.ref (md 1), .int (nI (n)), .ref (md 2), .int (nI (len)), .int (nI (p)), .int (nI (le)), .ref (md 3), .ref (md 4)]))], [((md 1), .inl (T 0, 1872, .inl (mWr (upd (mCp σ 0 5) (1800 + tn x) (nI 1)) 1560 (4 * tn x))))]]) (ci := 6) (q0 := (RX6, TX6, 8)) (i0 := 0) ⟨hx, hb, hml, hown, hts⟩ (kX6_written l D T Z md n len p le (upd (mCp σ 0 5) (1800 + tn x) (nI 1)) 1560 (4 * tn x) (by decide) (by omega)) (cwV 2 hts gX6_setMirror_X6_written rfl rfl rfl (by decide +kernel) ⟨Nat.le_of_ble_eq_true rfl, Nat.le_of_ble_eq_true rfl⟩) hK hN hM hP hD hS hA [0, 1] rfl rfl rfl rfl rfl rfl hl.1 rfl (Nat.le_of_ble_eq_true rfl) dX6_setMirror_54 ⟨Nat.zero_le _, Nat.zero_le _⟩ (fun H locs hP hD hS => ?_)
      refine fr_iinc ((4 * tn x)) (((4 * tn x) + 1)) (nI_inc _) (lv' := [(4, .int (nI (((4 * tn x) + 1)))), (3, .int (nI 1560)), (0, .ref (md 0)), (1, .int (x)), (2, .int (bI (u)))]) (k := 0) hx hb dX6_setMirror_57 hl rfl (by decide) rfl (fun ls hl => ?_)
      refine lv_goto (tgt := 40) hx hb dX6_setMirror_60 (by decide) ?_
      refine lv_iload hx hb dX6_setMirror_40 (lv_at hl 0 rfl) ?_
      refine lv_iconst (v := nI 4) hx hb dX6_setMirror_42 (by decide) ?_
      refine lv_iload_n hx hb dX6_setMirror_43 rfl (lv_at hl 3 rfl) ?_
      refine fr_val e_2 ?_
      refine fr_imul (4) (tn x) hx hb dX6_setMirror_44 ?_
      refine lv_iconst (v := nI 4) hx hb dX6_setMirror_45 (by decide) ?_
      refine fr_iadd ((4 * tn x)) (4) hx hb dX6_setMirror_46 ?_
      refine fr_icmp_ge (((4 * tn x) + 1)) (((4 * tn x) + 4)) (by omega) (by omega) (tgt := 63) hx hb dX6_setMirror_47 (by decide) (fun z => absurd z (by omega)) (fun _ => ?_)
      refine lv_aload_n hx hb dX6_setMirror_50 rfl (lv_at hl 2 rfl) ?_
      refine lv_iload_n hx hb dX6_setMirror_51 rfl (lv_at hl 1 rfl) ?_
      refine lv_iload hx hb dX6_setMirror_52 (lv_at hl 0 rfl) ?_
      refine fr_Vv (As := [.int (nI 1560), .int (nI (((4 * tn x) + 1)))]) (rest := []) (fs' := [[((md 0), .inr (6, [.ref (md 1), .int (nI (n)), .ref (md 2), .int (nI (len)), .int (nI (p)), .int (nI (le)), .ref (md 3), .ref (md 4)]))], [((md 1), .inl (T 0, 1872, .inl (mWr (mWr (upd (mCp σ 0 5) (1800 + tn x) (nI 1)) 1560 (4 * tn x)) 1560 ((4 * tn x) + 1))))]]) (ci := 6) (q0 := (RX6, TX6, 8)) (i0 := 0) ⟨hx, hb, hml, hown, hts⟩ (kX6_written l D T Z md n len p le (mWr (upd (mCp σ 0 5) (1800 + tn x) (nI 1)) 1560 (4 * tn x)) 1560 ((4 * tn x) + 1) (by decide) (by omega)) (cwV 2 hts gX6_setMirror_X6_written rfl rfl rfl (by decide +kernel) ⟨Nat.le_of_ble_eq_true rfl, Nat.le_of_ble_eq_true rfl⟩) hK hN hM hP hD hS hA [0, 1] rfl rfl rfl rfl rfl rfl hl.1 rfl (Nat.le_of_ble_eq_true rfl) dX6_setMirror_54 ⟨Nat.zero_le _, Nat.zero_le _⟩ (fun H locs hP hD hS => ?_)
      refine fr_iinc (((4 * tn x) + 1)) ((((4 * tn x) + 1) + 1)) (nI_inc _) (lv' := [(4, .int (nI ((((4 * tn x) + 1) + 1)))), (3, .int (nI 1560)), (0, .ref (md 0)), (1, .int (x)), (2, .int (bI (u)))]) (k := 0) hx hb dX6_setMirror_57 hl rfl (by decide) rfl (fun ls hl => ?_)
      refine lv_goto (tgt := 40) hx hb dX6_setMirror_60 (by decide) ?_
      refine lv_iload hx hb dX6_setMirror_40 (lv_at hl 0 rfl) ?_
      refine lv_iconst (v := nI 4) hx hb dX6_setMirror_42 (by decide) ?_
      refine lv_iload_n hx hb dX6_setMirror_43 rfl (lv_at hl 3 rfl) ?_
      refine fr_val e_2 ?_
      refine fr_imul (4) (tn x) hx hb dX6_setMirror_44 ?_
      refine lv_iconst (v := nI 4) hx hb dX6_setMirror_45 (by decide) ?_
      refine fr_iadd ((4 * tn x)) (4) hx hb dX6_setMirror_46 ?_
      refine fr_icmp_ge ((((4 * tn x) + 1) + 1)) (((4 * tn x) + 4)) (by omega) (by omega) (tgt := 63) hx hb dX6_setMirror_47 (by decide) (fun z => absurd z (by omega)) (fun _ => ?_)
      refine lv_aload_n hx hb dX6_setMirror_50 rfl (lv_at hl 2 rfl) ?_
      refine lv_iload_n hx hb dX6_setMirror_51 rfl (lv_at hl 1 rfl) ?_
      refine lv_iload hx hb dX6_setMirror_52 (lv_at hl 0 rfl) ?_
      refine fr_Vv (As := [.int (nI 1560), .int (nI ((((4 * tn x) + 1) + 1)))]) (rest := []) (fs' := [[((md 0), .inr (6, [.ref (md 1), .int (nI (n)), .ref (md 2), .int (nI (len)), .int (nI (p)), .int (nI (le)), .ref (md 3), .ref (md 4)]))], [((md 1), .inl (T 0, 1872, .inl (mWr (mWr (mWr (upd (mCp σ 0 5) (1800 + tn x) (nI 1)) 1560 (4 * tn x)) 1560 ((4 * tn x) + 1)) 1560 (((4 * tn x) + 1) + 1))))]]) (ci := 6) (q0 := (RX6, TX6, 8)) (i0 := 0) ⟨hx, hb, hml, hown, hts⟩ (kX6_written l D T Z md n len p le (mWr (mWr (upd (mCp σ 0 5) (1800 + tn x) (nI 1)) 1560 (4 * tn x)) 1560 ((4 * tn x) + 1)) 1560 (((4 * tn x) + 1) + 1) (by decide) (by omega)) (cwV 2 hts gX6_setMirror_X6_written rfl rfl rfl (by decide +kernel) ⟨Nat.le_of_ble_eq_true rfl, Nat.le_of_ble_eq_true rfl⟩) hK hN hM hP hD hS hA [0, 1] rfl rfl rfl rfl rfl rfl hl.1 rfl (Nat.le_of_ble_eq_true rfl) dX6_setMirror_54 ⟨Nat.zero_le _, Nat.zero_le _⟩ (fun H locs hP hD hS => ?_)
      refine fr_iinc ((((4 * tn x) + 1) + 1)) (((((4 * tn x) + 1) + 1) + 1)) (nI_inc _) (lv' := [(4, .int (nI (((((4 * tn x) + 1) + 1) + 1)))), (3, .int (nI 1560)), (0, .ref (md 0)), (1, .int (x)), (2, .int (bI (u)))]) (k := 0) hx hb dX6_setMirror_57 hl rfl (by decide) rfl (fun ls hl => ?_)
      refine lv_goto (tgt := 40) hx hb dX6_setMirror_60 (by decide) ?_
      refine lv_iload hx hb dX6_setMirror_40 (lv_at hl 0 rfl) ?_
      refine lv_iconst (v := nI 4) hx hb dX6_setMirror_42 (by decide) ?_
      refine lv_iload_n hx hb dX6_setMirror_43 rfl (lv_at hl 3 rfl) ?_
      refine fr_val e_2 ?_
      refine fr_imul (4) (tn x) hx hb dX6_setMirror_44 ?_
      refine lv_iconst (v := nI 4) hx hb dX6_setMirror_45 (by decide) ?_
      refine fr_iadd ((4 * tn x)) (4) hx hb dX6_setMirror_46 ?_
      refine fr_icmp_ge (((((4 * tn x) + 1) + 1) + 1)) (((4 * tn x) + 4)) (by omega) (by omega) (tgt := 63) hx hb dX6_setMirror_47 (by decide) (fun z => absurd z (by omega)) (fun _ => ?_)
      refine lv_aload_n hx hb dX6_setMirror_50 rfl (lv_at hl 2 rfl) ?_
      refine lv_iload_n hx hb dX6_setMirror_51 rfl (lv_at hl 1 rfl) ?_
      refine lv_iload hx hb dX6_setMirror_52 (lv_at hl 0 rfl) ?_
      refine fr_Vv (As := [.int (nI 1560), .int (nI (((((4 * tn x) + 1) + 1) + 1)))]) (rest := []) (fs' := [[((md 0), .inr (6, [.ref (md 1), .int (nI (n)), .ref (md 2), .int (nI (len)), .int (nI (p)), .int (nI (le)), .ref (md 3), .ref (md 4)]))], [((md 1), .inl (T 0, 1872, .inl (mWr (mWr (mWr (mWr (upd (mCp σ 0 5) (1800 + tn x) (nI 1)) 1560 (4 * tn x)) 1560 ((4 * tn x) + 1)) 1560 (((4 * tn x) + 1) + 1)) 1560 ((((4 * tn x) + 1) + 1) + 1))))]]) (ci := 6) (q0 := (RX6, TX6, 8)) (i0 := 0) ⟨hx, hb, hml, hown, hts⟩ (kX6_written l D T Z md n len p le (mWr (mWr (mWr (upd (mCp σ 0 5) (1800 + tn x) (nI 1)) 1560 (4 * tn x)) 1560 ((4 * tn x) + 1)) 1560 (((4 * tn x) + 1) + 1)) 1560 ((((4 * tn x) + 1) + 1) + 1) (by decide) (by omega)) (cwV 2 hts gX6_setMirror_X6_written rfl rfl rfl (by decide +kernel) ⟨Nat.le_of_ble_eq_true rfl, Nat.le_of_ble_eq_true rfl⟩) hK hN hM hP hD hS hA [0, 1] rfl rfl rfl rfl rfl rfl hl.1 rfl (Nat.le_of_ble_eq_true rfl) dX6_setMirror_54 ⟨Nat.zero_le _, Nat.zero_le _⟩ (fun H locs hP hD hS => ?_)
      refine fr_iinc (((((4 * tn x) + 1) + 1) + 1)) ((((((4 * tn x) + 1) + 1) + 1) + 1)) (nI_inc _) (lv' := [(4, .int (nI ((((((4 * tn x) + 1) + 1) + 1) + 1)))), (3, .int (nI 1560)), (0, .ref (md 0)), (1, .int (x)), (2, .int (bI (u)))]) (k := 0) hx hb dX6_setMirror_57 hl rfl (by decide) rfl (fun ls hl => ?_)
      refine lv_goto (tgt := 40) hx hb dX6_setMirror_60 (by decide) ?_
      refine lv_iload hx hb dX6_setMirror_40 (lv_at hl 0 rfl) ?_
      refine lv_iconst (v := nI 4) hx hb dX6_setMirror_42 (by decide) ?_
      refine lv_iload_n hx hb dX6_setMirror_43 rfl (lv_at hl 3 rfl) ?_
      refine fr_val e_2 ?_
      refine fr_imul (4) (tn x) hx hb dX6_setMirror_44 ?_
      refine lv_iconst (v := nI 4) hx hb dX6_setMirror_45 (by decide) ?_
      refine fr_iadd ((4 * tn x)) (4) hx hb dX6_setMirror_46 ?_
      refine fr_icmp_ge ((((((4 * tn x) + 1) + 1) + 1) + 1)) (((4 * tn x) + 4)) (by omega) (by omega) (tgt := 63) hx hb dX6_setMirror_47 (by decide) (fun _ => ?_) (fun z => absurd z (by omega))
      refine lv_iconst (v := nI 0) hx hb dX6_setMirror_63 (by decide) ?_
      refine lv_istore (lv' := [(4, .int (nI 0)), (3, .int (nI 1560)), (0, .ref (md 0)), (1, .int (x)), (2, .int (bI (u)))]) hx hb dX6_setMirror_64 hl (by decide) rfl (fun ls hl => ?_)
      refine lv_iconst (v := nI 0) hx hb dX6_setMirror_66 (by decide) ?_
      refine lv_istore (lv' := [(5, .int (nI 0)), (4, .int (nI 0)), (3, .int (nI 1560)), (0, .ref (md 0)), (1, .int (x)), (2, .int (bI (u)))]) hx hb dX6_setMirror_67 hl (by decide) rfl (fun ls hl => ?_)
      have loop69 : ∀ (n9 k9 : Nat), k9 ≤ 8 → 8 < k9 + n9 → ∀ (H : Heap) (locs : List Loc), frP D [[((md 0), .inr (6, [.ref (md 1), .int (nI (n)), .ref (md 2), .int (nI (len)), .int (nI (p)), .int (nI (le)), .ref (md 3), .ref (md 4)]))], [((md 1), .inl (T 0, 1872, .inl (mMirS (mCp σ 0 5) 1560 (tn x) u)))]] H → va_D A ([[((md 0), .inr (6, [.ref (md 1), .int (nI (n)), .ref (md 2), .int (nI (len)), .int (nI (p)), .int (nI (le)), .ref (md 3), .ref (md 4)]))], [((md 1), .inl (T 0, 1872, .inl (mMirS (mCp σ 0 5) 1560 (tn x) u)))]] : List va_W).flatten → va_S A s.heap H locs → ∀ (ls : Array Slot), lv_has ls 6 [(5, .int (nI (k9))), (4, .int (sumI (fun k => mMirS (mCp σ 0 5) 1560 (tn x) u (1560 + 240 + k)) k9)), (3, .int (nI 1560)), (0, .ref (md 0)), (1, .int (x)), (2, .int (bI (u)))] → W pP l eE ({ frames := 2, cells := 0, slots := 0, locals := 47 }) s mM ([.ref (md 0), .int (x), .int (bI (u))] : List Value).toArray bW mE cC H locs 0 0 (MQ bW (QcI D [[((md 0), .inr (6, [.ref (md 1), .int (nI (mAN (iN x 8) n (sumI (fun k => mMirS (mCp σ 0 5) 1560 (tn x) u (1560 + 240 + k)) 8))), .ref (md 2), .int (nI (len)), .int (nI (p)), .int (nI (le)), .ref (md 3), .ref (md 4)]))], [((md 1), .inl (T 0, 1872, .inl (mAS (iN x 8) (mMirS (mCp σ 0 5) 1560 (tn x) u) n (sumI (fun k => mMirS (mCp σ 0 5) 1560 (tn x) u (1560 + 240 + k)) 8) σ)))]] (if iN x 8 then sumI (fun k => mMirS (mCp σ 0 5) 1560 (tn x) u (1560 + 240 + k)) 8 else -1) A) ([.ref (md 0), .int (x), .int (bI (u))] : List Value).toArray s 0 0 A) (F0 mM 69 ls []) := by
        intro n9
        induction n9 with
        | zero => intro k9 h1 h2; exact absurd h2 (by omega)
        | succ n9 ih =>
          intro k9 hk1 hk2 H locs hP hD hS ls hl
          refine lv_iload hx hb dX6_setMirror_69 (lv_at hl 0 rfl) ?_
          refine lv_bipush (v := nI 8) hx hb dX6_setMirror_71 (by decide) ?_
          refine fr_icmp_ge (k9) (8) (by omega) (by decide) (tgt := 100) hx hb dX6_setMirror_73 (by decide) (fun c_8 => ?_) (fun c_8 => ?_)
          · have c_8' := Nat.not_lt.mpr c_8
            obtain rfl : k9 = 8 := by omega
            refine lv_aload_n hx hb dX6_setMirror_100 rfl (lv_at hl 3 rfl) ?_
            refine lv_iload hx hb dX6_setMirror_101 (lv_at hl 1 rfl) ?_
            refine fr_Vi (As := [.int (sumI (fun k => mMirS (mCp σ 0 5) 1560 (tn x) u (1560 + 240 + k)) 8)]) (rest := []) (fs' := [[((md 0), .inr (6, [.ref (md 1), .int (nI (nAcc n (sumI (fun k => mMirS (mCp σ 0 5) 1560 (tn x) u (1560 + 240 + k)) 8))), .ref (md 2), .int (nI (len)), .int (nI (p)), .int (nI (le)), .ref (md 3), .ref (md 4)]))], [((md 1), .inl (T 0, 1872, .inl (mAcc (mMirS (mCp σ 0 5) 1560 (tn x) u) n (sumI (fun k => mMirS (mCp σ 0 5) 1560 (tn x) u (1560 + 240 + k)) 8))))]]) (ci := 6) (q0 := (RX6, TX6, 8)) (i0 := 0) ⟨hx, hb, hml, hown, hts⟩ (kX6_accepts l D T Z md n len p le (mMirS (mCp σ 0 5) 1560 (tn x) u) (sumI (fun k => mMirS (mCp σ 0 5) 1560 (tn x) u (1560 + 240 + k)) 8) (by omega)) (cwV 1 hts gX6_setMirror_X6_accepts rfl rfl rfl (by decide +kernel) ⟨Nat.le_of_ble_eq_true rfl, Nat.le_of_ble_eq_true rfl⟩) hK hN hM hP hD hS hA [0, 1] rfl rfl rfl rfl rfl rfl hl.1 rfl (Nat.le_of_ble_eq_true rfl) dX6_setMirror_103 ⟨Nat.zero_le _, Nat.zero_le _⟩ (fun H locs hP hD hS => ?_)
            exact fr_iret hx hb hr hlk hP hS (by first | with_reducible rfl | (simp only [mMirS, mAS, mAN, c_1, c_3, c_8, c_8', ↓reduceIte, Bool.false_eq_true, bI_true, bI_false, Bool.true_and, Bool.and_true, Bool.and_false, Bool.false_and, Bool.not_true, Bool.not_false, Bool.or_true, Bool.true_or, Bool.or_false, Bool.false_or] <;> with_reducible rfl) | (simp only [mMirS, mAS, mAN, c_1, c_3, c_8, c_8', ↓reduceIte, Bool.false_eq_true, bI_true, bI_false, Bool.true_and, Bool.and_true, Bool.and_false, Bool.false_and, Bool.not_true, Bool.not_false, Bool.or_true, Bool.true_or, Bool.or_false, Bool.false_or] <;> rfl) | (simp [mMirS, mAS, mAN, c_1, c_3, c_8, c_8', bI]; done)) (by first | with_reducible rfl | (simp only [mMirS, mAS, mAN, c_1, c_3, c_8, c_8', ↓reduceIte, Bool.false_eq_true, bI_true, bI_false, Bool.true_and, Bool.and_true, Bool.and_false, Bool.false_and, Bool.not_true, Bool.not_false, Bool.or_true, Bool.true_or, Bool.or_false, Bool.false_or] <;> with_reducible rfl) | (simp only [mMirS, mAS, mAN, c_1, c_3, c_8, c_8', ↓reduceIte, Bool.false_eq_true, bI_true, bI_false, Bool.true_and, Bool.and_true, Bool.and_false, Bool.false_and, Bool.not_true, Bool.not_false, Bool.or_true, Bool.true_or, Bool.or_false, Bool.false_or] <;> rfl) | (simp [mMirS, mAS, mAN, c_1, c_3, c_8, c_8', bI]; done)) dX6_setMirror_106
          · have c_8' := Nat.not_le.mpr c_8
            refine lv_iload hx hb dX6_setMirror_76 (lv_at hl 1 rfl) ?_
            refine lv_aload_n hx hb dX6_setMirror_78 rfl (lv_at hl 3 rfl) ?_
            refine va_get (D := D) (ci := 6) (v := .ref (md 1)) (C := RX6) (T := TX6) (N := 8) hx hb hts hinX6 hown hK (hP.at 0 rfl) 0 rfl rfl 0 (by decide) w_7 (fun _ h9 => h9) rfl dX6_setMirror_79 ?_
            refine lv_iload_n hx hb dX6_setMirror_82 rfl (lv_at hl 2 rfl) ?_
            refine lv_sipush (v := nI 240) hx hb dX6_setMirror_83 (by decide) ?_
            refine fr_iadd (1560) (240) hx hb dX6_setMirror_86 ?_
            refine lv_iload hx hb dX6_setMirror_87 (lv_at hl 0 rfl) ?_
            refine fr_iadd (1800) (k9) hx hb dX6_setMirror_89 ?_
            refine fr_iald hx hb hK hP 1 ((1800 + k9)) rfl (by omega) (by omega) dX6_setMirror_90 ?_
            refine lv_iadd hx hb dX6_setMirror_91 ?_
            refine lv_istore (lv' := [(4, .int ((sumI (fun k => mMirS (mCp σ 0 5) 1560 (tn x) u (1560 + 240 + k)) k9) + ((mMirS (mCp σ 0 5) 1560 (tn x) u) (1800 + k9)))), (5, .int (nI (k9))), (3, .int (nI 1560)), (0, .ref (md 0)), (1, .int (x)), (2, .int (bI (u)))]) hx hb dX6_setMirror_92 hl (by decide) rfl (fun ls hl => ?_)
            refine fr_iinc (k9) ((k9 + 1)) (nI_inc _) (lv' := [(5, .int (nI ((k9 + 1)))), (4, .int ((sumI (fun k => mMirS (mCp σ 0 5) 1560 (tn x) u (1560 + 240 + k)) k9) + ((mMirS (mCp σ 0 5) 1560 (tn x) u) (1800 + k9)))), (3, .int (nI 1560)), (0, .ref (md 0)), (1, .int (x)), (2, .int (bI (u)))]) (k := 1) hx hb dX6_setMirror_94 hl rfl (by decide) rfl (fun ls hl => ?_)
            refine lv_goto (tgt := 69) hx hb dX6_setMirror_97 (by decide) ?_
            have q_9 : ((sumI (fun k => mMirS (mCp σ 0 5) 1560 (tn x) u (1560 + 240 + k)) k9) + ((mMirS (mCp σ 0 5) 1560 (tn x) u) (1800 + k9)) : Int32) = sumI (fun k => mMirS (mCp σ 0 5) 1560 (tn x) u (1560 + 240 + k)) (k9 + 1) := (by rfl)
            rw [q_9] at hl
            exact ih  ((k9 + 1)) (by omega) (by omega) H locs hP hD hS ls (lv_sub hl [0, 1, 2, 3, 4, 5] rfl)
      have q_10 : (nI 0 : Int32) = sumI (fun k => mMirS (mCp σ 0 5) 1560 (tn x) u (1560 + 240 + k)) 0 := (by first | rfl | (simp only [mMirS, mMirS, mAS, mAN, c_1, c_3, ↓reduceIte, Bool.false_eq_true, bI_true, bI_false, Bool.true_and, Bool.and_true, Bool.and_false, Bool.false_and, Bool.not_true, Bool.not_false, Bool.or_true, Bool.true_or, Bool.or_false, Bool.false_or] <;> rfl))
      rw [q_10] at hl
      have q_11 : ([[((md 0), .inr (6, [.ref (md 1), .int (nI (n)), .ref (md 2), .int (nI (len)), .int (nI (p)), .int (nI (le)), .ref (md 3), .ref (md 4)]))], [((md 1), .inl (T 0, 1872, .inl (mWr (mWr (mWr (mWr (upd (mCp σ 0 5) (1800 + tn x) (nI 1)) 1560 (4 * tn x)) 1560 ((4 * tn x) + 1)) 1560 (((4 * tn x) + 1) + 1)) 1560 ((((4 * tn x) + 1) + 1) + 1))))]] : List va_W) = [[((md 0), .inr (6, [.ref (md 1), .int (nI (n)), .ref (md 2), .int (nI (len)), .int (nI (p)), .int (nI (le)), .ref (md 3), .ref (md 4)]))], [((md 1), .inl (T 0, 1872, .inl (mMirS (mCp σ 0 5) 1560 (tn x) u)))]] := (by first | rfl | (simp only [mMirS, mMirS, mAS, mAN, c_1, c_3, ↓reduceIte, Bool.false_eq_true, bI_true, bI_false, Bool.true_and, Bool.and_true, Bool.and_false, Bool.false_and, Bool.not_true, Bool.not_false, Bool.or_true, Bool.true_or, Bool.or_false, Bool.false_or] <;> rfl))
      rw [q_11] at hP hD
      exact loop69 (8 + 1) (0) (by omega) (by omega) _ _ hP hD hS ls (lv_sub hl [0, 1, 2, 3, 4, 5] rfl)
  · refine lv_iconst (v := (-1)) hx hb dX6_setMirror_7 (by decide) ?_
    exact fr_iret hx hb hr hlk hP hS (by first | with_reducible rfl | (simp only [mMirS, mAS, mAN, c_1, ↓reduceIte, Bool.false_eq_true, bI_true, bI_false, Bool.true_and, Bool.and_true, Bool.and_false, Bool.false_and, Bool.not_true, Bool.not_false, Bool.or_true, Bool.true_or, Bool.or_false, Bool.false_or] <;> with_reducible rfl) | (simp only [mMirS, mAS, mAN, c_1, ↓reduceIte, Bool.false_eq_true, bI_true, bI_false, Bool.true_and, Bool.and_true, Bool.and_false, Bool.false_and, Bool.not_true, Bool.not_false, Bool.or_true, Bool.true_or, Bool.or_false, Bool.false_or] <;> rfl) | (simp [mMirS, mAS, mAN, c_1, bI]; done)) (by first | with_reducible rfl | (simp only [mMirS, mAS, mAN, c_1, ↓reduceIte, Bool.false_eq_true, bI_true, bI_false, Bool.true_and, Bool.and_true, Bool.and_false, Bool.false_and, Bool.not_true, Bool.not_false, Bool.or_true, Bool.true_or, Bool.or_false, Bool.false_or] <;> with_reducible rfl) | (simp only [mMirS, mAS, mAN, c_1, ↓reduceIte, Bool.false_eq_true, bI_true, bI_false, Bool.true_and, Bool.and_true, Bool.and_false, Bool.false_and, Bool.not_true, Bool.not_false, Bool.or_true, Bool.true_or, Bool.or_false, Bool.false_or] <;> rfl) | (simp [mMirS, mAS, mAN, c_1, bI]; done)) dX6_setMirror_8
