
set_option maxHeartbeats 8000000 in
set_option maxRecDepth 100000 in
theorem kX3_isOrigin (l : Launch) (D : va_G) (T : Nat → ClassId) (Z : ZZ) (ad : Nat → Nat) (ν : NS) (x : Int32) (hi : WH (ν 15 0) 20) : CtI l D T Z yX3_isOrigin wsX3_isOrigin ({ frames := 0, cells := 0, slots := 0, locals := 0 }) (stF T ad ν) [.ref (ad 0), .int (x)] (bI (iN x (tn (ν 15 0)))) (stF T ad ν) := by
  have hi2 := hi.2
  refine CtI.of (cc := cX3_isOrigin) (maxL := 2) (ret := (some .boolean)) (plainFor_of_name (by decide)) rfl rfl ?_
  intro pP eE s mM bW mE cC A hE hK hN hM hP hD hA
  obtain ⟨hx, hb, hr, hts, hown, hml, hlk⟩ := hE
  have hown : s.vm.findClass RX3 = some mM.cls := hown
  have hP : frP D [[((ad 0), .inr (3, [.ref (ad 1), .ref (ad 5), .ref (ad 9), .ref (ad 13), .ref (ad 14), .ref (ad 15), .ref (ad 16), .ref (ad 17), .int (ν 15 0), .int (ν 15 1)]))], [((ad 1), .inr (0, [.ref (ad 2), .ref (ad 3), .ref (ad 4)]))], [((ad 2), .inl (T 0, 32, .inl (ν 0)))], [((ad 3), .inl (T 0, 32, .inl (ν 1)))], [((ad 4), .inl (T 0, 32, .inl (ν 2)))], [((ad 5), .inr (0, [.ref (ad 6), .ref (ad 7), .ref (ad 8)]))], [((ad 6), .inl (T 0, 32, .inl (ν 3)))], [((ad 7), .inl (T 0, 32, .inl (ν 4)))], [((ad 8), .inl (T 0, 32, .inl (ν 5)))], [((ad 9), .inr (0, [.ref (ad 10), .ref (ad 11), .ref (ad 12)]))], [((ad 10), .inl (T 0, 16, .inl (ν 6)))], [((ad 11), .inl (T 0, 16, .inl (ν 7)))], [((ad 12), .inl (T 0, 16, .inl (ν 8)))], [((ad 13), .inl (T 1, 8, .inl (bf (ν 9))))], [((ad 14), .inl (T 0, 4, .inl (ν 10)))], [((ad 15), .inl (T 1, 4, .inl (bf (ν 11))))], [((ad 16), .inl (T 0, 20, .inl (ν 12)))], [((ad 17), .inr (1, [.ref (ad 18), .int (ν 14 0), .int (ν 14 1)]))], [((ad 18), .inl (T 0, 32, .inl (ν 13)))]] s.heap := hP
  have hD : va_D A ([[((ad 0), .inr (3, [.ref (ad 1), .ref (ad 5), .ref (ad 9), .ref (ad 13), .ref (ad 14), .ref (ad 15), .ref (ad 16), .ref (ad 17), .int (ν 15 0), .int (ν 15 1)]))], [((ad 1), .inr (0, [.ref (ad 2), .ref (ad 3), .ref (ad 4)]))], [((ad 2), .inl (T 0, 32, .inl (ν 0)))], [((ad 3), .inl (T 0, 32, .inl (ν 1)))], [((ad 4), .inl (T 0, 32, .inl (ν 2)))], [((ad 5), .inr (0, [.ref (ad 6), .ref (ad 7), .ref (ad 8)]))], [((ad 6), .inl (T 0, 32, .inl (ν 3)))], [((ad 7), .inl (T 0, 32, .inl (ν 4)))], [((ad 8), .inl (T 0, 32, .inl (ν 5)))], [((ad 9), .inr (0, [.ref (ad 10), .ref (ad 11), .ref (ad 12)]))], [((ad 10), .inl (T 0, 16, .inl (ν 6)))], [((ad 11), .inl (T 0, 16, .inl (ν 7)))], [((ad 12), .inl (T 0, 16, .inl (ν 8)))], [((ad 13), .inl (T 1, 8, .inl (bf (ν 9))))], [((ad 14), .inl (T 0, 4, .inl (ν 10)))], [((ad 15), .inl (T 1, 4, .inl (bf (ν 11))))], [((ad 16), .inl (T 0, 20, .inl (ν 12)))], [((ad 17), .inr (1, [.ref (ad 18), .int (ν 14 0), .int (ν 14 1)]))], [((ad 18), .inl (T 0, 32, .inl (ν 13)))]] : List va_W).flatten := hD
  have hS : va_S A s.heap s.heap [] := va_S.rf
  have hl := lv_entry ([.ref (ad 0), .int (x)]) (n := 2) (Nat.le_of_ble_eq_true rfl)
  rw [lg_entry_eq]
  generalize (lg_sl ([.ref (ad 0), .int (x)]) ++ List.replicate (2 - (lg_sl ([.ref (ad 0), .int (x)])).length) Slot.unset).toArray = ls at hl ⊢
  have hl : lv_has ls 2 [(0, .ref (ad 0)), (1, .int (x))] := hl
  have w_64 := hts (.fieldLink RX3 64 "PoisonedMemory$State" "injections" "I") (by decide +kernel)
  have hinX3 : ∀ w ∈ wsX30, w ∈ wsX3_isOrigin := by decide +kernel
  refine lv_iload_n hx hb dX3_isOrigin_0 rfl (lv_at hl 1 rfl) ?_
  refine lv_if_lt (tgt := 16) hx hb dX3_isOrigin_1 (by decide) (fun c_1 => ?_) (fun c_1 => ?_)
  · have c_1' := Int32.not_le.mpr c_1
    refine lv_iconst (v := nI 0) hx hb dX3_isOrigin_16 (by decide) ?_
    exact fr_zret hx hb hr hlk hP hS (by first | rfl | (simp only [iN, bI, c_1, c_1', ↓reduceIte, Bool.false_eq_true, bI_true, bI_false, Bool.true_and, Bool.and_true, Bool.and_false, Bool.false_and, Bool.not_true, Bool.not_false, Bool.or_true, Bool.true_or, Bool.or_false, Bool.false_or] <;> rfl) | (simp [iN, bI, c_1, c_1', bI]; done)) rfl rfl dX3_isOrigin_17
  · have c_1' := Int32.not_lt.mp c_1
    refine lv_iload_n hx hb dX3_isOrigin_4 rfl (lv_at hl 1 rfl) ?_
    refine lv_aload_n hx hb dX3_isOrigin_5 rfl (lv_at hl 0 rfl) ?_
    refine va_get (D := D) (ci := 3) (v := .int (ν 15 0)) (C := RX3) (T := TX3) (N := 10) hx hb hts hinX3 hown hK (hP.at 0 rfl) 0 rfl rfl 8 (by decide) w_64 (fun _ h9 => h9) rfl dX3_isOrigin_6 ?_
    refine fr_val hi.1 ?_
    refine lv_icmp_ge (tgt := 16) hx hb dX3_isOrigin_9 (by decide) (fun c_2 => ?_) (fun c_2 => ?_)
    · have c_2' := Int32.not_lt.mpr c_2
      refine lv_iconst (v := nI 0) hx hb dX3_isOrigin_16 (by decide) ?_
      exact fr_zret hx hb hr hlk hP hS (by first | rfl | (simp only [iN, bI, c_1, c_1', c_2, c_2', ↓reduceIte, Bool.false_eq_true, bI_true, bI_false, Bool.true_and, Bool.and_true, Bool.and_false, Bool.false_and, Bool.not_true, Bool.not_false, Bool.or_true, Bool.true_or, Bool.or_false, Bool.false_or] <;> rfl) | (simp [iN, bI, c_1, c_1', c_2, c_2', bI]; done)) rfl rfl dX3_isOrigin_17
    · have c_2' := Int32.not_le.mp c_2
      refine lv_iconst (v := nI 1) hx hb dX3_isOrigin_12 (by decide) ?_
      refine lv_goto (tgt := 17) hx hb dX3_isOrigin_13 (by decide) ?_
      exact fr_zret hx hb hr hlk hP hS (by first | rfl | (simp only [iN, bI, c_1, c_1', c_2, c_2', ↓reduceIte, Bool.false_eq_true, bI_true, bI_false, Bool.true_and, Bool.and_true, Bool.and_false, Bool.false_and, Bool.not_true, Bool.not_false, Bool.or_true, Bool.true_or, Bool.or_false, Bool.false_or] <;> rfl) | (simp [iN, bI, c_1, c_1', c_2, c_2', bI]; done)) rfl rfl dX3_isOrigin_17

set_option maxHeartbeats 8000000 in
set_option maxRecDepth 100000 in
theorem kX3_countMirrored (l : Launch) (D : va_G) (T : Nat → ClassId) (Z : ZZ) (ad : Nat → Nat) (ν : NS)  : CtI l D T Z yX3_countMirrored wsX3_countMirrored ({ frames := 0, cells := 0, slots := 0, locals := 0 }) (stF T ad ν) [.ref (ad 0)] (nI (cntB (ν 9) 8)) (stF T ad ν) := by
  refine CtI.of (cc := cX3_countMirrored) (maxL := 3) (ret := (some .int)) (plainFor_of_name (by decide)) rfl rfl ?_
  intro pP eE s mM bW mE cC A hE hK hN hM hP hD hA
  obtain ⟨hx, hb, hr, hts, hown, hml, hlk⟩ := hE
  have hown : s.vm.findClass RX3 = some mM.cls := hown
  have hP : frP D [[((ad 0), .inr (3, [.ref (ad 1), .ref (ad 5), .ref (ad 9), .ref (ad 13), .ref (ad 14), .ref (ad 15), .ref (ad 16), .ref (ad 17), .int (ν 15 0), .int (ν 15 1)]))], [((ad 1), .inr (0, [.ref (ad 2), .ref (ad 3), .ref (ad 4)]))], [((ad 2), .inl (T 0, 32, .inl (ν 0)))], [((ad 3), .inl (T 0, 32, .inl (ν 1)))], [((ad 4), .inl (T 0, 32, .inl (ν 2)))], [((ad 5), .inr (0, [.ref (ad 6), .ref (ad 7), .ref (ad 8)]))], [((ad 6), .inl (T 0, 32, .inl (ν 3)))], [((ad 7), .inl (T 0, 32, .inl (ν 4)))], [((ad 8), .inl (T 0, 32, .inl (ν 5)))], [((ad 9), .inr (0, [.ref (ad 10), .ref (ad 11), .ref (ad 12)]))], [((ad 10), .inl (T 0, 16, .inl (ν 6)))], [((ad 11), .inl (T 0, 16, .inl (ν 7)))], [((ad 12), .inl (T 0, 16, .inl (ν 8)))], [((ad 13), .inl (T 1, 8, .inl (bf (ν 9))))], [((ad 14), .inl (T 0, 4, .inl (ν 10)))], [((ad 15), .inl (T 1, 4, .inl (bf (ν 11))))], [((ad 16), .inl (T 0, 20, .inl (ν 12)))], [((ad 17), .inr (1, [.ref (ad 18), .int (ν 14 0), .int (ν 14 1)]))], [((ad 18), .inl (T 0, 32, .inl (ν 13)))]] s.heap := hP
  have hD : va_D A ([[((ad 0), .inr (3, [.ref (ad 1), .ref (ad 5), .ref (ad 9), .ref (ad 13), .ref (ad 14), .ref (ad 15), .ref (ad 16), .ref (ad 17), .int (ν 15 0), .int (ν 15 1)]))], [((ad 1), .inr (0, [.ref (ad 2), .ref (ad 3), .ref (ad 4)]))], [((ad 2), .inl (T 0, 32, .inl (ν 0)))], [((ad 3), .inl (T 0, 32, .inl (ν 1)))], [((ad 4), .inl (T 0, 32, .inl (ν 2)))], [((ad 5), .inr (0, [.ref (ad 6), .ref (ad 7), .ref (ad 8)]))], [((ad 6), .inl (T 0, 32, .inl (ν 3)))], [((ad 7), .inl (T 0, 32, .inl (ν 4)))], [((ad 8), .inl (T 0, 32, .inl (ν 5)))], [((ad 9), .inr (0, [.ref (ad 10), .ref (ad 11), .ref (ad 12)]))], [((ad 10), .inl (T 0, 16, .inl (ν 6)))], [((ad 11), .inl (T 0, 16, .inl (ν 7)))], [((ad 12), .inl (T 0, 16, .inl (ν 8)))], [((ad 13), .inl (T 1, 8, .inl (bf (ν 9))))], [((ad 14), .inl (T 0, 4, .inl (ν 10)))], [((ad 15), .inl (T 1, 4, .inl (bf (ν 11))))], [((ad 16), .inl (T 0, 20, .inl (ν 12)))], [((ad 17), .inr (1, [.ref (ad 18), .int (ν 14 0), .int (ν 14 1)]))], [((ad 18), .inl (T 0, 32, .inl (ν 13)))]] : List va_W).flatten := hD
  have hS : va_S A s.heap s.heap [] := va_S.rf
  have hl := lv_entry ([.ref (ad 0)]) (n := 3) (Nat.le_of_ble_eq_true rfl)
  rw [lg_entry_eq]
  generalize (lg_sl ([.ref (ad 0)]) ++ List.replicate (3 - (lg_sl ([.ref (ad 0)])).length) Slot.unset).toArray = ls at hl ⊢
  have hl : lv_has ls 3 [(0, .ref (ad 0))] := hl
  have w_26 := hts (.fieldLink RX3 26 "PoisonedMemory$State" "mirrored" "[Z") (by decide +kernel)
  have hinX3 : ∀ w ∈ wsX30, w ∈ wsX3_countMirrored := by decide +kernel
  refine lv_iconst (v := nI 0) hx hb dX3_countMirrored_0 (by decide) ?_
  refine lv_istore_n (lv' := [(1, .int (nI 0)), (0, .ref (ad 0))]) hx hb dX3_countMirrored_1 rfl hl (by decide) rfl (fun ls hl => ?_)
  refine lv_iconst (v := nI 0) hx hb dX3_countMirrored_2 (by decide) ?_
  refine lv_istore_n (lv' := [(2, .int (nI 0)), (1, .int (nI 0)), (0, .ref (ad 0))]) hx hb dX3_countMirrored_3 rfl hl (by decide) rfl (fun ls hl => ?_)
  have loop4 : ∀ (n9 k9 : Nat), k9 ≤ 8 → 8 < k9 + n9 → ∀ (H : Heap) (locs : List Loc), frP D [[((ad 0), .inr (3, [.ref (ad 1), .ref (ad 5), .ref (ad 9), .ref (ad 13), .ref (ad 14), .ref (ad 15), .ref (ad 16), .ref (ad 17), .int (ν 15 0), .int (ν 15 1)]))], [((ad 1), .inr (0, [.ref (ad 2), .ref (ad 3), .ref (ad 4)]))], [((ad 2), .inl (T 0, 32, .inl (ν 0)))], [((ad 3), .inl (T 0, 32, .inl (ν 1)))], [((ad 4), .inl (T 0, 32, .inl (ν 2)))], [((ad 5), .inr (0, [.ref (ad 6), .ref (ad 7), .ref (ad 8)]))], [((ad 6), .inl (T 0, 32, .inl (ν 3)))], [((ad 7), .inl (T 0, 32, .inl (ν 4)))], [((ad 8), .inl (T 0, 32, .inl (ν 5)))], [((ad 9), .inr (0, [.ref (ad 10), .ref (ad 11), .ref (ad 12)]))], [((ad 10), .inl (T 0, 16, .inl (ν 6)))], [((ad 11), .inl (T 0, 16, .inl (ν 7)))], [((ad 12), .inl (T 0, 16, .inl (ν 8)))], [((ad 13), .inl (T 1, 8, .inl (bf (ν 9))))], [((ad 14), .inl (T 0, 4, .inl (ν 10)))], [((ad 15), .inl (T 1, 4, .inl (bf (ν 11))))], [((ad 16), .inl (T 0, 20, .inl (ν 12)))], [((ad 17), .inr (1, [.ref (ad 18), .int (ν 14 0), .int (ν 14 1)]))], [((ad 18), .inl (T 0, 32, .inl (ν 13)))]] H → va_D A ([[((ad 0), .inr (3, [.ref (ad 1), .ref (ad 5), .ref (ad 9), .ref (ad 13), .ref (ad 14), .ref (ad 15), .ref (ad 16), .ref (ad 17), .int (ν 15 0), .int (ν 15 1)]))], [((ad 1), .inr (0, [.ref (ad 2), .ref (ad 3), .ref (ad 4)]))], [((ad 2), .inl (T 0, 32, .inl (ν 0)))], [((ad 3), .inl (T 0, 32, .inl (ν 1)))], [((ad 4), .inl (T 0, 32, .inl (ν 2)))], [((ad 5), .inr (0, [.ref (ad 6), .ref (ad 7), .ref (ad 8)]))], [((ad 6), .inl (T 0, 32, .inl (ν 3)))], [((ad 7), .inl (T 0, 32, .inl (ν 4)))], [((ad 8), .inl (T 0, 32, .inl (ν 5)))], [((ad 9), .inr (0, [.ref (ad 10), .ref (ad 11), .ref (ad 12)]))], [((ad 10), .inl (T 0, 16, .inl (ν 6)))], [((ad 11), .inl (T 0, 16, .inl (ν 7)))], [((ad 12), .inl (T 0, 16, .inl (ν 8)))], [((ad 13), .inl (T 1, 8, .inl (bf (ν 9))))], [((ad 14), .inl (T 0, 4, .inl (ν 10)))], [((ad 15), .inl (T 1, 4, .inl (bf (ν 11))))], [((ad 16), .inl (T 0, 20, .inl (ν 12)))], [((ad 17), .inr (1, [.ref (ad 18), .int (ν 14 0), .int (ν 14 1)]))], [((ad 18), .inl (T 0, 32, .inl (ν 13)))]] : List va_W).flatten → va_S A s.heap H locs → ∀ (ls : Array Slot), lv_has ls 3 [(2, .int (nI (k9))), (1, .int (nI ((cntB (ν 9) k9)))), (0, .ref (ad 0))] → W pP l eE ({ frames := 0, cells := 0, slots := 0, locals := 0 }) s mM ([.ref (ad 0)] : List Value).toArray bW mE cC H locs 0 0 (MQ bW (QcI D (stF T ad ν) (nI (cntB (ν 9) 8)) A) ([.ref (ad 0)] : List Value).toArray s 0 0 A) (F0 mM 4 ls []) := by
    intro n9
    induction n9 with
    | zero => intro k9 h1 h2; exact absurd h2 (by omega)
    | succ n9 ih =>
      intro k9 hk1 hk2 H locs hP hD hS ls hl
      refine lv_iload_n hx hb dX3_countMirrored_4 rfl (lv_at hl 0 rfl) ?_
      refine lv_bipush (v := nI 8) hx hb dX3_countMirrored_5 (by decide) ?_
      refine fr_icmp_ge (k9) (8) (by omega) (by decide) (tgt := 28) hx hb dX3_countMirrored_7 (by decide) (fun c_1 => ?_) (fun c_1 => ?_)
      · have c_1' := Nat.not_lt.mpr c_1
        refine lv_iload_n hx hb dX3_countMirrored_28 rfl (lv_at hl 1 rfl) ?_
        exact fr_iret hx hb hr hlk hP hS (by rw [show 8 = k9 from by omega]) rfl dX3_countMirrored_29
      · have c_1' := Nat.not_le.mpr c_1
        refine lv_aload_n hx hb dX3_countMirrored_10 rfl (lv_at hl 2 rfl) ?_
        refine va_get (D := D) (ci := 3) (v := .ref (ad 13)) (C := RX3) (T := TX3) (N := 10) hx hb hts hinX3 hown hK (hP.at 0 rfl) 0 rfl rfl 3 (by decide) w_26 (fun _ h9 => h9) rfl dX3_countMirrored_11 ?_
        refine lv_iload_n hx hb dX3_countMirrored_14 rfl (lv_at hl 0 rfl) ?_
        refine fr_zald hx hb hK hP 13 (k9) rfl (by omega) (by omega) dX3_countMirrored_15 ?_
        refine fr_val (show (bf (ν 9)) k9 = bI (bz (ν 9 k9)) from rfl) ?_
        refine fr_ifeq_b (tgt := 22) hx hb dX3_countMirrored_16 (by decide) (fun c_2 => ?_) (fun c_2 => ?_)
        · refine fr_iinc (k9) ((k9 + 1)) (nI_inc _) (lv' := [(2, .int (nI ((k9 + 1)))), (1, .int (nI ((cntB (ν 9) k9)))), (0, .ref (ad 0))]) (k := 0) hx hb dX3_countMirrored_22 hl rfl (by decide) rfl (fun ls hl => ?_)
          refine lv_goto (tgt := 4) hx hb dX3_countMirrored_25 (by decide) ?_
          have q_3 : (nI ((cntB (ν 9) k9)) : Int32) = nI ((cntB (ν 9) (k9 + 1))) := (by first | rfl | (simp only [cntB, cnt, c_1, c_1', c_2, ↓reduceIte, Bool.false_eq_true, bI_true, bI_false, Bool.true_and, Bool.and_true, Bool.and_false, Bool.false_and, Bool.not_true, Bool.not_false, Bool.or_true, Bool.true_or, Bool.or_false, Bool.false_or] <;> rfl) | (simp [cntB, cnt, c_1, c_1', c_2]; done))
          rw [q_3] at hl
          exact ih  ((k9 + 1)) (by omega) (by omega) H locs hP hD hS ls (lv_sub hl [0, 1, 2] rfl)
        · refine fr_iinc ((cntB (ν 9) k9)) (((cntB (ν 9) k9) + 1)) (nI_inc _) (lv' := [(1, .int (nI (((cntB (ν 9) k9) + 1)))), (2, .int (nI (k9))), (0, .ref (ad 0))]) (k := 1) hx hb dX3_countMirrored_19 hl rfl (by decide) rfl (fun ls hl => ?_)
          refine fr_iinc (k9) ((k9 + 1)) (nI_inc _) (lv' := [(2, .int (nI ((k9 + 1)))), (1, .int (nI (((cntB (ν 9) k9) + 1)))), (0, .ref (ad 0))]) (k := 1) hx hb dX3_countMirrored_22 hl rfl (by decide) rfl (fun ls hl => ?_)
          refine lv_goto (tgt := 4) hx hb dX3_countMirrored_25 (by decide) ?_
          have q_4 : (nI (((cntB (ν 9) k9) + 1)) : Int32) = nI ((cntB (ν 9) (k9 + 1))) := (by first | rfl | (simp only [cntB, cnt, c_1, c_1', c_2, ↓reduceIte, Bool.false_eq_true, bI_true, bI_false, Bool.true_and, Bool.and_true, Bool.and_false, Bool.false_and, Bool.not_true, Bool.not_false, Bool.or_true, Bool.true_or, Bool.or_false, Bool.false_or] <;> rfl) | (simp [cntB, cnt, c_1, c_1', c_2]; done))
          rw [q_4] at hl
          exact ih  ((k9 + 1)) (by omega) (by omega) H locs hP hD hS ls (lv_sub hl [0, 1, 2] rfl)
  have q_5 : (nI 0 : Int32) = nI ((cntB (ν 9) 0)) := (by first | rfl | (simp only [cntB, cnt, ↓reduceIte, Bool.false_eq_true, bI_true, bI_false, Bool.true_and, Bool.and_true, Bool.and_false, Bool.false_and, Bool.not_true, Bool.not_false, Bool.or_true, Bool.true_or, Bool.or_false, Bool.false_or] <;> rfl) | (simp [cntB, cnt]; done))
  rw [q_5] at hl
  exact loop4 (8 + 1) (0) (by omega) (by omega) _ _ hP hD hS ls (lv_sub hl [0, 1, 2] rfl)

set_option maxHeartbeats 8000000 in
set_option maxRecDepth 100000 in
theorem kX3_countStopped (l : Launch) (D : va_G) (T : Nat → ClassId) (Z : ZZ) (ad : Nat → Nat) (ν : NS)  : CtI l D T Z yX3_countStopped wsX3_countStopped ({ frames := 0, cells := 0, slots := 0, locals := 0 }) (stF T ad ν) [.ref (ad 0)] (nI (cntB (ν 11) 4)) (stF T ad ν) := by
  refine CtI.of (cc := cX3_countStopped) (maxL := 3) (ret := (some .int)) (plainFor_of_name (by decide)) rfl rfl ?_
  intro pP eE s mM bW mE cC A hE hK hN hM hP hD hA
  obtain ⟨hx, hb, hr, hts, hown, hml, hlk⟩ := hE
  have hown : s.vm.findClass RX3 = some mM.cls := hown
  have hP : frP D [[((ad 0), .inr (3, [.ref (ad 1), .ref (ad 5), .ref (ad 9), .ref (ad 13), .ref (ad 14), .ref (ad 15), .ref (ad 16), .ref (ad 17), .int (ν 15 0), .int (ν 15 1)]))], [((ad 1), .inr (0, [.ref (ad 2), .ref (ad 3), .ref (ad 4)]))], [((ad 2), .inl (T 0, 32, .inl (ν 0)))], [((ad 3), .inl (T 0, 32, .inl (ν 1)))], [((ad 4), .inl (T 0, 32, .inl (ν 2)))], [((ad 5), .inr (0, [.ref (ad 6), .ref (ad 7), .ref (ad 8)]))], [((ad 6), .inl (T 0, 32, .inl (ν 3)))], [((ad 7), .inl (T 0, 32, .inl (ν 4)))], [((ad 8), .inl (T 0, 32, .inl (ν 5)))], [((ad 9), .inr (0, [.ref (ad 10), .ref (ad 11), .ref (ad 12)]))], [((ad 10), .inl (T 0, 16, .inl (ν 6)))], [((ad 11), .inl (T 0, 16, .inl (ν 7)))], [((ad 12), .inl (T 0, 16, .inl (ν 8)))], [((ad 13), .inl (T 1, 8, .inl (bf (ν 9))))], [((ad 14), .inl (T 0, 4, .inl (ν 10)))], [((ad 15), .inl (T 1, 4, .inl (bf (ν 11))))], [((ad 16), .inl (T 0, 20, .inl (ν 12)))], [((ad 17), .inr (1, [.ref (ad 18), .int (ν 14 0), .int (ν 14 1)]))], [((ad 18), .inl (T 0, 32, .inl (ν 13)))]] s.heap := hP
  have hD : va_D A ([[((ad 0), .inr (3, [.ref (ad 1), .ref (ad 5), .ref (ad 9), .ref (ad 13), .ref (ad 14), .ref (ad 15), .ref (ad 16), .ref (ad 17), .int (ν 15 0), .int (ν 15 1)]))], [((ad 1), .inr (0, [.ref (ad 2), .ref (ad 3), .ref (ad 4)]))], [((ad 2), .inl (T 0, 32, .inl (ν 0)))], [((ad 3), .inl (T 0, 32, .inl (ν 1)))], [((ad 4), .inl (T 0, 32, .inl (ν 2)))], [((ad 5), .inr (0, [.ref (ad 6), .ref (ad 7), .ref (ad 8)]))], [((ad 6), .inl (T 0, 32, .inl (ν 3)))], [((ad 7), .inl (T 0, 32, .inl (ν 4)))], [((ad 8), .inl (T 0, 32, .inl (ν 5)))], [((ad 9), .inr (0, [.ref (ad 10), .ref (ad 11), .ref (ad 12)]))], [((ad 10), .inl (T 0, 16, .inl (ν 6)))], [((ad 11), .inl (T 0, 16, .inl (ν 7)))], [((ad 12), .inl (T 0, 16, .inl (ν 8)))], [((ad 13), .inl (T 1, 8, .inl (bf (ν 9))))], [((ad 14), .inl (T 0, 4, .inl (ν 10)))], [((ad 15), .inl (T 1, 4, .inl (bf (ν 11))))], [((ad 16), .inl (T 0, 20, .inl (ν 12)))], [((ad 17), .inr (1, [.ref (ad 18), .int (ν 14 0), .int (ν 14 1)]))], [((ad 18), .inl (T 0, 32, .inl (ν 13)))]] : List va_W).flatten := hD
  have hS : va_S A s.heap s.heap [] := va_S.rf
  have hl := lv_entry ([.ref (ad 0)]) (n := 3) (Nat.le_of_ble_eq_true rfl)
  rw [lg_entry_eq]
  generalize (lg_sl ([.ref (ad 0)]) ++ List.replicate (3 - (lg_sl ([.ref (ad 0)])).length) Slot.unset).toArray = ls at hl ⊢
  have hl : lv_has ls 3 [(0, .ref (ad 0))] := hl
  have w_34 := hts (.fieldLink RX3 34 "PoisonedMemory$State" "stopped" "[Z") (by decide +kernel)
  have hinX3 : ∀ w ∈ wsX30, w ∈ wsX3_countStopped := by decide +kernel
  refine lv_iconst (v := nI 0) hx hb dX3_countStopped_0 (by decide) ?_
  refine lv_istore_n (lv' := [(1, .int (nI 0)), (0, .ref (ad 0))]) hx hb dX3_countStopped_1 rfl hl (by decide) rfl (fun ls hl => ?_)
  refine lv_iconst (v := nI 0) hx hb dX3_countStopped_2 (by decide) ?_
  refine lv_istore_n (lv' := [(2, .int (nI 0)), (1, .int (nI 0)), (0, .ref (ad 0))]) hx hb dX3_countStopped_3 rfl hl (by decide) rfl (fun ls hl => ?_)
  have loop4 : ∀ (n9 k9 : Nat), k9 ≤ 4 → 4 < k9 + n9 → ∀ (H : Heap) (locs : List Loc), frP D [[((ad 0), .inr (3, [.ref (ad 1), .ref (ad 5), .ref (ad 9), .ref (ad 13), .ref (ad 14), .ref (ad 15), .ref (ad 16), .ref (ad 17), .int (ν 15 0), .int (ν 15 1)]))], [((ad 1), .inr (0, [.ref (ad 2), .ref (ad 3), .ref (ad 4)]))], [((ad 2), .inl (T 0, 32, .inl (ν 0)))], [((ad 3), .inl (T 0, 32, .inl (ν 1)))], [((ad 4), .inl (T 0, 32, .inl (ν 2)))], [((ad 5), .inr (0, [.ref (ad 6), .ref (ad 7), .ref (ad 8)]))], [((ad 6), .inl (T 0, 32, .inl (ν 3)))], [((ad 7), .inl (T 0, 32, .inl (ν 4)))], [((ad 8), .inl (T 0, 32, .inl (ν 5)))], [((ad 9), .inr (0, [.ref (ad 10), .ref (ad 11), .ref (ad 12)]))], [((ad 10), .inl (T 0, 16, .inl (ν 6)))], [((ad 11), .inl (T 0, 16, .inl (ν 7)))], [((ad 12), .inl (T 0, 16, .inl (ν 8)))], [((ad 13), .inl (T 1, 8, .inl (bf (ν 9))))], [((ad 14), .inl (T 0, 4, .inl (ν 10)))], [((ad 15), .inl (T 1, 4, .inl (bf (ν 11))))], [((ad 16), .inl (T 0, 20, .inl (ν 12)))], [((ad 17), .inr (1, [.ref (ad 18), .int (ν 14 0), .int (ν 14 1)]))], [((ad 18), .inl (T 0, 32, .inl (ν 13)))]] H → va_D A ([[((ad 0), .inr (3, [.ref (ad 1), .ref (ad 5), .ref (ad 9), .ref (ad 13), .ref (ad 14), .ref (ad 15), .ref (ad 16), .ref (ad 17), .int (ν 15 0), .int (ν 15 1)]))], [((ad 1), .inr (0, [.ref (ad 2), .ref (ad 3), .ref (ad 4)]))], [((ad 2), .inl (T 0, 32, .inl (ν 0)))], [((ad 3), .inl (T 0, 32, .inl (ν 1)))], [((ad 4), .inl (T 0, 32, .inl (ν 2)))], [((ad 5), .inr (0, [.ref (ad 6), .ref (ad 7), .ref (ad 8)]))], [((ad 6), .inl (T 0, 32, .inl (ν 3)))], [((ad 7), .inl (T 0, 32, .inl (ν 4)))], [((ad 8), .inl (T 0, 32, .inl (ν 5)))], [((ad 9), .inr (0, [.ref (ad 10), .ref (ad 11), .ref (ad 12)]))], [((ad 10), .inl (T 0, 16, .inl (ν 6)))], [((ad 11), .inl (T 0, 16, .inl (ν 7)))], [((ad 12), .inl (T 0, 16, .inl (ν 8)))], [((ad 13), .inl (T 1, 8, .inl (bf (ν 9))))], [((ad 14), .inl (T 0, 4, .inl (ν 10)))], [((ad 15), .inl (T 1, 4, .inl (bf (ν 11))))], [((ad 16), .inl (T 0, 20, .inl (ν 12)))], [((ad 17), .inr (1, [.ref (ad 18), .int (ν 14 0), .int (ν 14 1)]))], [((ad 18), .inl (T 0, 32, .inl (ν 13)))]] : List va_W).flatten → va_S A s.heap H locs → ∀ (ls : Array Slot), lv_has ls 3 [(2, .int (nI (k9))), (1, .int (nI ((cntB (ν 11) k9)))), (0, .ref (ad 0))] → W pP l eE ({ frames := 0, cells := 0, slots := 0, locals := 0 }) s mM ([.ref (ad 0)] : List Value).toArray bW mE cC H locs 0 0 (MQ bW (QcI D (stF T ad ν) (nI (cntB (ν 11) 4)) A) ([.ref (ad 0)] : List Value).toArray s 0 0 A) (F0 mM 4 ls []) := by
    intro n9
    induction n9 with
    | zero => intro k9 h1 h2; exact absurd h2 (by omega)
    | succ n9 ih =>
      intro k9 hk1 hk2 H locs hP hD hS ls hl
      refine lv_iload_n hx hb dX3_countStopped_4 rfl (lv_at hl 0 rfl) ?_
      refine lv_iconst (v := nI 4) hx hb dX3_countStopped_5 (by decide) ?_
      refine fr_icmp_ge (k9) (4) (by omega) (by decide) (tgt := 27) hx hb dX3_countStopped_6 (by decide) (fun c_1 => ?_) (fun c_1 => ?_)
      · have c_1' := Nat.not_lt.mpr c_1
        refine lv_iload_n hx hb dX3_countStopped_27 rfl (lv_at hl 1 rfl) ?_
        exact fr_iret hx hb hr hlk hP hS (by rw [show 4 = k9 from by omega]) rfl dX3_countStopped_28
      · have c_1' := Nat.not_le.mpr c_1
        refine lv_aload_n hx hb dX3_countStopped_9 rfl (lv_at hl 2 rfl) ?_
        refine va_get (D := D) (ci := 3) (v := .ref (ad 15)) (C := RX3) (T := TX3) (N := 10) hx hb hts hinX3 hown hK (hP.at 0 rfl) 0 rfl rfl 5 (by decide) w_34 (fun _ h9 => h9) rfl dX3_countStopped_10 ?_
        refine lv_iload_n hx hb dX3_countStopped_13 rfl (lv_at hl 0 rfl) ?_
        refine fr_zald hx hb hK hP 15 (k9) rfl (by omega) (by omega) dX3_countStopped_14 ?_
        refine fr_val (show (bf (ν 11)) k9 = bI (bz (ν 11 k9)) from rfl) ?_
        refine fr_ifeq_b (tgt := 21) hx hb dX3_countStopped_15 (by decide) (fun c_2 => ?_) (fun c_2 => ?_)
        · refine fr_iinc (k9) ((k9 + 1)) (nI_inc _) (lv' := [(2, .int (nI ((k9 + 1)))), (1, .int (nI ((cntB (ν 11) k9)))), (0, .ref (ad 0))]) (k := 0) hx hb dX3_countStopped_21 hl rfl (by decide) rfl (fun ls hl => ?_)
          refine lv_goto (tgt := 4) hx hb dX3_countStopped_24 (by decide) ?_
          have q_3 : (nI ((cntB (ν 11) k9)) : Int32) = nI ((cntB (ν 11) (k9 + 1))) := (by first | rfl | (simp only [cntB, cnt, c_1, c_1', c_2, ↓reduceIte, Bool.false_eq_true, bI_true, bI_false, Bool.true_and, Bool.and_true, Bool.and_false, Bool.false_and, Bool.not_true, Bool.not_false, Bool.or_true, Bool.true_or, Bool.or_false, Bool.false_or] <;> rfl) | (simp [cntB, cnt, c_1, c_1', c_2]; done))
          rw [q_3] at hl
          exact ih  ((k9 + 1)) (by omega) (by omega) H locs hP hD hS ls (lv_sub hl [0, 1, 2] rfl)
        · refine fr_iinc ((cntB (ν 11) k9)) (((cntB (ν 11) k9) + 1)) (nI_inc _) (lv' := [(1, .int (nI (((cntB (ν 11) k9) + 1)))), (2, .int (nI (k9))), (0, .ref (ad 0))]) (k := 1) hx hb dX3_countStopped_18 hl rfl (by decide) rfl (fun ls hl => ?_)
          refine fr_iinc (k9) ((k9 + 1)) (nI_inc _) (lv' := [(2, .int (nI ((k9 + 1)))), (1, .int (nI (((cntB (ν 11) k9) + 1)))), (0, .ref (ad 0))]) (k := 1) hx hb dX3_countStopped_21 hl rfl (by decide) rfl (fun ls hl => ?_)
          refine lv_goto (tgt := 4) hx hb dX3_countStopped_24 (by decide) ?_
          have q_4 : (nI (((cntB (ν 11) k9) + 1)) : Int32) = nI ((cntB (ν 11) (k9 + 1))) := (by first | rfl | (simp only [cntB, cnt, c_1, c_1', c_2, ↓reduceIte, Bool.false_eq_true, bI_true, bI_false, Bool.true_and, Bool.and_true, Bool.and_false, Bool.false_and, Bool.not_true, Bool.not_false, Bool.or_true, Bool.true_or, Bool.or_false, Bool.false_or] <;> rfl) | (simp [cntB, cnt, c_1, c_1', c_2]; done))
          rw [q_4] at hl
          exact ih  ((k9 + 1)) (by omega) (by omega) H locs hP hD hS ls (lv_sub hl [0, 1, 2] rfl)
  have q_5 : (nI 0 : Int32) = nI ((cntB (ν 11) 0)) := (by first | rfl | (simp only [cntB, cnt, ↓reduceIte, Bool.false_eq_true, bI_true, bI_false, Bool.true_and, Bool.and_true, Bool.and_false, Bool.false_and, Bool.not_true, Bool.not_false, Bool.or_true, Bool.true_or, Bool.or_false, Bool.false_or] <;> rfl) | (simp [cntB, cnt]; done))
  rw [q_5] at hl
  exact loop4 (4 + 1) (0) (by omega) (by omega) _ _ hP hD hS ls (lv_sub hl [0, 1, 2] rfl)

set_option maxHeartbeats 8000000 in
set_option maxRecDepth 100000 in
theorem kX3_countHealable (l : Launch) (D : va_G) (T : Nat → ClassId) (Z : ZZ) (ad : Nat → Nat) (ν : NS) (i : Nat) (j : Nat) (hij : i ≤ j) (hj : j ≤ 32) : CtI l D T Z yX3_countHealable wsX3_countHealable ({ frames := 2, cells := 0, slots := 0, locals := 42 }) (stF T ad ν) [.ref (ad 0), .int (nI (i)), .int (nI (j))] (nI (cntH ν i (j - i))) (stF T ad ν) := by
  refine CtI.of (cc := cX3_countHealable) (maxL := 5) (ret := (some .int)) (plainFor_of_name (by decide)) rfl rfl ?_
  intro pP eE s mM bW mE cC A hE hK hN hM hP hD hA
  obtain ⟨hx, hb, hr, hts, hown, hml, hlk⟩ := hE
  have hown : s.vm.findClass RX3 = some mM.cls := hown
  have hP : frP D [[((ad 0), .inr (3, [.ref (ad 1), .ref (ad 5), .ref (ad 9), .ref (ad 13), .ref (ad 14), .ref (ad 15), .ref (ad 16), .ref (ad 17), .int (ν 15 0), .int (ν 15 1)]))], [((ad 1), .inr (0, [.ref (ad 2), .ref (ad 3), .ref (ad 4)]))], [((ad 2), .inl (T 0, 32, .inl (ν 0)))], [((ad 3), .inl (T 0, 32, .inl (ν 1)))], [((ad 4), .inl (T 0, 32, .inl (ν 2)))], [((ad 5), .inr (0, [.ref (ad 6), .ref (ad 7), .ref (ad 8)]))], [((ad 6), .inl (T 0, 32, .inl (ν 3)))], [((ad 7), .inl (T 0, 32, .inl (ν 4)))], [((ad 8), .inl (T 0, 32, .inl (ν 5)))], [((ad 9), .inr (0, [.ref (ad 10), .ref (ad 11), .ref (ad 12)]))], [((ad 10), .inl (T 0, 16, .inl (ν 6)))], [((ad 11), .inl (T 0, 16, .inl (ν 7)))], [((ad 12), .inl (T 0, 16, .inl (ν 8)))], [((ad 13), .inl (T 1, 8, .inl (bf (ν 9))))], [((ad 14), .inl (T 0, 4, .inl (ν 10)))], [((ad 15), .inl (T 1, 4, .inl (bf (ν 11))))], [((ad 16), .inl (T 0, 20, .inl (ν 12)))], [((ad 17), .inr (1, [.ref (ad 18), .int (ν 14 0), .int (ν 14 1)]))], [((ad 18), .inl (T 0, 32, .inl (ν 13)))]] s.heap := hP
  have hD : va_D A ([[((ad 0), .inr (3, [.ref (ad 1), .ref (ad 5), .ref (ad 9), .ref (ad 13), .ref (ad 14), .ref (ad 15), .ref (ad 16), .ref (ad 17), .int (ν 15 0), .int (ν 15 1)]))], [((ad 1), .inr (0, [.ref (ad 2), .ref (ad 3), .ref (ad 4)]))], [((ad 2), .inl (T 0, 32, .inl (ν 0)))], [((ad 3), .inl (T 0, 32, .inl (ν 1)))], [((ad 4), .inl (T 0, 32, .inl (ν 2)))], [((ad 5), .inr (0, [.ref (ad 6), .ref (ad 7), .ref (ad 8)]))], [((ad 6), .inl (T 0, 32, .inl (ν 3)))], [((ad 7), .inl (T 0, 32, .inl (ν 4)))], [((ad 8), .inl (T 0, 32, .inl (ν 5)))], [((ad 9), .inr (0, [.ref (ad 10), .ref (ad 11), .ref (ad 12)]))], [((ad 10), .inl (T 0, 16, .inl (ν 6)))], [((ad 11), .inl (T 0, 16, .inl (ν 7)))], [((ad 12), .inl (T 0, 16, .inl (ν 8)))], [((ad 13), .inl (T 1, 8, .inl (bf (ν 9))))], [((ad 14), .inl (T 0, 4, .inl (ν 10)))], [((ad 15), .inl (T 1, 4, .inl (bf (ν 11))))], [((ad 16), .inl (T 0, 20, .inl (ν 12)))], [((ad 17), .inr (1, [.ref (ad 18), .int (ν 14 0), .int (ν 14 1)]))], [((ad 18), .inl (T 0, 32, .inl (ν 13)))]] : List va_W).flatten := hD
  have hS : va_S A s.heap s.heap [] := va_S.rf
  have hl := lv_entry ([.ref (ad 0), .int (nI (i)), .int (nI (j))]) (n := 5) (Nat.le_of_ble_eq_true rfl)
  rw [lg_entry_eq]
  generalize (lg_sl ([.ref (ad 0), .int (nI (i)), .int (nI (j))]) ++ List.replicate (5 - (lg_sl ([.ref (ad 0), .int (nI (i)), .int (nI (j))])).length) Slot.unset).toArray = ls at hl ⊢
  have hl : lv_has ls 5 [(0, .ref (ad 0)), (1, .int (nI (i))), (2, .int (nI (j)))] := hl
  refine lv_iconst (v := nI 0) hx hb dX3_countHealable_0 (by decide) ?_
  refine lv_istore_n (lv' := [(3, .int (nI 0)), (0, .ref (ad 0)), (1, .int (nI (i))), (2, .int (nI (j)))]) hx hb dX3_countHealable_1 rfl hl (by decide) rfl (fun ls hl => ?_)
  refine lv_iload_n hx hb dX3_countHealable_2 rfl (lv_at hl 2 rfl) ?_
  refine lv_istore (lv' := [(4, .int (nI (i))), (3, .int (nI 0)), (0, .ref (ad 0)), (1, .int (nI (i))), (2, .int (nI (j)))]) hx hb dX3_countHealable_3 hl (by decide) rfl (fun ls hl => ?_)
  have loop5 : ∀ (n9 k9 : Nat), k9 ≤ (j - i) → (j - i) < k9 + n9 → ∀ (H : Heap) (locs : List Loc), frP D [[((ad 0), .inr (3, [.ref (ad 1), .ref (ad 5), .ref (ad 9), .ref (ad 13), .ref (ad 14), .ref (ad 15), .ref (ad 16), .ref (ad 17), .int (ν 15 0), .int (ν 15 1)]))], [((ad 1), .inr (0, [.ref (ad 2), .ref (ad 3), .ref (ad 4)]))], [((ad 2), .inl (T 0, 32, .inl (ν 0)))], [((ad 3), .inl (T 0, 32, .inl (ν 1)))], [((ad 4), .inl (T 0, 32, .inl (ν 2)))], [((ad 5), .inr (0, [.ref (ad 6), .ref (ad 7), .ref (ad 8)]))], [((ad 6), .inl (T 0, 32, .inl (ν 3)))], [((ad 7), .inl (T 0, 32, .inl (ν 4)))], [((ad 8), .inl (T 0, 32, .inl (ν 5)))], [((ad 9), .inr (0, [.ref (ad 10), .ref (ad 11), .ref (ad 12)]))], [((ad 10), .inl (T 0, 16, .inl (ν 6)))], [((ad 11), .inl (T 0, 16, .inl (ν 7)))], [((ad 12), .inl (T 0, 16, .inl (ν 8)))], [((ad 13), .inl (T 1, 8, .inl (bf (ν 9))))], [((ad 14), .inl (T 0, 4, .inl (ν 10)))], [((ad 15), .inl (T 1, 4, .inl (bf (ν 11))))], [((ad 16), .inl (T 0, 20, .inl (ν 12)))], [((ad 17), .inr (1, [.ref (ad 18), .int (ν 14 0), .int (ν 14 1)]))], [((ad 18), .inl (T 0, 32, .inl (ν 13)))]] H → va_D A ([[((ad 0), .inr (3, [.ref (ad 1), .ref (ad 5), .ref (ad 9), .ref (ad 13), .ref (ad 14), .ref (ad 15), .ref (ad 16), .ref (ad 17), .int (ν 15 0), .int (ν 15 1)]))], [((ad 1), .inr (0, [.ref (ad 2), .ref (ad 3), .ref (ad 4)]))], [((ad 2), .inl (T 0, 32, .inl (ν 0)))], [((ad 3), .inl (T 0, 32, .inl (ν 1)))], [((ad 4), .inl (T 0, 32, .inl (ν 2)))], [((ad 5), .inr (0, [.ref (ad 6), .ref (ad 7), .ref (ad 8)]))], [((ad 6), .inl (T 0, 32, .inl (ν 3)))], [((ad 7), .inl (T 0, 32, .inl (ν 4)))], [((ad 8), .inl (T 0, 32, .inl (ν 5)))], [((ad 9), .inr (0, [.ref (ad 10), .ref (ad 11), .ref (ad 12)]))], [((ad 10), .inl (T 0, 16, .inl (ν 6)))], [((ad 11), .inl (T 0, 16, .inl (ν 7)))], [((ad 12), .inl (T 0, 16, .inl (ν 8)))], [((ad 13), .inl (T 1, 8, .inl (bf (ν 9))))], [((ad 14), .inl (T 0, 4, .inl (ν 10)))], [((ad 15), .inl (T 1, 4, .inl (bf (ν 11))))], [((ad 16), .inl (T 0, 20, .inl (ν 12)))], [((ad 17), .inr (1, [.ref (ad 18), .int (ν 14 0), .int (ν 14 1)]))], [((ad 18), .inl (T 0, 32, .inl (ν 13)))]] : List va_W).flatten → va_S A s.heap H locs → ∀ (ls : Array Slot), lv_has ls 5 [(4, .int (nI ((i + k9)))), (3, .int (nI ((cntH ν i k9)))), (0, .ref (ad 0)), (1, .int (nI (i))), (2, .int (nI (j)))] → W pP l eE ({ frames := 2, cells := 0, slots := 0, locals := 42 }) s mM ([.ref (ad 0), .int (nI (i)), .int (nI (j))] : List Value).toArray bW mE cC H locs 0 0 (MQ bW (QcI D (stF T ad ν) (nI (cntH ν i (j - i))) A) ([.ref (ad 0), .int (nI (i)), .int (nI (j))] : List Value).toArray s 0 0 A) (F0 mM 5 ls []) := by
    intro n9
    induction n9 with
    | zero => intro k9 h1 h2; exact absurd h2 (by omega)
    | succ n9 ih =>
      intro k9 hk1 hk2 H locs hP hD hS ls hl
      refine lv_iload hx hb dX3_countHealable_5 (lv_at hl 0 rfl) ?_
      refine lv_iload_n hx hb dX3_countHealable_7 rfl (lv_at hl 4 rfl) ?_
      refine fr_icmp_ge ((i + k9)) (j) (by omega) (by omega) (tgt := 29) hx hb dX3_countHealable_8 (by decide) (fun c_1 => ?_) (fun c_1 => ?_)
      · have c_1' := Nat.not_lt.mpr c_1
        refine lv_iload_n hx hb dX3_countHealable_29 rfl (lv_at hl 1 rfl) ?_
        exact fr_iret hx hb hr hlk hP hS (by rw [show j - i = k9 from by omega]) rfl dX3_countHealable_30
      · have c_1' := Nat.not_le.mpr c_1
        refine lv_aload_n hx hb dX3_countHealable_11 rfl (lv_at hl 2 rfl) ?_
        refine lv_iload hx hb dX3_countHealable_12 (lv_at hl 0 rfl) ?_
        have hPc : frP D ((stF T ad ν) ++ []) _ := hP
        have hDc : va_D A ((stF T ad ν) ++ ([] : List va_W)).flatten := hD
        refine fr_ViP (As := [.int (nI ((i + k9)))]) (rest := []) (cs := (stF T ad ν)) (tl2 := []) (ci := 3) (q0 := (RX3, TX3, 10)) (i0 := 0) ⟨hx, hb, hml, hown, hts⟩ (kX3_canHeal l D T Z ad ν (i + k9) (by omega)) (cwV 1 hts gX3_countHealable_X3_canHeal rfl rfl rfl (by decide +kernel) ⟨Nat.le_of_ble_eq_true rfl, Nat.le_of_ble_eq_true rfl⟩) hK hN hM hPc hDc hS hA rfl rfl rfl hl.1 rfl (Nat.le_of_ble_eq_true rfl) dX3_countHealable_14 ⟨Nat.zero_le _, Nat.zero_le _⟩ (fun H locs hP hD hS => ?_)
        have hP : frP D [[((ad 0), .inr (3, [.ref (ad 1), .ref (ad 5), .ref (ad 9), .ref (ad 13), .ref (ad 14), .ref (ad 15), .ref (ad 16), .ref (ad 17), .int (ν 15 0), .int (ν 15 1)]))], [((ad 1), .inr (0, [.ref (ad 2), .ref (ad 3), .ref (ad 4)]))], [((ad 2), .inl (T 0, 32, .inl (ν 0)))], [((ad 3), .inl (T 0, 32, .inl (ν 1)))], [((ad 4), .inl (T 0, 32, .inl (ν 2)))], [((ad 5), .inr (0, [.ref (ad 6), .ref (ad 7), .ref (ad 8)]))], [((ad 6), .inl (T 0, 32, .inl (ν 3)))], [((ad 7), .inl (T 0, 32, .inl (ν 4)))], [((ad 8), .inl (T 0, 32, .inl (ν 5)))], [((ad 9), .inr (0, [.ref (ad 10), .ref (ad 11), .ref (ad 12)]))], [((ad 10), .inl (T 0, 16, .inl (ν 6)))], [((ad 11), .inl (T 0, 16, .inl (ν 7)))], [((ad 12), .inl (T 0, 16, .inl (ν 8)))], [((ad 13), .inl (T 1, 8, .inl (bf (ν 9))))], [((ad 14), .inl (T 0, 4, .inl (ν 10)))], [((ad 15), .inl (T 1, 4, .inl (bf (ν 11))))], [((ad 16), .inl (T 0, 20, .inl (ν 12)))], [((ad 17), .inr (1, [.ref (ad 18), .int (ν 14 0), .int (ν 14 1)]))], [((ad 18), .inl (T 0, 32, .inl (ν 13)))]] H := hP
        have hD : va_D A ([[((ad 0), .inr (3, [.ref (ad 1), .ref (ad 5), .ref (ad 9), .ref (ad 13), .ref (ad 14), .ref (ad 15), .ref (ad 16), .ref (ad 17), .int (ν 15 0), .int (ν 15 1)]))], [((ad 1), .inr (0, [.ref (ad 2), .ref (ad 3), .ref (ad 4)]))], [((ad 2), .inl (T 0, 32, .inl (ν 0)))], [((ad 3), .inl (T 0, 32, .inl (ν 1)))], [((ad 4), .inl (T 0, 32, .inl (ν 2)))], [((ad 5), .inr (0, [.ref (ad 6), .ref (ad 7), .ref (ad 8)]))], [((ad 6), .inl (T 0, 32, .inl (ν 3)))], [((ad 7), .inl (T 0, 32, .inl (ν 4)))], [((ad 8), .inl (T 0, 32, .inl (ν 5)))], [((ad 9), .inr (0, [.ref (ad 10), .ref (ad 11), .ref (ad 12)]))], [((ad 10), .inl (T 0, 16, .inl (ν 6)))], [((ad 11), .inl (T 0, 16, .inl (ν 7)))], [((ad 12), .inl (T 0, 16, .inl (ν 8)))], [((ad 13), .inl (T 1, 8, .inl (bf (ν 9))))], [((ad 14), .inl (T 0, 4, .inl (ν 10)))], [((ad 15), .inl (T 1, 4, .inl (bf (ν 11))))], [((ad 16), .inl (T 0, 20, .inl (ν 12)))], [((ad 17), .inr (1, [.ref (ad 18), .int (ν 14 0), .int (ν 14 1)]))], [((ad 18), .inl (T 0, 32, .inl (ν 13)))]] : List va_W).flatten := hD
        refine fr_ifeq_b (tgt := 23) hx hb dX3_countHealable_17 (by decide) (fun c_2 => ?_) (fun c_2 => ?_)
        · refine fr_iinc ((i + k9)) (((i + k9) + 1)) (nI_inc _) (lv' := [(4, .int (nI (((i + k9) + 1)))), (3, .int (nI ((cntH ν i k9)))), (0, .ref (ad 0)), (1, .int (nI (i))), (2, .int (nI (j)))]) (k := 0) hx hb dX3_countHealable_23 hl rfl (by decide) rfl (fun ls hl => ?_)
          refine lv_goto (tgt := 5) hx hb dX3_countHealable_26 (by decide) ?_
          have q_3 : (nI (((i + k9) + 1)) : Int32) = nI ((i + (k9 + 1))) := (by first | rfl | (simp only [cntH, cnt, c_1, c_1', c_2, ↓reduceIte, Bool.false_eq_true, bI_true, bI_false, Bool.true_and, Bool.and_true, Bool.and_false, Bool.false_and, Bool.not_true, Bool.not_false, Bool.or_true, Bool.true_or, Bool.or_false, Bool.false_or] <;> rfl) | (simp [cntH, cnt, c_1, c_1', c_2]; done))
          rw [q_3] at hl
          have q_4 : (nI ((cntH ν i k9)) : Int32) = nI ((cntH ν i (k9 + 1))) := (by first | rfl | (simp only [cntH, cnt, c_1, c_1', c_2, ↓reduceIte, Bool.false_eq_true, bI_true, bI_false, Bool.true_and, Bool.and_true, Bool.and_false, Bool.false_and, Bool.not_true, Bool.not_false, Bool.or_true, Bool.true_or, Bool.or_false, Bool.false_or] <;> rfl) | (simp [cntH, cnt, c_1, c_1', c_2]; done))
          rw [q_4] at hl
          exact ih  ((k9 + 1)) (by omega) (by omega) H locs hP hD hS ls (lv_sub hl [0, 1, 2, 3, 4] rfl)
        · refine fr_iinc ((cntH ν i k9)) (((cntH ν i k9) + 1)) (nI_inc _) (lv' := [(3, .int (nI (((cntH ν i k9) + 1)))), (4, .int (nI ((i + k9)))), (0, .ref (ad 0)), (1, .int (nI (i))), (2, .int (nI (j)))]) (k := 1) hx hb dX3_countHealable_20 hl rfl (by decide) rfl (fun ls hl => ?_)
          refine fr_iinc ((i + k9)) (((i + k9) + 1)) (nI_inc _) (lv' := [(4, .int (nI (((i + k9) + 1)))), (3, .int (nI (((cntH ν i k9) + 1)))), (0, .ref (ad 0)), (1, .int (nI (i))), (2, .int (nI (j)))]) (k := 1) hx hb dX3_countHealable_23 hl rfl (by decide) rfl (fun ls hl => ?_)
          refine lv_goto (tgt := 5) hx hb dX3_countHealable_26 (by decide) ?_
          have q_5 : (nI (((i + k9) + 1)) : Int32) = nI ((i + (k9 + 1))) := (by first | rfl | (simp only [cntH, cnt, c_1, c_1', c_2, ↓reduceIte, Bool.false_eq_true, bI_true, bI_false, Bool.true_and, Bool.and_true, Bool.and_false, Bool.false_and, Bool.not_true, Bool.not_false, Bool.or_true, Bool.true_or, Bool.or_false, Bool.false_or] <;> rfl) | (simp [cntH, cnt, c_1, c_1', c_2]; done))
          rw [q_5] at hl
          have q_6 : (nI (((cntH ν i k9) + 1)) : Int32) = nI ((cntH ν i (k9 + 1))) := (by first | rfl | (simp only [cntH, cnt, c_1, c_1', c_2, ↓reduceIte, Bool.false_eq_true, bI_true, bI_false, Bool.true_and, Bool.and_true, Bool.and_false, Bool.false_and, Bool.not_true, Bool.not_false, Bool.or_true, Bool.true_or, Bool.or_false, Bool.false_or] <;> rfl) | (simp [cntH, cnt, c_1, c_1', c_2]; done))
          rw [q_6] at hl
          exact ih  ((k9 + 1)) (by omega) (by omega) H locs hP hD hS ls (lv_sub hl [0, 1, 2, 3, 4] rfl)
  have q_7 : (nI (i) : Int32) = nI ((i + 0)) := (by first | rfl | (simp only [cntH, cnt, ↓reduceIte, Bool.false_eq_true, bI_true, bI_false, Bool.true_and, Bool.and_true, Bool.and_false, Bool.false_and, Bool.not_true, Bool.not_false, Bool.or_true, Bool.true_or, Bool.or_false, Bool.false_or] <;> rfl) | (simp [cntH, cnt]; done))
  rw [q_7] at hl
  have q_8 : (nI 0 : Int32) = nI ((cntH ν i 0)) := (by first | rfl | (simp only [cntH, cnt, ↓reduceIte, Bool.false_eq_true, bI_true, bI_false, Bool.true_and, Bool.and_true, Bool.and_false, Bool.false_and, Bool.not_true, Bool.not_false, Bool.or_true, Bool.true_or, Bool.or_false, Bool.false_or] <;> rfl) | (simp [cntH, cnt]; done))
  rw [q_8] at hl
  exact loop5 ((j - i) + 1) (0) (by omega) (by omega) _ _ hP hD hS ls (lv_sub hl [0, 1, 2, 3, 4] rfl)

set_option maxHeartbeats 8000000 in
set_option maxRecDepth 100000 in
theorem kX3_countCarriers (l : Launch) (D : va_G) (T : Nat → ClassId) (Z : ZZ) (ad : Nat → Nat) (ν : NS) (x : Int32)  : CtI l D T Z yX3_countCarriers wsX3_countCarriers ({ frames := 1, cells := 0, slots := 0, locals := 23 }) (stF T ad ν) [.ref (ad 0), .int (x)] (nI (carr ν x)) (stF T ad ν) := by
  refine CtI.of (cc := cX3_countCarriers) (maxL := 2) (ret := (some .int)) (plainFor_of_name (by decide)) rfl rfl ?_
  intro pP eE s mM bW mE cC A hE hK hN hM hP hD hA
  obtain ⟨hx, hb, hr, hts, hown, hml, hlk⟩ := hE
  have hown : s.vm.findClass RX3 = some mM.cls := hown
  have hP : frP D [[((ad 0), .inr (3, [.ref (ad 1), .ref (ad 5), .ref (ad 9), .ref (ad 13), .ref (ad 14), .ref (ad 15), .ref (ad 16), .ref (ad 17), .int (ν 15 0), .int (ν 15 1)]))], [((ad 1), .inr (0, [.ref (ad 2), .ref (ad 3), .ref (ad 4)]))], [((ad 2), .inl (T 0, 32, .inl (ν 0)))], [((ad 3), .inl (T 0, 32, .inl (ν 1)))], [((ad 4), .inl (T 0, 32, .inl (ν 2)))], [((ad 5), .inr (0, [.ref (ad 6), .ref (ad 7), .ref (ad 8)]))], [((ad 6), .inl (T 0, 32, .inl (ν 3)))], [((ad 7), .inl (T 0, 32, .inl (ν 4)))], [((ad 8), .inl (T 0, 32, .inl (ν 5)))], [((ad 9), .inr (0, [.ref (ad 10), .ref (ad 11), .ref (ad 12)]))], [((ad 10), .inl (T 0, 16, .inl (ν 6)))], [((ad 11), .inl (T 0, 16, .inl (ν 7)))], [((ad 12), .inl (T 0, 16, .inl (ν 8)))], [((ad 13), .inl (T 1, 8, .inl (bf (ν 9))))], [((ad 14), .inl (T 0, 4, .inl (ν 10)))], [((ad 15), .inl (T 1, 4, .inl (bf (ν 11))))], [((ad 16), .inl (T 0, 20, .inl (ν 12)))], [((ad 17), .inr (1, [.ref (ad 18), .int (ν 14 0), .int (ν 14 1)]))], [((ad 18), .inl (T 0, 32, .inl (ν 13)))]] s.heap := hP
  have hD : va_D A ([[((ad 0), .inr (3, [.ref (ad 1), .ref (ad 5), .ref (ad 9), .ref (ad 13), .ref (ad 14), .ref (ad 15), .ref (ad 16), .ref (ad 17), .int (ν 15 0), .int (ν 15 1)]))], [((ad 1), .inr (0, [.ref (ad 2), .ref (ad 3), .ref (ad 4)]))], [((ad 2), .inl (T 0, 32, .inl (ν 0)))], [((ad 3), .inl (T 0, 32, .inl (ν 1)))], [((ad 4), .inl (T 0, 32, .inl (ν 2)))], [((ad 5), .inr (0, [.ref (ad 6), .ref (ad 7), .ref (ad 8)]))], [((ad 6), .inl (T 0, 32, .inl (ν 3)))], [((ad 7), .inl (T 0, 32, .inl (ν 4)))], [((ad 8), .inl (T 0, 32, .inl (ν 5)))], [((ad 9), .inr (0, [.ref (ad 10), .ref (ad 11), .ref (ad 12)]))], [((ad 10), .inl (T 0, 16, .inl (ν 6)))], [((ad 11), .inl (T 0, 16, .inl (ν 7)))], [((ad 12), .inl (T 0, 16, .inl (ν 8)))], [((ad 13), .inl (T 1, 8, .inl (bf (ν 9))))], [((ad 14), .inl (T 0, 4, .inl (ν 10)))], [((ad 15), .inl (T 1, 4, .inl (bf (ν 11))))], [((ad 16), .inl (T 0, 20, .inl (ν 12)))], [((ad 17), .inr (1, [.ref (ad 18), .int (ν 14 0), .int (ν 14 1)]))], [((ad 18), .inl (T 0, 32, .inl (ν 13)))]] : List va_W).flatten := hD
  have hS : va_S A s.heap s.heap [] := va_S.rf
  have hl := lv_entry ([.ref (ad 0), .int (x)]) (n := 2) (Nat.le_of_ble_eq_true rfl)
  rw [lg_entry_eq]
  generalize (lg_sl ([.ref (ad 0), .int (x)]) ++ List.replicate (2 - (lg_sl ([.ref (ad 0), .int (x)])).length) Slot.unset).toArray = ls at hl ⊢
  have hl : lv_has ls 2 [(0, .ref (ad 0)), (1, .int (x))] := hl
  have w_14 := hts (.fieldLink RX3 14 "PoisonedMemory$State" "words" "LPoisonedMemory$Cells;") (by decide +kernel)
  have hinX3 : ∀ w ∈ wsX30, w ∈ wsX3_countCarriers := by decide +kernel
  have w_23 := hts (.fieldLink RX3 23 "PoisonedMemory$State" "registers" "LPoisonedMemory$Cells;") (by decide +kernel)
  refine lv_aload_n hx hb dX3_countCarriers_0 rfl (lv_at hl 0 rfl) ?_
  refine va_get (D := D) (ci := 3) (v := .ref (ad 1)) (C := RX3) (T := TX3) (N := 10) hx hb hts hinX3 hown hK (hP.at 0 rfl) 0 rfl rfl 0 (by decide) w_14 (fun _ h9 => h9) rfl dX3_countCarriers_1 ?_
  refine lv_iload_n hx hb dX3_countCarriers_4 rfl (lv_at hl 1 rfl) ?_
  refine fr_Vi (As := [.int (x)]) (rest := []) (fs' := [[((ad 0), .inr (3, [.ref (ad 1), .ref (ad 5), .ref (ad 9), .ref (ad 13), .ref (ad 14), .ref (ad 15), .ref (ad 16), .ref (ad 17), .int (ν 15 0), .int (ν 15 1)]))], [((ad 1), .inr (0, [.ref (ad 2), .ref (ad 3), .ref (ad 4)]))], [((ad 2), .inl (T 0, 32, .inl (ν 0)))], [((ad 3), .inl (T 0, 32, .inl (ν 1)))], [((ad 4), .inl (T 0, 32, .inl (ν 2)))], [((ad 5), .inr (0, [.ref (ad 6), .ref (ad 7), .ref (ad 8)]))], [((ad 6), .inl (T 0, 32, .inl (ν 3)))], [((ad 7), .inl (T 0, 32, .inl (ν 4)))], [((ad 8), .inl (T 0, 32, .inl (ν 5)))], [((ad 9), .inr (0, [.ref (ad 10), .ref (ad 11), .ref (ad 12)]))], [((ad 10), .inl (T 0, 16, .inl (ν 6)))], [((ad 11), .inl (T 0, 16, .inl (ν 7)))], [((ad 12), .inl (T 0, 16, .inl (ν 8)))], [((ad 13), .inl (T 1, 8, .inl (bf (ν 9))))], [((ad 14), .inl (T 0, 4, .inl (ν 10)))], [((ad 15), .inl (T 1, 4, .inl (bf (ν 11))))], [((ad 16), .inl (T 0, 20, .inl (ν 12)))], [((ad 17), .inr (1, [.ref (ad 18), .int (ν 14 0), .int (ν 14 1)]))], [((ad 18), .inl (T 0, 32, .inl (ν 13)))]]) (ci := 0) (q0 := (RX0, TX0, 3)) (i0 := 1) ⟨hx, hb, hml, hown, hts⟩ (kX0_countOrigin l D T Z (ad 1) (ad 2) (ad 3) (ad 4) 32 (ν 0) (ν 1) (ν 2) x (by decide)) (cwV 1 hts gX3_countCarriers_X0_countOrigin rfl rfl rfl (by decide +kernel) ⟨Nat.le_of_ble_eq_true rfl, Nat.le_of_ble_eq_true rfl⟩) hK hN hM hP hD hS hA [1, 2, 3, 4] rfl rfl rfl rfl rfl rfl hl.1 rfl (Nat.le_of_ble_eq_true rfl) dX3_countCarriers_5 ⟨Nat.zero_le _, Nat.zero_le _⟩ (fun H locs hP hD hS => ?_)
  refine lv_aload_n hx hb dX3_countCarriers_8 rfl (lv_at hl 0 rfl) ?_
  refine va_get (D := D) (ci := 3) (v := .ref (ad 9)) (C := RX3) (T := TX3) (N := 10) hx hb hts hinX3 hown hK (hP.at 0 rfl) 0 rfl rfl 2 (by decide) w_23 (fun _ h9 => h9) rfl dX3_countCarriers_9 ?_
  refine lv_iload_n hx hb dX3_countCarriers_12 rfl (lv_at hl 1 rfl) ?_
  refine fr_Vi (As := [.int (x)]) (rest := [.int (nI (cntE (ν 1) x 32))]) (fs' := [[((ad 0), .inr (3, [.ref (ad 1), .ref (ad 5), .ref (ad 9), .ref (ad 13), .ref (ad 14), .ref (ad 15), .ref (ad 16), .ref (ad 17), .int (ν 15 0), .int (ν 15 1)]))], [((ad 1), .inr (0, [.ref (ad 2), .ref (ad 3), .ref (ad 4)]))], [((ad 2), .inl (T 0, 32, .inl (ν 0)))], [((ad 3), .inl (T 0, 32, .inl (ν 1)))], [((ad 4), .inl (T 0, 32, .inl (ν 2)))], [((ad 5), .inr (0, [.ref (ad 6), .ref (ad 7), .ref (ad 8)]))], [((ad 6), .inl (T 0, 32, .inl (ν 3)))], [((ad 7), .inl (T 0, 32, .inl (ν 4)))], [((ad 8), .inl (T 0, 32, .inl (ν 5)))], [((ad 9), .inr (0, [.ref (ad 10), .ref (ad 11), .ref (ad 12)]))], [((ad 10), .inl (T 0, 16, .inl (ν 6)))], [((ad 11), .inl (T 0, 16, .inl (ν 7)))], [((ad 12), .inl (T 0, 16, .inl (ν 8)))], [((ad 13), .inl (T 1, 8, .inl (bf (ν 9))))], [((ad 14), .inl (T 0, 4, .inl (ν 10)))], [((ad 15), .inl (T 1, 4, .inl (bf (ν 11))))], [((ad 16), .inl (T 0, 20, .inl (ν 12)))], [((ad 17), .inr (1, [.ref (ad 18), .int (ν 14 0), .int (ν 14 1)]))], [((ad 18), .inl (T 0, 32, .inl (ν 13)))]]) (ci := 0) (q0 := (RX0, TX0, 3)) (i0 := 9) ⟨hx, hb, hml, hown, hts⟩ (kX0_countOrigin l D T Z (ad 9) (ad 10) (ad 11) (ad 12) 16 (ν 6) (ν 7) (ν 8) x (by decide)) (cwV 1 hts gX3_countCarriers_X0_countOrigin rfl rfl rfl (by decide +kernel) ⟨Nat.le_of_ble_eq_true rfl, Nat.le_of_ble_eq_true rfl⟩) hK hN hM hP hD hS hA [9, 10, 11, 12] rfl rfl rfl rfl rfl rfl hl.1 rfl (Nat.le_of_ble_eq_true rfl) dX3_countCarriers_13 ⟨Nat.zero_le _, Nat.zero_le _⟩ (fun H locs hP hD hS => ?_)
  refine fr_iadd (cntE (ν 1) x 32) (cntE (ν 7) x 16) hx hb dX3_countCarriers_16 ?_
  exact fr_iret hx hb hr hlk hP hS (by first | rfl | (simp only [carr, ↓reduceIte, Bool.false_eq_true, bI_true, bI_false, Bool.true_and, Bool.and_true, Bool.and_false, Bool.false_and, Bool.not_true, Bool.not_false, Bool.or_true, Bool.true_or, Bool.or_false, Bool.false_or] <;> rfl) | (simp [carr, bI]; done)) rfl dX3_countCarriers_17
