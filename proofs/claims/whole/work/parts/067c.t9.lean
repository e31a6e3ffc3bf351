
set_option maxHeartbeats 8000000 in
set_option maxRecDepth 100000 in
theorem kX4_readNext (l : Launch) (D : va_G) (T : Nat → ClassId) (Z : ZZ) (td : Nat → Nat) (ch : Nat → Nat) (len : Nat) (kd : Nat) (q : Q4) (hch : ∀ k, ch k < 128) (hlen : len ≤ 90) (hq : q.1 ≤ 90) (hpc : q.2.2 ≤ 5) : CtI l D T Z yX4_readNext wsX4_readNext ({ frames := 5, cells := 0, slots := 0, locals := 107 }) (teF T td ch len kd q) [.ref (td 0)] (bI ((rX ch len q).1)) (teF T td ch len (rXk ch len kd q) ((rX ch len q).2)) := by
  have hc9 := hch q.1
  refine CtI.of (cc := cX4_readNext) (maxL := 1) (ret := (some .boolean)) (plainFor_of_name (by decide)) rfl rfl ?_
  intro pP eE s mM bW mE cC A hE hK hN hM hP hD hA
  obtain ⟨hx, hb, hr, hts, hown, hml, hlk⟩ := hE
  have hown : s.vm.findClass RX4 = some mM.cls := hown
  have hP : frP D [[((td 0), .inr (4, [.ref (td 1), .int (nI (len)), .int (nI (q.1)), .int (nI (kd)), .ref (td 2), .int (nI (q.2.2))]))], [((td 1), .inl (T 2, 90, .inl (nf ch)))], [((td 2), .inl (T 0, 5, .inl (nf q.2.1)))]] s.heap := hP
  have hD : va_D A ([[((td 0), .inr (4, [.ref (td 1), .int (nI (len)), .int (nI (q.1)), .int (nI (kd)), .ref (td 2), .int (nI (q.2.2))]))], [((td 1), .inl (T 2, 90, .inl (nf ch)))], [((td 2), .inl (T 0, 5, .inl (nf q.2.1)))]] : List va_W).flatten := hD
  have hS : va_S A s.heap s.heap [] := va_S.rf
  have hl := lv_entry ([.ref (td 0)]) (n := 1) (Nat.le_of_ble_eq_true rfl)
  rw [lg_entry_eq]
  generalize (lg_sl ([.ref (td 0)]) ++ List.replicate (1 - (lg_sl ([.ref (td 0)])).length) Slot.unset).toArray = ls at hl ⊢
  have hl : lv_has ls 1 [(0, .ref (td 0))] := hl
  have w_23 := hts (.fieldLink RX4 23 "PoisonedMemory$Text" "position" "I") (by decide +kernel)
  have hinX4 : ∀ w ∈ wsX40, w ∈ wsX4_readNext := by decide +kernel
  refine lv_aload_n hx hb dX4_readNext_0 rfl (lv_at hl 0 rfl) ?_
  refine va_get (D := D) (ci := 4) (v := .int (nI (q.1))) (C := RX4) (T := TX4) (N := 6) hx hb hts hinX4 hown hK (hP.at 0 rfl) 0 rfl rfl 2 (by decide) w_23 (fun _ h9 => h9) rfl dX4_readNext_1 ?_
  refine fr_if_le (q.1) (by omega) (tgt := 18) hx hb dX4_readNext_4 (by decide) (fun c_1 => ?_) (fun c_1 => ?_)
  · refine lv_aload_n hx hb dX4_readNext_18 rfl (lv_at hl 0 rfl) ?_
    refine fr_Vi (As := []) (rest := []) (fs' := [[((td 0), .inr (4, [.ref (td 1), .int (nI (len)), .int (nI (((rO ch len q).2).1)), .int (nI (sg ch len q.1)), .ref (td 2), .int (nI (((rO ch len q).2).2.2))]))], [((td 1), .inl (T 2, 90, .inl (nf ch)))], [((td 2), .inl (T 0, 5, .inl (nf ((rO ch len q).2).2.1)))]]) (ci := 4) (q0 := (RX4, TX4, 6)) (i0 := 0) ⟨hx, hb, hml, hown, hts⟩ (kX4_readOperation l D T Z td ch len kd q hch hlen (by first | omega | (dsimp only; omega)) (by first | omega | (dsimp only; omega))) (cwV 0 hts gX4_readNext_X4_readOperation rfl rfl rfl (by decide +kernel) ⟨Nat.le_of_ble_eq_true rfl, Nat.le_of_ble_eq_true rfl⟩) hK hN hM hP hD hS hA [0, 1, 2] rfl rfl rfl rfl rfl rfl hl.1 rfl (Nat.le_of_ble_eq_true rfl) dX4_readNext_19 ⟨Nat.zero_le _, Nat.zero_le _⟩ (fun H locs hP hD hS => ?_)
    have b_2 := rO_le (q := q) (ch := ch) hlen (by first | omega | (dsimp only; omega))
    have b_3 := rO_pc (q := q) (ch := ch) (len := len) (by first | omega | (dsimp only; omega))
    exact fr_zret hx hb hr hlk hP hS (by unfold rX; simp only [Nat.not_lt.mpr c_1, ↓reduceIte, Bool.false_eq_true, bI_true, bI_false, Bool.true_and, Bool.and_true, Bool.and_false, Bool.false_and, Bool.not_true, Bool.not_false, Bool.or_true, Bool.true_or, Bool.or_false, Bool.false_or] <;> rfl) (by unfold rX rXk; simp only [Nat.not_lt.mpr c_1, ↓reduceIte, Bool.false_eq_true, bI_true, bI_false, Bool.true_and, Bool.and_true, Bool.and_false, Bool.false_and, Bool.not_true, Bool.not_false, Bool.or_true, Bool.true_or, Bool.or_false, Bool.false_or] <;> rfl) bI_nar dX4_readNext_22
  · refine lv_aload_n hx hb dX4_readNext_7 rfl (lv_at hl 0 rfl) ?_
    refine lv_bipush (v := nI 59) hx hb dX4_readNext_8 (by decide) ?_
    refine fr_Vi (As := [.int (nI 59)]) (rest := []) (fs' := [[((td 0), .inr (4, [.ref (td 1), .int (nI (len)), .int (nI ((rS ch len 59 q).1)), .int (nI (kd)), .ref (td 2), .int (nI ((rS ch len 59 q).2.2))]))], [((td 1), .inl (T 2, 90, .inl (nf ch)))], [((td 2), .inl (T 0, 5, .inl (nf (rS ch len 59 q).2.1)))]]) (ci := 4) (q0 := (RX4, TX4, 6)) (i0 := 0) ⟨hx, hb, hml, hown, hts⟩ (kX4_readSign l D T Z td ch len kd q 59 hch hlen (by first | omega | (dsimp only; omega)) (by decide)) (cwV 1 hts gX4_readNext_X4_readSign rfl rfl rfl (by decide +kernel) ⟨Nat.le_of_ble_eq_true rfl, Nat.le_of_ble_eq_true rfl⟩) hK hN hM hP hD hS hA [0, 1, 2] rfl rfl rfl rfl rfl rfl hl.1 rfl (Nat.le_of_ble_eq_true rfl) dX4_readNext_10 ⟨Nat.zero_le _, Nat.zero_le _⟩ (fun H locs hP hD hS => ?_)
    have b_4 := rS_le (q := q) (c := 59) (ch := ch) hlen (by first | omega | (dsimp only; omega))
    have b_5 := rS_pc (q := q) (c := 59) (ch := ch) (len := len) (by first | omega | (dsimp only; omega))
    refine fr_ifne_b (tgt := 18) hx hb dX4_readNext_13 (by decide) (fun c_6 => ?_) (fun c_6 => ?_)
    · refine lv_aload_n hx hb dX4_readNext_18 rfl (lv_at hl 0 rfl) ?_
      refine fr_Vi (As := []) (rest := []) (fs' := [[((td 0), .inr (4, [.ref (td 1), .int (nI (len)), .int (nI (((rO ch len (rS ch len 59 q)).2).1)), .int (nI (sg ch len (rS ch len 59 q).1)), .ref (td 2), .int (nI (((rO ch len (rS ch len 59 q)).2).2.2))]))], [((td 1), .inl (T 2, 90, .inl (nf ch)))], [((td 2), .inl (T 0, 5, .inl (nf ((rO ch len (rS ch len 59 q)).2).2.1)))]]) (ci := 4) (q0 := (RX4, TX4, 6)) (i0 := 0) ⟨hx, hb, hml, hown, hts⟩ (kX4_readOperation l D T Z td ch len kd (rS ch len 59 q) hch hlen (by first | omega | (dsimp only; omega)) (by first | omega | (dsimp only; omega))) (cwV 0 hts gX4_readNext_X4_readOperation rfl rfl rfl (by decide +kernel) ⟨Nat.le_of_ble_eq_true rfl, Nat.le_of_ble_eq_true rfl⟩) hK hN hM hP hD hS hA [0, 1, 2] rfl rfl rfl rfl rfl rfl hl.1 rfl (Nat.le_of_ble_eq_true rfl) dX4_readNext_19 ⟨Nat.zero_le _, Nat.zero_le _⟩ (fun H locs hP hD hS => ?_)
      have b_7 := rO_le (q := (rS ch len 59 q)) (ch := ch) hlen (by first | omega | (dsimp only; omega))
      have b_8 := rO_pc (q := (rS ch len 59 q)) (ch := ch) (len := len) (by first | omega | (dsimp only; omega))
      exact fr_zret hx hb hr hlk hP hS (by unfold rX; simp only [c_1, c_6, ↓reduceIte, Bool.false_eq_true, bI_true, bI_false, Bool.true_and, Bool.and_true, Bool.and_false, Bool.false_and, Bool.not_true, Bool.not_false, Bool.or_true, Bool.true_or, Bool.or_false, Bool.false_or] <;> rfl) (by unfold rX rXk; simp only [c_1, c_6, ↓reduceIte, Bool.false_eq_true, bI_true, bI_false, Bool.true_and, Bool.and_true, Bool.and_false, Bool.false_and, Bool.not_true, Bool.not_false, Bool.or_true, Bool.true_or, Bool.or_false, Bool.false_or] <;> rfl) bI_nar dX4_readNext_22
    · refine lv_iconst (v := nI 0) hx hb dX4_readNext_16 (by decide) ?_
      exact fr_zret hx hb hr hlk hP hS (by unfold rX; simp only [c_1, c_6, ↓reduceIte, Bool.false_eq_true, bI_true, bI_false, Bool.true_and, Bool.and_true, Bool.and_false, Bool.false_and, Bool.not_true, Bool.not_false, Bool.or_true, Bool.true_or, Bool.or_false, Bool.false_or] <;> rfl) (by unfold rX rXk; simp only [c_1, c_6, ↓reduceIte, Bool.false_eq_true, bI_true, bI_false, Bool.true_and, Bool.and_true, Bool.and_false, Bool.false_and, Bool.not_true, Bool.not_false, Bool.or_true, Bool.true_or, Bool.or_false, Bool.false_or] <;> rfl) rfl dX4_readNext_17

set_option maxHeartbeats 8000000 in
set_option maxRecDepth 100000 in
theorem kX4_findFault (l : Launch) (D : va_G) (T : Nat → ClassId) (Z : ZZ) (td : Nat → Nat) (ch : Nat → Nat) (len : Nat) (kd : Nat) (q : Q4) (hch : ∀ k, ch k < 128) (hlen : len ≤ 90) (hq : q.1 ≤ 90) (hpc : q.2.2 ≤ 5) : CtI l D T Z yX4_findFault wsX4_findFault ({ frames := 5, cells := 0, slots := 0, locals := 107 }) (teF T td ch len kd q) [.ref (td 0)] ((fF ch len 90 kd (0, q.2)).1) (teF T td ch len ((fF ch len 90 kd (0, q.2)).2.1) ((fF ch len 90 kd (0, q.2)).2.2)) := by
  have hc9 := hch q.1
  refine CtI.of (cc := cX4_findFault) (maxL := 2) (ret := (some .int)) (plainFor_of_name (by decide)) rfl rfl ?_
  intro pP eE s mM bW mE cC A hE hK hN hM hP hD hA
  obtain ⟨hx, hb, hr, hts, hown, hml, hlk⟩ := hE
  have hown : s.vm.findClass RX4 = some mM.cls := hown
  have hP : frP D [[((td 0), .inr (4, [.ref (td 1), .int (nI (len)), .int (nI (q.1)), .int (nI (kd)), .ref (td 2), .int (nI (q.2.2))]))], [((td 1), .inl (T 2, 90, .inl (nf ch)))], [((td 2), .inl (T 0, 5, .inl (nf q.2.1)))]] s.heap := hP
  have hD : va_D A ([[((td 0), .inr (4, [.ref (td 1), .int (nI (len)), .int (nI (q.1)), .int (nI (kd)), .ref (td 2), .int (nI (q.2.2))]))], [((td 1), .inl (T 2, 90, .inl (nf ch)))], [((td 2), .inl (T 0, 5, .inl (nf q.2.1)))]] : List va_W).flatten := hD
  have hS : va_S A s.heap s.heap [] := va_S.rf
  have hl := lv_entry ([.ref (td 0)]) (n := 2) (Nat.le_of_ble_eq_true rfl)
  rw [lg_entry_eq]
  generalize (lg_sl ([.ref (td 0)]) ++ List.replicate (2 - (lg_sl ([.ref (td 0)])).length) Slot.unset).toArray = ls at hl ⊢
  have hl : lv_has ls 2 [(0, .ref (td 0))] := hl
  have w_23 := hts (.fieldLink RX4 23 "PoisonedMemory$Text" "position" "I") (by decide +kernel)
  have hinX4 : ∀ w ∈ wsX40, w ∈ wsX4_findFault := by decide +kernel
  have w_19 := hts (.fieldLink RX4 19 "PoisonedMemory$Text" "length" "I") (by decide +kernel)
  refine lv_aload_n hx hb dX4_findFault_0 rfl (lv_at hl 0 rfl) ?_
  refine fr_Vv (As := []) (rest := []) (fs' := [[((td 0), .inr (4, [.ref (td 1), .int (nI (len)), .int (nI ((0, q.2).1)), .int (nI (kd)), .ref (td 2), .int (nI ((0, q.2).2.2))]))], [((td 1), .inl (T 2, 90, .inl (nf ch)))], [((td 2), .inl (T 0, 5, .inl (nf (0, q.2).2.1)))]]) (ci := 4) (q0 := (RX4, TX4, 6)) (i0 := 0) ⟨hx, hb, hml, hown, hts⟩ (kX4_rewind l D T Z td ch len kd q) (cwV 0 hts gX4_findFault_X4_rewind rfl rfl rfl (by decide +kernel) ⟨Nat.le_of_ble_eq_true rfl, Nat.le_of_ble_eq_true rfl⟩) hK hN hM hP hD hS hA [0, 1, 2] rfl rfl rfl rfl rfl rfl hl.1 rfl (Nat.le_of_ble_eq_true rfl) dX4_findFault_1 ⟨Nat.zero_le _, Nat.zero_le _⟩ (fun H locs hP hD hS => ?_)
  refine lv_iconst (v := nI 0) hx hb dX4_findFault_4 (by decide) ?_
  refine lv_istore_n (lv' := [(1, .int (nI 0)), (0, .ref (td 0))]) hx hb dX4_findFault_5 rfl hl (by decide) rfl (fun ls hl => ?_)
  have loop6 : ∀ (n9 k9 : Nat), k9 ≤ 90 → 90 < k9 + n9 → ∀ (q9 : Q4) (kd9 : Nat), q9.1 ≤ 90 → q9.2.2 ≤ 5 → fF ch len (90 - k9) kd9 q9 = fF ch len 90 kd (0, q.2) → ∀ (H : Heap) (locs : List Loc), frP D [[((td 0), .inr (4, [.ref (td 1), .int (nI (len)), .int (nI (q9.1)), .int (nI (kd9)), .ref (td 2), .int (nI (q9.2.2))]))], [((td 1), .inl (T 2, 90, .inl (nf ch)))], [((td 2), .inl (T 0, 5, .inl (nf q9.2.1)))]] H → va_D A ([[((td 0), .inr (4, [.ref (td 1), .int (nI (len)), .int (nI (q9.1)), .int (nI (kd9)), .ref (td 2), .int (nI (q9.2.2))]))], [((td 1), .inl (T 2, 90, .inl (nf ch)))], [((td 2), .inl (T 0, 5, .inl (nf q9.2.1)))]] : List va_W).flatten → va_S A s.heap H locs → ∀ (ls : Array Slot), lv_has ls 2 [(1, .int (nI (k9))), (0, .ref (td 0))] → W pP l eE ({ frames := 5, cells := 0, slots := 0, locals := 107 }) s mM ([.ref (td 0)] : List Value).toArray bW mE cC H locs 0 0 (MQ bW (QcI D (teF T td ch len ((fF ch len 90 kd (0, q.2)).2.1) ((fF ch len 90 kd (0, q.2)).2.2)) ((fF ch len 90 kd (0, q.2)).1) A) ([.ref (td 0)] : List Value).toArray s 0 0 A) (F0 mM 6 ls []) := by
    intro n9
    induction n9 with
    | zero => intro k9 h1 h2; exact absurd h2 (by omega)
    | succ n9 ih =>
      intro k9 hk1 hk2 q9 kd9 hp9 hq9 hinv H locs hP hD hS ls hl
      refine lv_iload_n hx hb dX4_findFault_6 rfl (lv_at hl 0 rfl) ?_
      refine lv_bipush (v := nI 90) hx hb dX4_findFault_7 (by decide) ?_
      refine fr_icmp_ge (k9) (90) (by omega) (by decide) (tgt := 58) hx hb dX4_findFault_9 (by decide) (fun c_1 => ?_) (fun c_1 => ?_)
      · have c_1' := Nat.not_lt.mpr c_1
        refine lv_aload_n hx hb dX4_findFault_58 rfl (lv_at hl 1 rfl) ?_
        refine va_get (D := D) (ci := 4) (v := .int (nI (q9.1))) (C := RX4) (T := TX4) (N := 6) hx hb hts hinX4 hown hK (hP.at 0 rfl) 0 rfl rfl 2 (by decide) w_23 (fun _ h9 => h9) rfl dX4_findFault_59 ?_
        exact fr_iret hx hb hr hlk hP hS (by rw [← hinv, fF_d (by omega)]) (by rw [← hinv, fF_d (by omega)] <;> rfl) dX4_findFault_62
      · have c_1' := Nat.not_le.mpr c_1
        refine lv_aload_n hx hb dX4_findFault_12 rfl (lv_at hl 1 rfl) ?_
        refine fr_Vi (As := []) (rest := []) (fs' := [[((td 0), .inr (4, [.ref (td 1), .int (nI (len)), .int (nI (((rO ch len q9).2).1)), .int (nI (sg ch len q9.1)), .ref (td 2), .int (nI (((rO ch len q9).2).2.2))]))], [((td 1), .inl (T 2, 90, .inl (nf ch)))], [((td 2), .inl (T 0, 5, .inl (nf ((rO ch len q9).2).2.1)))]]) (ci := 4) (q0 := (RX4, TX4, 6)) (i0 := 0) ⟨hx, hb, hml, hown, hts⟩ (kX4_readOperation l D T Z td ch len kd9 q9 hch hlen (by first | omega | (dsimp only; omega)) (by first | omega | (dsimp only; omega))) (cwV 0 hts gX4_findFault_X4_readOperation rfl rfl rfl (by decide +kernel) ⟨Nat.le_of_ble_eq_true rfl, Nat.le_of_ble_eq_true rfl⟩) hK hN hM hP hD hS hA [0, 1, 2] rfl rfl rfl rfl rfl rfl hl.1 rfl (Nat.le_of_ble_eq_true rfl) dX4_findFault_13 ⟨Nat.zero_le _, Nat.zero_le _⟩ (fun H locs hP hD hS => ?_)
        have b_2 := rO_le (q := q9) (ch := ch) hlen (by first | omega | (dsimp only; omega))
        have b_3 := rO_pc (q := q9) (ch := ch) (len := len) (by first | omega | (dsimp only; omega))
        refine fr_ifne_b (tgt := 24) hx hb dX4_findFault_16 (by decide) (fun c_4 => ?_) (fun c_4 => ?_)
        · refine lv_aload_n hx hb dX4_findFault_24 rfl (lv_at hl 1 rfl) ?_
          refine va_get (D := D) (ci := 4) (v := .int (nI (((rO ch len q9).2).1))) (C := RX4) (T := TX4) (N := 6) hx hb hts hinX4 hown hK (hP.at 0 rfl) 0 rfl rfl 2 (by decide) w_23 (fun _ h9 => h9) rfl dX4_findFault_25 ?_
          refine lv_aload_n hx hb dX4_findFault_28 rfl (lv_at hl 1 rfl) ?_
          refine va_get (D := D) (ci := 4) (v := .int (nI (len))) (C := RX4) (T := TX4) (N := 6) hx hb hts hinX4 hown hK (hP.at 0 rfl) 0 rfl rfl 1 (by decide) w_19 (fun _ h9 => h9) rfl dX4_findFault_29 ?_
          refine fr_icmp_lt (((rO ch len q9).2).1) (len) (by omega) (by omega) (tgt := 38) hx hb dX4_findFault_32 (by decide) (fun c_5 => ?_) (fun c_5 => ?_)
          · have c_5' := Nat.not_le.mpr c_5
            refine lv_aload_n hx hb dX4_findFault_38 rfl (lv_at hl 1 rfl) ?_
            refine lv_bipush (v := nI 59) hx hb dX4_findFault_39 (by decide) ?_
            refine fr_Vi (As := [.int (nI 59)]) (rest := []) (fs' := [[((td 0), .inr (4, [.ref (td 1), .int (nI (len)), .int (nI ((rS ch len 59 ((rO ch len q9).2)).1)), .int (nI ((sg ch len q9.1))), .ref (td 2), .int (nI ((rS ch len 59 ((rO ch len q9).2)).2.2))]))], [((td 1), .inl (T 2, 90, .inl (nf ch)))], [((td 2), .inl (T 0, 5, .inl (nf (rS ch len 59 ((rO ch len q9).2)).2.1)))]]) (ci := 4) (q0 := (RX4, TX4, 6)) (i0 := 0) ⟨hx, hb, hml, hown, hts⟩ (kX4_readSign l D T Z td ch len (sg ch len q9.1) ((rO ch len q9).2) 59 hch hlen (by first | omega | (dsimp only; omega)) (by decide)) (cwV 1 hts gX4_findFault_X4_readSign rfl rfl rfl (by decide +kernel) ⟨Nat.le_of_ble_eq_true rfl, Nat.le_of_ble_eq_true rfl⟩) hK hN hM hP hD hS hA [0, 1, 2] rfl rfl rfl rfl rfl rfl hl.1 rfl (Nat.le_of_ble_eq_true rfl) dX4_findFault_41 ⟨Nat.zero_le _, Nat.zero_le _⟩ (fun H locs hP hD hS => ?_)
            have b_6 := rS_le (q := ((rO ch len q9).2)) (c := 59) (ch := ch) hlen (by first | omega | (dsimp only; omega))
            have b_7 := rS_pc (q := ((rO ch len q9).2)) (c := 59) (ch := ch) (len := len) (by first | omega | (dsimp only; omega))
            refine fr_ifne_b (tgt := 52) hx hb dX4_findFault_44 (by decide) (fun c_8 => ?_) (fun c_8 => ?_)
            · refine fr_iinc (k9) ((k9 + 1)) (nI_inc _) (lv' := [(1, .int (nI ((k9 + 1)))), (0, .ref (td 0))]) (k := 0) hx hb dX4_findFault_52 hl rfl (by decide) rfl (fun ls hl => ?_)
              refine lv_goto (tgt := 6) hx hb dX4_findFault_55 (by decide) ?_
              exact ih (k9 + 1) (by omega) (by omega) (rS ch len 59 (rO ch len q9).2) (sg ch len q9.1) (by omega) (by omega) ((fF_go c_4 (by omega) c_8 (by omega)).symm.trans hinv) H locs (show frP D [[((td 0), .inr (4, [.ref (td 1), .int (nI (len)), .int (nI ((rS ch len 59 (rO ch len q9).2).1)), .int (nI ((sg ch len q9.1))), .ref (td 2), .int (nI ((rS ch len 59 (rO ch len q9).2).2.2))]))], [((td 1), .inl (T 2, 90, .inl (nf ch)))], [((td 2), .inl (T 0, 5, .inl (nf (rS ch len 59 (rO ch len q9).2).2.1)))]] H from hP) (show va_D A ([[((td 0), .inr (4, [.ref (td 1), .int (nI (len)), .int (nI ((rS ch len 59 (rO ch len q9).2).1)), .int (nI ((sg ch len q9.1))), .ref (td 2), .int (nI ((rS ch len 59 (rO ch len q9).2).2.2))]))], [((td 1), .inl (T 2, 90, .inl (nf ch)))], [((td 2), .inl (T 0, 5, .inl (nf (rS ch len 59 (rO ch len q9).2).2.1)))]] : List va_W).flatten from hD) hS ls (lv_sub hl [0, 1] rfl)
            · refine lv_aload_n hx hb dX4_findFault_47 rfl (lv_at hl 1 rfl) ?_
              refine va_get (D := D) (ci := 4) (v := .int (nI ((rS ch len 59 ((rO ch len q9).2)).1))) (C := RX4) (T := TX4) (N := 6) hx hb hts hinX4 hown hK (hP.at 0 rfl) 0 rfl rfl 2 (by decide) w_23 (fun _ h9 => h9) rfl dX4_findFault_48 ?_
              exact fr_iret hx hb hr hlk hP hS (by rw [← hinv, fF_c c_4 (by omega) c_8 (by omega)]) (by rw [← hinv, fF_c c_4 (by omega) c_8 (by omega)] <;> rfl) dX4_findFault_51
          · have c_5' := Nat.not_lt.mpr c_5
            refine lv_bipush (v := (-6)) hx hb dX4_findFault_35 (by decide) ?_
            exact fr_iret hx hb hr hlk hP hS (by rw [← hinv, fF_b c_4 (by omega) (by omega)]) (by rw [← hinv, fF_b c_4 (by omega) (by omega)] <;> rfl) dX4_findFault_37
        · refine lv_aload_n hx hb dX4_findFault_19 rfl (lv_at hl 1 rfl) ?_
          refine va_get (D := D) (ci := 4) (v := .int (nI (((rO ch len q9).2).1))) (C := RX4) (T := TX4) (N := 6) hx hb hts hinX4 hown hK (hP.at 0 rfl) 0 rfl rfl 2 (by decide) w_23 (fun _ h9 => h9) rfl dX4_findFault_20 ?_
          exact fr_iret hx hb hr hlk hP hS (by rw [← hinv, fF_a c_4 (by omega)]) (by rw [← hinv, fF_a c_4 (by omega)] <;> rfl) dX4_findFault_23
  exact loop6 (90 + 1) (0) (by omega) (by omega) (0, q.2) kd (by dsimp only; omega) hpc rfl _ _ hP hD hS ls (lv_sub hl [0, 1] rfl)
