
set_option maxHeartbeats 8000000 in
set_option maxRecDepth 100000 in
theorem kX6_isText (l : Launch) (D : va_G) (T : Nat → ClassId) (Z : ZZ) (md : Nat → Nat) (n : Nat) (len : Nat) (p : Nat) (le : Nat) (ch : Nat → Nat) (nu : Nat → Nat) (hch : ∀ k, ch k < 128) (hlen : len ≤ 90) (hp : p ≤ 90) : CtI l D T Z yX6_isText wsX6_isText ({ frames := 3, cells := 0, slots := 0, locals := 65 }) [[((md 0), .inr (6, [.ref (md 1), .int (nI (n)), .ref (md 2), .int (nI (len)), .int (nI (p)), .int (nI (le)), .ref (md 3), .ref (md 4)]))], [((md 2), .inl (T 0, 90, .inl (nf ch)))], [((md 3), .inl (T 0, 5, .inl (nf nu)))]] [.ref (md 0)] (bI ((ixT ch len 91 0 le nu).1)) [[((md 0), .inr (6, [.ref (md 1), .int (nI (n)), .ref (md 2), .int (nI (len)), .int (nI ((ixT ch len 91 0 le nu).2.1)), .int (nI ((ixT ch len 91 0 le nu).2.2.1)), .ref (md 3), .ref (md 4)]))], [((md 2), .inl (T 0, 90, .inl (nf ch)))], [((md 3), .inl (T 0, 5, .inl (nf ((ixT ch len 91 0 le nu).2.2.2))))]] := by
  have hc9 := hch p
  have hs9 := sg_lt (len := len) (p := p) hch
  refine CtI.of (cc := cX6_isText) (maxL := 1) (ret := (some .boolean)) (plainFor_of_name (by decide)) rfl rfl ?_
  intro pP eE s mM bW mE cC A hE hK hN hM hP hD hA
  obtain ⟨hx, hb, hr, hts, hown, hml, hlk⟩ := hE
  have hown : s.vm.findClass RX6 = some mM.cls := hown
  have hS : va_S A s.heap s.heap [] := va_S.rf
  have hl := lv_entry ([.ref (md 0)]) (n := 1) (Nat.le_of_ble_eq_true rfl)
  rw [lg_entry_eq]
  generalize (lg_sl ([.ref (md 0)]) ++ List.replicate (1 - (lg_sl ([.ref (md 0)])).length) Slot.unset).toArray = ls at hl ⊢
  have hl : lv_has ls 1 [(0, .ref (md 0))] := hl
  have w_142 := hts (.fieldLink RX6 142 "PoisonedMemoryModel" "at" "I") (by decide +kernel)
  have hinX6 : ∀ w ∈ wsX60, w ∈ wsX6_isText := by decide +kernel
  have w_139 := hts (.fieldLink RX6 139 "PoisonedMemoryModel" "length" "I") (by decide +kernel)
  refine lv_aload_n hx hb dX6_isText_0 rfl (lv_at hl 0 rfl) ?_
  refine lv_iconst (v := nI 0) hx hb dX6_isText_1 (by decide) ?_
  refine fr_put (T := T) (C := RX6) (TT := TX6) (N := 8) (ci := 6) (v := .int (nI 0)) (fs' := [[((md 0), .inr (6, [.ref (md 1), .int (nI (n)), .ref (md 2), .int (nI (len)), .int (nI 0), .int (nI (le)), .ref (md 3), .ref (md 4)]))], [((md 2), .inl (T 0, 90, .inl (nf ch)))], [((md 3), .inl (T 0, 5, .inl (nf nu)))]]) (ty := .int) hx hb hts hinX6 tyX6 tyX6_ok nmX6 hown hK hP hD hS 0 rfl rfl 4 (by decide) rfl w_142 rfl rfl (by decide +kernel) rfl rfl (Nat.le_of_ble_eq_true rfl) dX6_isText_2 (fun H locs hP hD hS => ?_)
  have loop5 : ∀ (n9 k9 : Nat), k9 ≤ 90 → 90 < k9 + n9 → ∀ (p9 le9 : Nat) (nu9 : Nat → Nat), k9 ≤ p9 → p9 ≤ 90 → ixT ch len (91 - k9) p9 le9 nu9 = ixT ch len 91 0 le nu → ∀ (H : Heap) (locs : List Loc), frP D [[((md 0), .inr (6, [.ref (md 1), .int (nI (n)), .ref (md 2), .int (nI (len)), .int (nI (p9)), .int (nI (le9)), .ref (md 3), .ref (md 4)]))], [((md 2), .inl (T 0, 90, .inl (nf ch)))], [((md 3), .inl (T 0, 5, .inl (nf nu9)))]] H → va_D A ([[((md 0), .inr (6, [.ref (md 1), .int (nI (n)), .ref (md 2), .int (nI (len)), .int (nI (p9)), .int (nI (le9)), .ref (md 3), .ref (md 4)]))], [((md 2), .inl (T 0, 90, .inl (nf ch)))], [((md 3), .inl (T 0, 5, .inl (nf nu9)))]] : List va_W).flatten → va_S A s.heap H locs → ∀ (ls : Array Slot), lv_has ls 1 [(0, .ref (md 0))] → W pP l eE ({ frames := 3, cells := 0, slots := 0, locals := 65 }) s mM ([.ref (md 0)] : List Value).toArray bW mE cC H locs 0 0 (MQ bW (QcI D [[((md 0), .inr (6, [.ref (md 1), .int (nI (n)), .ref (md 2), .int (nI (len)), .int (nI ((ixT ch len 91 0 le nu).2.1)), .int (nI ((ixT ch len 91 0 le nu).2.2.1)), .ref (md 3), .ref (md 4)]))], [((md 2), .inl (T 0, 90, .inl (nf ch)))], [((md 3), .inl (T 0, 5, .inl (nf ((ixT ch len 91 0 le nu).2.2.2))))]] (bI ((ixT ch len 91 0 le nu).1)) A) ([.ref (md 0)] : List Value).toArray s 0 0 A) (F0 mM 5 ls []) := by
    intro n9
    induction n9 with
    | zero => intro k9 h1 h2; exact absurd h2 (by omega)
    | succ n9 ih =>
      intro k9 hk1 hk2 p9 le9 nu9 hkp hp9 hinv H locs hP hD hS ls hl
      refine lv_aload_n hx hb dX6_isText_5 rfl (lv_at hl 0 rfl) ?_
      refine fr_Vi (As := []) (rest := []) (fs' := [[((md 0), .inr (6, [.ref (md 1), .int (nI (n)), .ref (md 2), .int (nI (len)), .int (nI ((mOp ch len p9 nu9).2.1)), .int (nI (sg ch len p9)), .ref (md 3), .ref (md 4)]))], [((md 2), .inl (T 0, 90, .inl (nf ch)))], [((md 3), .inl (T 0, 5, .inl (nf ((mOp ch len p9 nu9).2.2))))]]) (ci := 6) (q0 := (RX6, TX6, 8)) (i0 := 0) ⟨hx, hb, hml, hown, hts⟩ (kX6_readsOperation l D T Z md n len p9 le9 ch nu9 hch hlen (by first | omega | (dsimp only; omega))) (cwV 0 hts gX6_isText_X6_readsOperation rfl rfl rfl (by decide +kernel) ⟨Nat.le_of_ble_eq_true rfl, Nat.le_of_ble_eq_true rfl⟩) hK hN hM hP hD hS hA [0, 1, 2] rfl rfl rfl rfl rfl rfl hl.1 rfl (Nat.le_of_ble_eq_true rfl) dX6_isText_6 ⟨Nat.zero_le _, Nat.zero_le _⟩ (fun H locs hP hD hS => ?_)
      have b_1 := @mOp_le ch len (p9) (nu9) hlen (by first | omega | (dsimp only; omega))
      refine fr_ifeq_b (tgt := 36) hx hb dX6_isText_9 (by decide) (fun c_2 => ?_) (fun c_2 => ?_)
      · refine lv_iconst (v := nI 0) hx hb dX6_isText_36 (by decide) ?_
        exact fr_zret hx hb hr hlk hP hS (by rw [← hinv, ixT_a c_2 (by omega)] <;> rfl) (by rw [← hinv, ixT_a c_2 (by omega)] <;> rfl) rfl dX6_isText_37
      · refine lv_aload_n hx hb dX6_isText_12 rfl (lv_at hl 0 rfl) ?_
        refine va_get (D := D) (ci := 6) (v := .int (nI ((mOp ch len p9 nu9).2.1))) (C := RX6) (T := TX6) (N := 8) hx hb hts hinX6 hown hK (hP.at 0 rfl) 0 rfl rfl 4 (by decide) w_142 (fun _ h9 => h9) rfl dX6_isText_13 ?_
        refine lv_aload_n hx hb dX6_isText_16 rfl (lv_at hl 0 rfl) ?_
        refine va_get (D := D) (ci := 6) (v := .int (nI (len))) (C := RX6) (T := TX6) (N := 8) hx hb hts hinX6 hown hK (hP.at 0 rfl) 0 rfl rfl 3 (by decide) w_139 (fun _ h9 => h9) rfl dX6_isText_17 ?_
        refine fr_icmp_ne ((mOp ch len p9 nu9).2.1) (len) (by omega) (by omega) (tgt := 25) hx hb dX6_isText_20 (by decide) (fun c_3 => ?_) (fun c_3 => ?_)
        · refine lv_aload_n hx hb dX6_isText_25 rfl (lv_at hl 0 rfl) ?_
          refine lv_bipush (v := nI 59) hx hb dX6_isText_26 (by decide) ?_
          refine fr_Vi (As := [.int (nI 59)]) (rest := []) (fs' := [[((md 0), .inr (6, [.ref (md 1), .int (nI (n)), .ref (md 2), .int (nI (len)), .int (nI (tkP ch len 59 ((mOp ch len p9 nu9).2.1))), .int (nI ((sg ch len p9))), .ref (md 3), .ref (md 4)]))], [((md 2), .inl (T 0, 90, .inl (nf ch)))], [((md 3), .inl (T 0, 5, .inl (nf ((mOp ch len p9 nu9).2.2))))]]) (ci := 6) (q0 := (RX6, TX6, 8)) (i0 := 0) ⟨hx, hb, hml, hown, hts⟩ (kX6_takes l D T Z md n len ((mOp ch len p9 nu9).2.1) (sg ch len p9) ch 59 hch hlen (by first | omega | (dsimp only; omega)) (by decide) (by decide)) (cwV 1 hts gX6_isText_X6_takes rfl rfl rfl (by decide +kernel) ⟨Nat.le_of_ble_eq_true rfl, Nat.le_of_ble_eq_true rfl⟩) hK hN hM hP hD hS hA [0, 1] rfl rfl rfl rfl rfl rfl hl.1 rfl (Nat.le_of_ble_eq_true rfl) dX6_isText_28 ⟨Nat.zero_le _, Nat.zero_le _⟩ (fun H locs hP hD hS => ?_)
          have b_4 := @tkP_le ch len (59) (((mOp ch len p9 nu9).2.1)) hlen (by omega) (by first | omega | (dsimp only; omega))
          refine fr_ifne_b (tgt := 5) hx hb dX6_isText_31 (by decide) (fun c_5 => ?_) (fun c_5 => ?_)
          · have hge := mOp_ge c_2
            have htk : (mOp ch len p9 nu9).2.1 + 1 ≤ tkP ch len 59 (mOp ch len p9 nu9).2.1 := by unfold tkP; rw [if_pos (of_decide_eq_true c_5)]; omega
            exact ih (k9 + 1) (by omega) (by omega) (tkP ch len 59 (mOp ch len p9 nu9).2.1) (sg ch len p9) (mOp ch len p9 nu9).2.2 (by omega) (by omega) ((ixT_d c_2 (by omega) c_5 (by omega)).symm.trans hinv) H locs (show frP D [[((md 0), .inr (6, [.ref (md 1), .int (nI (n)), .ref (md 2), .int (nI (len)), .int (nI ((tkP ch len 59 (mOp ch len p9 nu9).2.1))), .int (nI ((sg ch len p9))), .ref (md 3), .ref (md 4)]))], [((md 2), .inl (T 0, 90, .inl (nf ch)))], [((md 3), .inl (T 0, 5, .inl (nf ((mOp ch len p9 nu9).2.2))))]] H from hP) (show va_D A ([[((md 0), .inr (6, [.ref (md 1), .int (nI (n)), .ref (md 2), .int (nI (len)), .int (nI ((tkP ch len 59 (mOp ch len p9 nu9).2.1))), .int (nI ((sg ch len p9))), .ref (md 3), .ref (md 4)]))], [((md 2), .inl (T 0, 90, .inl (nf ch)))], [((md 3), .inl (T 0, 5, .inl (nf ((mOp ch len p9 nu9).2.2))))]] : List va_W).flatten from hD) hS ls (lv_sub hl [0] rfl)
          · refine lv_iconst (v := nI 0) hx hb dX6_isText_34 (by decide) ?_
            exact fr_zret hx hb hr hlk hP hS (by rw [← hinv, ixT_c c_2 (by omega) c_5 (by omega)] <;> rfl) (by rw [← hinv, ixT_c c_2 (by omega) c_5 (by omega)] <;> rfl) rfl dX6_isText_35
        · refine lv_iconst (v := nI 1) hx hb dX6_isText_23 (by decide) ?_
          exact fr_zret hx hb hr hlk hP hS (by rw [← hinv, ixT_b c_2 (by omega) (by omega)] <;> rfl) (by rw [← hinv, ixT_b c_2 (by omega) (by omega)] <;> rfl) rfl dX6_isText_24
  exact loop5 (90 + 1) (0) (by omega) (by omega) 0 le nu (by omega) (by omega) rfl _ _ hP hD hS ls (lv_sub hl [0] rfl)

set_option maxHeartbeats 8000000 in
set_option maxRecDepth 100000 in
theorem kX6_fault (l : Launch) (D : va_G) (T : Nat → ClassId) (Z : ZZ) (md : Nat → Nat) (n : Nat) (len : Nat) (p : Nat) (le : Nat) (ch : Nat → Nat) (nu : Nat → Nat) (hch : ∀ k, ch k < 128) (hlen : len ≤ 90) (hp : p ≤ 90) : CtI l D T Z yX6_fault wsX6_fault ({ frames := 4, cells := 0, slots := 0, locals := 85 }) [[((md 0), .inr (6, [.ref (md 1), .int (nI (n)), .ref (md 2), .int (nI (len)), .int (nI (p)), .int (nI (le)), .ref (md 3), .ref (md 4)]))], [((md 2), .inl (T 0, 90, .inl (nf ch)))], [((md 3), .inl (T 0, 5, .inl (nf nu)))]] [.ref (md 0)] (if (ixT ch len 91 0 le nu).1 then -6 else nI (ixT ch len 91 0 le nu).2.1) [[((md 0), .inr (6, [.ref (md 1), .int (nI (n)), .ref (md 2), .int (nI (len)), .int (nI ((ixT ch len 91 0 le nu).2.1)), .int (nI ((ixT ch len 91 0 le nu).2.2.1)), .ref (md 3), .ref (md 4)]))], [((md 2), .inl (T 0, 90, .inl (nf ch)))], [((md 3), .inl (T 0, 5, .inl (nf ((ixT ch len 91 0 le nu).2.2.2))))]] := by
  have hc9 := hch p
  have hs9 := sg_lt (len := len) (p := p) hch
  refine CtI.of (cc := cX6_fault) (maxL := 1) (ret := (some .int)) (plainFor_of_name (by decide)) rfl rfl ?_
  intro pP eE s mM bW mE cC A hE hK hN hM hP hD hA
  obtain ⟨hx, hb, hr, hts, hown, hml, hlk⟩ := hE
  have hown : s.vm.findClass RX6 = some mM.cls := hown
  have hS : va_S A s.heap s.heap [] := va_S.rf
  have hl := lv_entry ([.ref (md 0)]) (n := 1) (Nat.le_of_ble_eq_true rfl)
  rw [lg_entry_eq]
  generalize (lg_sl ([.ref (md 0)]) ++ List.replicate (1 - (lg_sl ([.ref (md 0)])).length) Slot.unset).toArray = ls at hl ⊢
  have hl : lv_has ls 1 [(0, .ref (md 0))] := hl
  have w_142 := hts (.fieldLink RX6 142 "PoisonedMemoryModel" "at" "I") (by decide +kernel)
  have hinX6 : ∀ w ∈ wsX60, w ∈ wsX6_fault := by decide +kernel
  refine lv_aload_n hx hb dX6_fault_0 rfl (lv_at hl 0 rfl) ?_
  refine fr_Vi (As := []) (rest := []) (fs' := [[((md 0), .inr (6, [.ref (md 1), .int (nI (n)), .ref (md 2), .int (nI (len)), .int (nI ((ixT ch len 91 0 le nu).2.1)), .int (nI ((ixT ch len 91 0 le nu).2.2.1)), .ref (md 3), .ref (md 4)]))], [((md 2), .inl (T 0, 90, .inl (nf ch)))], [((md 3), .inl (T 0, 5, .inl (nf ((ixT ch len 91 0 le nu).2.2.2))))]]) (ci := 6) (q0 := (RX6, TX6, 8)) (i0 := 0) ⟨hx, hb, hml, hown, hts⟩ (kX6_isText l D T Z md n len p le ch nu hch hlen (by first | omega | (dsimp only; omega))) (cwV 0 hts gX6_fault_X6_isText rfl rfl rfl (by decide +kernel) ⟨Nat.le_of_ble_eq_true rfl, Nat.le_of_ble_eq_true rfl⟩) hK hN hM hP hD hS hA [0, 1, 2] rfl rfl rfl rfl rfl rfl hl.1 rfl (Nat.le_of_ble_eq_true rfl) dX6_fault_1 ⟨Nat.zero_le _, Nat.zero_le _⟩ (fun H locs hP hD hS => ?_)
  have b_1 := ixT_le (ch := ch) (len := len) hlen 91 0 (le) (nu) (by omega)
  refine fr_ifeq_b (tgt := 12) hx hb dX6_fault_4 (by decide) (fun c_2 => ?_) (fun c_2 => ?_)
  · refine lv_aload_n hx hb dX6_fault_12 rfl (lv_at hl 0 rfl) ?_
    refine va_get (D := D) (ci := 6) (v := .int (nI ((ixT ch len 91 0 le nu).2.1))) (C := RX6) (T := TX6) (N := 8) hx hb hts hinX6 hown hK (hP.at 0 rfl) 0 rfl rfl 4 (by decide) w_142 (fun _ h9 => h9) rfl dX6_fault_13 ?_
    exact fr_iret hx hb hr hlk hP hS (by first | rfl | (simp only [c_2, ↓reduceIte, Bool.false_eq_true, bI_true, bI_false, Bool.true_and, Bool.and_true, Bool.and_false, Bool.false_and, Bool.not_true, Bool.not_false, Bool.or_true, Bool.true_or, Bool.or_false, Bool.false_or] <;> rfl) | (simp [c_2, bI]; done)) rfl dX6_fault_16
  · refine lv_bipush (v := (-6)) hx hb dX6_fault_7 (by decide) ?_
    refine lv_goto (tgt := 16) hx hb dX6_fault_9 (by decide) ?_
    exact fr_iret hx hb hr hlk hP hS (by first | rfl | (simp only [c_2, ↓reduceIte, Bool.false_eq_true, bI_true, bI_false, Bool.true_and, Bool.and_true, Bool.and_false, Bool.false_and, Bool.not_true, Bool.not_false, Bool.or_true, Bool.true_or, Bool.or_false, Bool.false_or] <;> rfl) | (simp [c_2, bI]; done)) rfl dX6_fault_16

set_option maxHeartbeats 8000000 in
set_option maxRecDepth 100000 in
theorem kX6_does (l : Launch) (D : va_G) (T : Nat → ClassId) (Z : ZZ) (md : Nat → Nat) (n : Nat) (len : Nat) (p : Nat) (le : Nat) (σ : MS) (nu : Nat → Nat) (b : Nat) (hb9 : b ≤ 1560) (hlet : letOk le nu) (hi : WH (σ (b + 256)) 20) : CtI l D T Z yX6_does wsX6_does ({ frames := 4, cells := 0, slots := 0, locals := 102 }) [[((md 0), .inr (6, [.ref (md 1), .int (nI (n)), .ref (md 2), .int (nI (len)), .int (nI (p)), .int (nI (le)), .ref (md 3), .ref (md 4)]))], [((md 1), .inl (T 0, 1872, .inl (σ)))], [((md 3), .inl (T 0, 5, .inl (nf nu)))]] [.ref (md 0), .int (nI (b))] (doR σ b le nu) [[((md 0), .inr (6, [.ref (md 1), .int (nI (n)), .ref (md 2), .int (nI (len)), .int (nI (p)), .int (nI (le)), .ref (md 3), .ref (md 4)]))], [((md 1), .inl (T 0, 1872, .inl (doS σ b le nu)))], [((md 3), .inl (T 0, 5, .inl (nf nu)))]] := by
  refine CtI.of (cc := cX6_does) (maxL := 2) (ret := (some .int)) (plainFor_of_name (by decide)) rfl rfl ?_
  intro pP eE s mM bW mE cC A hE hK hN hM hP hD hA
  obtain ⟨hx, hb, hr, hts, hown, hml, hlk⟩ := hE
  have hown : s.vm.findClass RX6 = some mM.cls := hown
  have hS : va_S A s.heap s.heap [] := va_S.rf
  have hl := lv_entry ([.ref (md 0), .int (nI (b))]) (n := 2) (Nat.le_of_ble_eq_true rfl)
  rw [lg_entry_eq]
  generalize (lg_sl ([.ref (md 0), .int (nI (b))]) ++ List.replicate (2 - (lg_sl ([.ref (md 0), .int (nI (b))])).length) Slot.unset).toArray = ls at hl ⊢
  have hl : lv_has ls 2 [(0, .ref (md 0)), (1, .int (nI (b)))] := hl
  have w_148 := hts (.fieldLink RX6 148 "PoisonedMemoryModel" "letter" "I") (by decide +kernel)
  have hinX6 : ∀ w ∈ wsX60, w ∈ wsX6_does := by decide +kernel
  have w_16 := hts (.fieldLink RX6 16 "PoisonedMemoryModel" "numbers" "[I") (by decide +kernel)
  refine lv_aload_n hx hb dX6_does_0 rfl (lv_at hl 0 rfl) ?_
  refine va_get (D := D) (ci := 6) (v := .int (nI (le))) (C := RX6) (T := TX6) (N := 8) hx hb hts hinX6 hown hK (hP.at 0 rfl) 0 rfl rfl 5 (by decide) w_148 (fun _ h9 => h9) rfl dX6_does_1 ?_
  rcases hlet with ⟨q_1, q_1n0, q_1n1, q_1n2⟩ | ⟨q_1, q_1n0, q_1n1, q_1n2⟩ | ⟨q_1, q_1n0, q_1n1, q_1n2⟩ | ⟨q_1, q_1n0, q_1n1, q_1n2, q_1n3, q_1n4⟩ | ⟨q_1, q_1n0, q_1n1⟩ | ⟨q_1, q_1n0⟩ | ⟨q_1, q_1n0, q_1n1, q_1n2⟩
  · refine fr_val (show nI le = nI 76 from by rw [q_1]) ?_
    refine lv_tableIn (off := 92) (tgt := 96) hx hb dX6_does_4 (by decide) (by decide) rfl (by decide) ?_
    refine lv_aload_n hx hb dX6_does_96 rfl (lv_at hl 0 rfl) ?_
    refine lv_iload_n hx hb dX6_does_97 rfl (lv_at hl 1 rfl) ?_
    refine lv_aload_n hx hb dX6_does_98 rfl (lv_at hl 0 rfl) ?_
    refine va_get (D := D) (ci := 6) (v := .ref (md 3)) (C := RX6) (T := TX6) (N := 8) hx hb hts hinX6 hown hK (hP.at 0 rfl) 0 rfl rfl 6 (by decide) w_16 (fun _ h9 => h9) rfl dX6_does_99 ?_
    refine lv_iconst (v := nI 0) hx hb dX6_does_102 (by decide) ?_
    refine fr_iald hx hb hK hP 2 (0) rfl (by decide) (by decide) dX6_does_103 ?_
    refine fr_val (show (nf nu) 0 = nI (nu 0) from rfl) ?_
    refine lv_aload_n hx hb dX6_does_104 rfl (lv_at hl 0 rfl) ?_
    refine va_get (D := D) (ci := 6) (v := .ref (md 3)) (C := RX6) (T := TX6) (N := 8) hx hb hts hinX6 hown hK (hP.at 0 rfl) 0 rfl rfl 6 (by decide) w_16 (fun _ h9 => h9) rfl dX6_does_105 ?_
    refine lv_iconst (v := nI 1) hx hb dX6_does_108 (by decide) ?_
    refine fr_iald hx hb hK hP 2 (1) rfl (by decide) (by decide) dX6_does_109 ?_
    refine fr_val (show (nf nu) 1 = nI (nu 1) from rfl) ?_
    refine lv_aload_n hx hb dX6_does_110 rfl (lv_at hl 0 rfl) ?_
    refine va_get (D := D) (ci := 6) (v := .ref (md 3)) (C := RX6) (T := TX6) (N := 8) hx hb hts hinX6 hown hK (hP.at 0 rfl) 0 rfl rfl 6 (by decide) w_16 (fun _ h9 => h9) rfl dX6_does_111 ?_
    refine lv_iconst (v := nI 2) hx hb dX6_does_114 (by decide) ?_
    refine fr_iald hx hb hK hP 2 (2) rfl (by decide) (by decide) dX6_does_115 ?_
    refine fr_val (show (nf nu) 2 = nI (nu 2) from rfl) ?_
    refine lv_iconst (v := nI 2) hx hb dX6_does_116 (by decide) ?_
    refine fr_Vi (As := [.int (nI (b)), .int (nI ((nu 0))), .int (nI ((nu 1))), .int (nI ((nu 2))), .int (nI 2)]) (rest := []) (fs' := [[((md 0), .inr (6, [.ref (md 1), .int (nI (n)), .ref (md 2), .int (nI (len)), .int (nI (p)), .int (nI (le)), .ref (md 3), .ref (md 4)]))], [((md 1), .inl (T 0, 1872, .inl (mLdS σ b (nu 0) (nu 1) (nu 2))))], [((md 3), .inl (T 0, 5, .inl (nf nu)))]]) (ci := 6) (q0 := (RX6, TX6, 8)) (i0 := 0) ⟨hx, hb, hml, hown, hts⟩ (kX6_loads_2 l D T Z md n len p le σ b (nu 0) (nu 1) (nu 2) (by omega) (by omega) (by omega) (by omega)) (cwV 5 hts gX6_does_X6_loads rfl rfl rfl (by decide +kernel) ⟨Nat.le_of_ble_eq_true rfl, Nat.le_of_ble_eq_true rfl⟩) hK hN hM hP hD hS hA [0, 1] rfl rfl rfl rfl rfl rfl hl.1 rfl (Nat.le_of_ble_eq_true rfl) dX6_does_117 ⟨Nat.zero_le _, Nat.zero_le _⟩ (fun H locs hP hD hS => ?_)
    exact fr_iret hx hb hr hlk hP hS (by rw [q_1] <;> rfl) (by rw [q_1] <;> rfl) dX6_does_120
  · refine fr_val (show nI le = nI 83 from by rw [q_1]) ?_
    refine lv_tableIn (off := 117) (tgt := 121) hx hb dX6_does_4 (by decide) (by decide) rfl (by decide) ?_
    refine lv_aload_n hx hb dX6_does_121 rfl (lv_at hl 0 rfl) ?_
    refine lv_iload_n hx hb dX6_does_122 rfl (lv_at hl 1 rfl) ?_
    refine lv_aload_n hx hb dX6_does_123 rfl (lv_at hl 0 rfl) ?_
    refine va_get (D := D) (ci := 6) (v := .ref (md 3)) (C := RX6) (T := TX6) (N := 8) hx hb hts hinX6 hown hK (hP.at 0 rfl) 0 rfl rfl 6 (by decide) w_16 (fun _ h9 => h9) rfl dX6_does_124 ?_
    refine lv_iconst (v := nI 0) hx hb dX6_does_127 (by decide) ?_
    refine fr_iald hx hb hK hP 2 (0) rfl (by decide) (by decide) dX6_does_128 ?_
    refine fr_val (show (nf nu) 0 = nI (nu 0) from rfl) ?_
    refine lv_aload_n hx hb dX6_does_129 rfl (lv_at hl 0 rfl) ?_
    refine va_get (D := D) (ci := 6) (v := .ref (md 3)) (C := RX6) (T := TX6) (N := 8) hx hb hts hinX6 hown hK (hP.at 0 rfl) 0 rfl rfl 6 (by decide) w_16 (fun _ h9 => h9) rfl dX6_does_130 ?_
    refine lv_iconst (v := nI 1) hx hb dX6_does_133 (by decide) ?_
    refine fr_iald hx hb hK hP 2 (1) rfl (by decide) (by decide) dX6_does_134 ?_
    refine fr_val (show (nf nu) 1 = nI (nu 1) from rfl) ?_
    refine lv_aload_n hx hb dX6_does_135 rfl (lv_at hl 0 rfl) ?_
    refine va_get (D := D) (ci := 6) (v := .ref (md 3)) (C := RX6) (T := TX6) (N := 8) hx hb hts hinX6 hown hK (hP.at 0 rfl) 0 rfl rfl 6 (by decide) w_16 (fun _ h9 => h9) rfl dX6_does_136 ?_
    refine lv_iconst (v := nI 2) hx hb dX6_does_139 (by decide) ?_
    refine fr_iald hx hb hK hP 2 (2) rfl (by decide) (by decide) dX6_does_140 ?_
    refine fr_val (show (nf nu) 2 = nI (nu 2) from rfl) ?_
    refine fr_Vi (As := [.int (nI (b)), .int (nI ((nu 0))), .int (nI ((nu 1))), .int (nI ((nu 2)))]) (rest := []) (fs' := [[((md 0), .inr (6, [.ref (md 1), .int (nI (n)), .ref (md 2), .int (nI (len)), .int (nI (p)), .int (nI (le)), .ref (md 3), .ref (md 4)]))], [((md 1), .inl (T 0, 1872, .inl (mStoS σ b (nu 0) (nu 1) (nu 2))))], [((md 3), .inl (T 0, 5, .inl (nf nu)))]]) (ci := 6) (q0 := (RX6, TX6, 8)) (i0 := 0) ⟨hx, hb, hml, hown, hts⟩ (kX6_stores l D T Z md n len p le σ b (nu 0) (nu 1) (nu 2) (by omega) (by omega) (by omega) (by omega)) (cwV 4 hts gX6_does_X6_stores rfl rfl rfl (by decide +kernel) ⟨Nat.le_of_ble_eq_true rfl, Nat.le_of_ble_eq_true rfl⟩) hK hN hM hP hD hS hA [0, 1] rfl rfl rfl rfl rfl rfl hl.1 rfl (Nat.le_of_ble_eq_true rfl) dX6_does_141 ⟨Nat.zero_le _, Nat.zero_le _⟩ (fun H locs hP hD hS => ?_)
    exact fr_iret hx hb hr hlk hP hS (by rw [q_1] <;> rfl) (by rw [q_1] <;> rfl) dX6_does_144
  · refine fr_val (show nI le = nI 77 from by rw [q_1]) ?_
    refine lv_tableIn (off := 141) (tgt := 145) hx hb dX6_does_4 (by decide) (by decide) rfl (by decide) ?_
    refine lv_aload_n hx hb dX6_does_145 rfl (lv_at hl 0 rfl) ?_
    refine lv_iload_n hx hb dX6_does_146 rfl (lv_at hl 1 rfl) ?_
    refine lv_aload_n hx hb dX6_does_147 rfl (lv_at hl 0 rfl) ?_
    refine va_get (D := D) (ci := 6) (v := .ref (md 3)) (C := RX6) (T := TX6) (N := 8) hx hb hts hinX6 hown hK (hP.at 0 rfl) 0 rfl rfl 6 (by decide) w_16 (fun _ h9 => h9) rfl dX6_does_148 ?_
    refine lv_iconst (v := nI 0) hx hb dX6_does_151 (by decide) ?_
    refine fr_iald hx hb hK hP 2 (0) rfl (by decide) (by decide) dX6_does_152 ?_
    refine fr_val (show (nf nu) 0 = nI (nu 0) from rfl) ?_
    refine lv_aload_n hx hb dX6_does_153 rfl (lv_at hl 0 rfl) ?_
    refine va_get (D := D) (ci := 6) (v := .ref (md 3)) (C := RX6) (T := TX6) (N := 8) hx hb hts hinX6 hown hK (hP.at 0 rfl) 0 rfl rfl 6 (by decide) w_16 (fun _ h9 => h9) rfl dX6_does_154 ?_
    refine lv_iconst (v := nI 1) hx hb dX6_does_157 (by decide) ?_
    refine fr_iald hx hb hK hP 2 (1) rfl (by decide) (by decide) dX6_does_158 ?_
    refine fr_val (show (nf nu) 1 = nI (nu 1) from rfl) ?_
    refine lv_aload_n hx hb dX6_does_159 rfl (lv_at hl 0 rfl) ?_
    refine va_get (D := D) (ci := 6) (v := .ref (md 3)) (C := RX6) (T := TX6) (N := 8) hx hb hts hinX6 hown hK (hP.at 0 rfl) 0 rfl rfl 6 (by decide) w_16 (fun _ h9 => h9) rfl dX6_does_160 ?_
    refine lv_iconst (v := nI 2) hx hb dX6_does_163 (by decide) ?_
    refine fr_iald hx hb hK hP 2 (2) rfl (by decide) (by decide) dX6_does_164 ?_
    refine fr_val (show (nf nu) 2 = nI (nu 2) from rfl) ?_
    refine fr_Vi (As := [.int (nI (b)), .int (nI ((nu 0))), .int (nI ((nu 1))), .int (nI ((nu 2)))]) (rest := []) (fs' := [[((md 0), .inr (6, [.ref (md 1), .int (nI (n)), .ref (md 2), .int (nI (len)), .int (nI (p)), .int (nI (le)), .ref (md 3), .ref (md 4)]))], [((md 1), .inl (T 0, 1872, .inl (mMovS σ b (nu 0) (nu 1) (nu 2))))], [((md 3), .inl (T 0, 5, .inl (nf nu)))]]) (ci := 6) (q0 := (RX6, TX6, 8)) (i0 := 0) ⟨hx, hb, hml, hown, hts⟩ (kX6_moves l D T Z md n len p le σ b (nu 0) (nu 1) (nu 2) (by omega) (by omega) (by omega) (by omega)) (cwV 4 hts gX6_does_X6_moves rfl rfl rfl (by decide +kernel) ⟨Nat.le_of_ble_eq_true rfl, Nat.le_of_ble_eq_true rfl⟩) hK hN hM hP hD hS hA [0, 1] rfl rfl rfl rfl rfl rfl hl.1 rfl (Nat.le_of_ble_eq_true rfl) dX6_does_165 ⟨Nat.zero_le _, Nat.zero_le _⟩ (fun H locs hP hD hS => ?_)
    exact fr_iret hx hb hr hlk hP hS (by rw [q_1] <;> rfl) (by rw [q_1] <;> rfl) dX6_does_168
  · refine fr_val (show nI le = nI 65 from by rw [q_1]) ?_
    refine lv_tableIn (off := 165) (tgt := 169) hx hb dX6_does_4 (by decide) (by decide) rfl (by decide) ?_
    refine lv_aload_n hx hb dX6_does_169 rfl (lv_at hl 0 rfl) ?_
    refine lv_iload_n hx hb dX6_does_170 rfl (lv_at hl 1 rfl) ?_
    refine lv_aload_n hx hb dX6_does_171 rfl (lv_at hl 0 rfl) ?_
    refine va_get (D := D) (ci := 6) (v := .ref (md 3)) (C := RX6) (T := TX6) (N := 8) hx hb hts hinX6 hown hK (hP.at 0 rfl) 0 rfl rfl 6 (by decide) w_16 (fun _ h9 => h9) rfl dX6_does_172 ?_
    refine lv_iconst (v := nI 0) hx hb dX6_does_175 (by decide) ?_
    refine fr_iald hx hb hK hP 2 (0) rfl (by decide) (by decide) dX6_does_176 ?_
    refine fr_val (show (nf nu) 0 = nI (nu 0) from rfl) ?_
    refine lv_aload_n hx hb dX6_does_177 rfl (lv_at hl 0 rfl) ?_
    refine va_get (D := D) (ci := 6) (v := .ref (md 3)) (C := RX6) (T := TX6) (N := 8) hx hb hts hinX6 hown hK (hP.at 0 rfl) 0 rfl rfl 6 (by decide) w_16 (fun _ h9 => h9) rfl dX6_does_178 ?_
    refine lv_iconst (v := nI 1) hx hb dX6_does_181 (by decide) ?_
    refine fr_iald hx hb hK hP 2 (1) rfl (by decide) (by decide) dX6_does_182 ?_
    refine fr_val (show (nf nu) 1 = nI (nu 1) from rfl) ?_
    refine lv_aload_n hx hb dX6_does_183 rfl (lv_at hl 0 rfl) ?_
    refine va_get (D := D) (ci := 6) (v := .ref (md 3)) (C := RX6) (T := TX6) (N := 8) hx hb hts hinX6 hown hK (hP.at 0 rfl) 0 rfl rfl 6 (by decide) w_16 (fun _ h9 => h9) rfl dX6_does_184 ?_
    refine lv_iconst (v := nI 2) hx hb dX6_does_187 (by decide) ?_
    refine fr_iald hx hb hK hP 2 (2) rfl (by decide) (by decide) dX6_does_188 ?_
    refine fr_val (show (nf nu) 2 = nI (nu 2) from rfl) ?_
    refine lv_aload_n hx hb dX6_does_189 rfl (lv_at hl 0 rfl) ?_
    refine va_get (D := D) (ci := 6) (v := .ref (md 3)) (C := RX6) (T := TX6) (N := 8) hx hb hts hinX6 hown hK (hP.at 0 rfl) 0 rfl rfl 6 (by decide) w_16 (fun _ h9 => h9) rfl dX6_does_190 ?_
    refine lv_iconst (v := nI 3) hx hb dX6_does_193 (by decide) ?_
    refine fr_iald hx hb hK hP 2 (3) rfl (by decide) (by decide) dX6_does_194 ?_
    refine fr_val (show (nf nu) 3 = nI (nu 3) from rfl) ?_
    refine lv_aload_n hx hb dX6_does_195 rfl (lv_at hl 0 rfl) ?_
    refine va_get (D := D) (ci := 6) (v := .ref (md 3)) (C := RX6) (T := TX6) (N := 8) hx hb hts hinX6 hown hK (hP.at 0 rfl) 0 rfl rfl 6 (by decide) w_16 (fun _ h9 => h9) rfl dX6_does_196 ?_
    refine lv_iconst (v := nI 4) hx hb dX6_does_199 (by decide) ?_
    refine fr_iald hx hb hK hP 2 (4) rfl (by decide) (by decide) dX6_does_200 ?_
    refine fr_val (show (nf nu) 4 = nI (nu 4) from rfl) ?_
    refine fr_Vi (As := [.int (nI (b)), .int (nI ((nu 0))), .int (nI ((nu 1))), .int (nI ((nu 2))), .int (nI ((nu 3))), .int (nI ((nu 4)))]) (rest := []) (fs' := [[((md 0), .inr (6, [.ref (md 1), .int (nI (n)), .ref (md 2), .int (nI (len)), .int (nI (p)), .int (nI (le)), .ref (md 3), .ref (md 4)]))], [((md 1), .inl (T 0, 1872, .inl (mCmpS σ b (nu 0) (nu 1) (nu 2) (nu 3) (nu 4))))], [((md 3), .inl (T 0, 5, .inl (nf nu)))]]) (ci := 6) (q0 := (RX6, TX6, 8)) (i0 := 0) ⟨hx, hb, hml, hown, hts⟩ (kX6_computes l D T Z md n len p le σ b (nu 0) (nu 1) (nu 2) (nu 3) (nu 4) (by omega) (by omega) (by omega) (by omega) (by omega) (by omega)) (cwV 6 hts gX6_does_X6_computes rfl rfl rfl (by decide +kernel) ⟨Nat.le_of_ble_eq_true rfl, Nat.le_of_ble_eq_true rfl⟩) hK hN hM hP hD hS hA [0, 1] rfl rfl rfl rfl rfl rfl hl.1 rfl (Nat.le_of_ble_eq_true rfl) dX6_does_201 ⟨Nat.zero_le _, Nat.zero_le _⟩ (fun H locs hP hD hS => ?_)
    exact fr_iret hx hb hr hlk hP hS (by rw [q_1] <;> rfl) (by rw [q_1] <;> rfl) dX6_does_204
  · refine fr_val (show nI le = nI 79 from by rw [q_1]) ?_
    refine lv_tableIn (off := 201) (tgt := 205) hx hb dX6_does_4 (by decide) (by decide) rfl (by decide) ?_
    refine lv_aload_n hx hb dX6_does_205 rfl (lv_at hl 0 rfl) ?_
    refine lv_iload_n hx hb dX6_does_206 rfl (lv_at hl 1 rfl) ?_
    refine lv_aload_n hx hb dX6_does_207 rfl (lv_at hl 0 rfl) ?_
    refine va_get (D := D) (ci := 6) (v := .ref (md 3)) (C := RX6) (T := TX6) (N := 8) hx hb hts hinX6 hown hK (hP.at 0 rfl) 0 rfl rfl 6 (by decide) w_16 (fun _ h9 => h9) rfl dX6_does_208 ?_
    refine lv_iconst (v := nI 0) hx hb dX6_does_211 (by decide) ?_
    refine fr_iald hx hb hK hP 2 (0) rfl (by decide) (by decide) dX6_does_212 ?_
    refine fr_val (show (nf nu) 0 = nI (nu 0) from rfl) ?_
    refine lv_aload_n hx hb dX6_does_213 rfl (lv_at hl 0 rfl) ?_
    refine va_get (D := D) (ci := 6) (v := .ref (md 3)) (C := RX6) (T := TX6) (N := 8) hx hb hts hinX6 hown hK (hP.at 0 rfl) 0 rfl rfl 6 (by decide) w_16 (fun _ h9 => h9) rfl dX6_does_214 ?_
    refine lv_iconst (v := nI 1) hx hb dX6_does_217 (by decide) ?_
    refine fr_iald hx hb hK hP 2 (1) rfl (by decide) (by decide) dX6_does_218 ?_
    refine fr_val (show (nf nu) 1 = nI (nu 1) from rfl) ?_
    refine fr_Vi (As := [.int (nI (b)), .int (nI ((nu 0))), .int (nI ((nu 1)))]) (rest := []) (fs' := [[((md 0), .inr (6, [.ref (md 1), .int (nI (n)), .ref (md 2), .int (nI (len)), .int (nI (p)), .int (nI (le)), .ref (md 3), .ref (md 4)]))], [((md 1), .inl (T 0, 1872, .inl (mOuS σ b (nu 0) (nu 1))))], [((md 3), .inl (T 0, 5, .inl (nf nu)))]]) (ci := 6) (q0 := (RX6, TX6, 8)) (i0 := 0) ⟨hx, hb, hml, hown, hts⟩ (kX6_outputs l D T Z md n len p le σ b (nu 0) (nu 1) (by omega) (by omega) (by omega)) (cwV 3 hts gX6_does_X6_outputs rfl rfl rfl (by decide +kernel) ⟨Nat.le_of_ble_eq_true rfl, Nat.le_of_ble_eq_true rfl⟩) hK hN hM hP hD hS hA [0, 1] rfl rfl rfl rfl rfl rfl hl.1 rfl (Nat.le_of_ble_eq_true rfl) dX6_does_219 ⟨Nat.zero_le _, Nat.zero_le _⟩ (fun H locs hP hD hS => ?_)
    exact fr_iret hx hb hr hlk hP hS (by rw [q_1] <;> rfl) (by rw [q_1] <;> rfl) dX6_does_222
  · refine fr_val (show nI le = nI 73 from by rw [q_1]) ?_
    refine lv_tableIn (off := 219) (tgt := 223) hx hb dX6_does_4 (by decide) (by decide) rfl (by decide) ?_
    refine lv_aload_n hx hb dX6_does_223 rfl (lv_at hl 0 rfl) ?_
    refine lv_iload_n hx hb dX6_does_224 rfl (lv_at hl 1 rfl) ?_
    refine lv_aload_n hx hb dX6_does_225 rfl (lv_at hl 0 rfl) ?_
    refine va_get (D := D) (ci := 6) (v := .ref (md 3)) (C := RX6) (T := TX6) (N := 8) hx hb hts hinX6 hown hK (hP.at 0 rfl) 0 rfl rfl 6 (by decide) w_16 (fun _ h9 => h9) rfl dX6_does_226 ?_
    refine lv_iconst (v := nI 0) hx hb dX6_does_229 (by decide) ?_
    refine fr_iald hx hb hK hP 2 (0) rfl (by decide) (by decide) dX6_does_230 ?_
    refine fr_val (show (nf nu) 0 = nI (nu 0) from rfl) ?_
    refine fr_Vi (As := [.int (nI (b)), .int (nI ((nu 0)))]) (rest := []) (fs' := [[((md 0), .inr (6, [.ref (md 1), .int (nI (n)), .ref (md 2), .int (nI (len)), .int (nI (p)), .int (nI (le)), .ref (md 3), .ref (md 4)]))], [((md 1), .inl (T 0, 1872, .inl (mInjS σ b (nu 0))))], [((md 3), .inl (T 0, 5, .inl (nf nu)))]]) (ci := 6) (q0 := (RX6, TX6, 8)) (i0 := 0) ⟨hx, hb, hml, hown, hts⟩ (kX6_injects l D T Z md n len p le σ b (nu 0) (by omega) (by omega) hi) (cwV 2 hts gX6_does_X6_injects rfl rfl rfl (by decide +kernel) ⟨Nat.le_of_ble_eq_true rfl, Nat.le_of_ble_eq_true rfl⟩) hK hN hM hP hD hS hA [0, 1] rfl rfl rfl rfl rfl rfl hl.1 rfl (Nat.le_of_ble_eq_true rfl) dX6_does_231 ⟨Nat.zero_le _, Nat.zero_le _⟩ (fun H locs hP hD hS => ?_)
    exact fr_iret hx hb hr hlk hP hS (by rw [q_1] <;> rfl) (by rw [q_1] <;> rfl) dX6_does_234
  · refine fr_val (show nI le = nI 86 from by rw [q_1]) ?_
    refine lv_tableOut (tgt := 235) hx hb dX6_does_4 (by decide) (by decide) ?_
    refine lv_aload_n hx hb dX6_does_235 rfl (lv_at hl 0 rfl) ?_
    refine lv_iload_n hx hb dX6_does_236 rfl (lv_at hl 1 rfl) ?_
    refine lv_aload_n hx hb dX6_does_237 rfl (lv_at hl 0 rfl) ?_
    refine va_get (D := D) (ci := 6) (v := .ref (md 3)) (C := RX6) (T := TX6) (N := 8) hx hb hts hinX6 hown hK (hP.at 0 rfl) 0 rfl rfl 6 (by decide) w_16 (fun _ h9 => h9) rfl dX6_does_238 ?_
    refine lv_iconst (v := nI 0) hx hb dX6_does_241 (by decide) ?_
    refine fr_iald hx hb hK hP 2 (0) rfl (by decide) (by decide) dX6_does_242 ?_
    refine fr_val (show (nf nu) 0 = nI (nu 0) from rfl) ?_
    refine lv_aload_n hx hb dX6_does_243 rfl (lv_at hl 0 rfl) ?_
    refine va_get (D := D) (ci := 6) (v := .ref (md 3)) (C := RX6) (T := TX6) (N := 8) hx hb hts hinX6 hown hK (hP.at 0 rfl) 0 rfl rfl 6 (by decide) w_16 (fun _ h9 => h9) rfl dX6_does_244 ?_
    refine lv_iconst (v := nI 1) hx hb dX6_does_247 (by decide) ?_
    refine fr_iald hx hb hK hP 2 (1) rfl (by decide) (by decide) dX6_does_248 ?_
    refine fr_val (show (nf nu) 1 = nI (nu 1) from rfl) ?_
    refine lv_aload_n hx hb dX6_does_249 rfl (lv_at hl 0 rfl) ?_
    refine va_get (D := D) (ci := 6) (v := .ref (md 3)) (C := RX6) (T := TX6) (N := 8) hx hb hts hinX6 hown hK (hP.at 0 rfl) 0 rfl rfl 6 (by decide) w_16 (fun _ h9 => h9) rfl dX6_does_250 ?_
    refine lv_iconst (v := nI 2) hx hb dX6_does_253 (by decide) ?_
    refine fr_iald hx hb hK hP 2 (2) rfl (by decide) (by decide) dX6_does_254 ?_
    refine fr_val (show (nf nu) 2 = nI (nu 2) from rfl) ?_
    refine fr_Vi (As := [.int (nI (b)), .int (nI ((nu 0))), .int (nI ((nu 1))), .int (nI ((nu 2)))]) (rest := []) (fs' := [[((md 0), .inr (6, [.ref (md 1), .int (nI (n)), .ref (md 2), .int (nI (len)), .int (nI (p)), .int (nI (le)), .ref (md 3), .ref (md 4)]))], [((md 1), .inl (T 0, 1872, .inl (mSetS σ b (nu 0) (nu 1) (nI ((nu 2))))))], [((md 3), .inl (T 0, 5, .inl (nf nu)))]]) (ci := 6) (q0 := (RX6, TX6, 8)) (i0 := 0) ⟨hx, hb, hml, hown, hts⟩ (kX6_sets l D T Z md n len p le σ b (nu 0) (nu 1) (nI ((nu 2))) (by omega) (by omega) (by omega)) (cwV 4 hts gX6_does_X6_sets rfl rfl rfl (by decide +kernel) ⟨Nat.le_of_ble_eq_true rfl, Nat.le_of_ble_eq_true rfl⟩) hK hN hM hP hD hS hA [0, 1] rfl rfl rfl rfl rfl rfl hl.1 rfl (Nat.le_of_ble_eq_true rfl) dX6_does_255 ⟨Nat.zero_le _, Nat.zero_le _⟩ (fun H locs hP hD hS => ?_)
    exact fr_iret hx hb hr hlk hP hS (by rw [q_1] <;> rfl) (by rw [q_1] <;> rfl) dX6_does_258
