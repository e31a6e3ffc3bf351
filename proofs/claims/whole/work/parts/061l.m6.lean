
set_option maxHeartbeats 8000000 in
set_option maxRecDepth 100000 in
theorem kX6_farthest (l : Launch) (D : va_G) (T : Nat → ClassId) (Z : ZZ) (md : Nat → Nat) (n : Nat) (len : Nat) (p : Nat) (le : Nat) (σ : MS) (x : Int32) (hi : WH (σ 256) 20) : CtI l D T Z yX6_farthest wsX6_farthest ({ frames := 2, cells := 0, slots := 0, locals := 43 }) [[((md 0), .inr (6, [.ref (md 1), .int (nI (n)), .ref (md 2), .int (nI (len)), .int (nI (p)), .int (nI (le)), .ref (md 3), .ref (md 4)]))], [((md 1), .inl (T 0, 1872, .inl (σ)))]] [.ref (md 0), .int (x)] (if iN x (tn (σ 256)) then faM σ x 80 else -1) [[((md 0), .inr (6, [.ref (md 1), .int (nI (n)), .ref (md 2), .int (nI (len)), .int (nI (p)), .int (nI (le)), .ref (md 3), .ref (md 4)]))], [((md 1), .inl (T 0, 1872, .inl (σ)))]] := by
  have hi2 := hi.2
  refine CtI.of (cc := cX6_farthest) (maxL := 4) (ret := (some .int)) (plainFor_of_name (by decide)) rfl rfl ?_
  intro pP eE s mM bW mE cC A hE hK hN hM hP hD hA
  obtain ⟨hx, hb, hr, hts, hown, hml, hlk⟩ := hE
  have hown : s.vm.findClass RX6 = some mM.cls := hown
  have hS : va_S A s.heap s.heap [] := va_S.rf
  have hl := lv_entry ([.ref (md 0), .int (x)]) (n := 4) (Nat.le_of_ble_eq_true rfl)
  rw [lg_entry_eq]
  generalize (lg_sl ([.ref (md 0), .int (x)]) ++ List.replicate (4 - (lg_sl ([.ref (md 0), .int (x)])).length) Slot.unset).toArray = ls at hl ⊢
  have hl : lv_has ls 4 [(0, .ref (md 0)), (1, .int (x))] := hl
  have w_7 := hts (.fieldLink RX6 7 "PoisonedMemoryModel" "s" "[I") (by decide +kernel)
  have hinX6 : ∀ w ∈ wsX60, w ∈ wsX6_farthest := by decide +kernel
  refine lv_aload_n hx hb dX6_farthest_0 rfl (lv_at hl 0 rfl) ?_
  refine lv_iload_n hx hb dX6_farthest_1 rfl (lv_at hl 1 rfl) ?_
  refine fr_Vi (As := [.int (x)]) (rest := []) (fs' := [[((md 0), .inr (6, [.ref (md 1), .int (nI (n)), .ref (md 2), .int (nI (len)), .int (nI (p)), .int (nI (le)), .ref (md 3), .ref (md 4)]))], [((md 1), .inl (T 0, 1872, .inl (σ)))]]) (ci := 6) (q0 := (RX6, TX6, 8)) (i0 := 0) ⟨hx, hb, hml, hown, hts⟩ (kX6_isOrigin l D T Z md n len p le σ x hi) (cwV 1 hts gX6_farthest_X6_isOrigin rfl rfl rfl (by decide +kernel) ⟨Nat.le_of_ble_eq_true rfl, Nat.le_of_ble_eq_true rfl⟩) hK hN hM hP hD hS hA [0, 1] rfl rfl rfl rfl rfl rfl hl.1 rfl (Nat.le_of_ble_eq_true rfl) dX6_farthest_2 ⟨Nat.zero_le _, Nat.zero_le _⟩ (fun H locs hP hD hS => ?_)
  refine fr_ifne_b (tgt := 10) hx hb dX6_farthest_5 (by decide) (fun c_1 => ?_) (fun c_1 => ?_)
  · have e_2 := iN_eq c_1
    have e_2b := iN_lt c_1 (by omega)
    refine lv_bipush (v := (-6)) hx hb dX6_farthest_10 (by decide) ?_
    refine lv_istore_n (lv' := [(2, .int ((-6))), (0, .ref (md 0)), (1, .int (x))]) hx hb dX6_farthest_12 rfl hl (by decide) rfl (fun ls hl => ?_)
    refine lv_iconst (v := nI 0) hx hb dX6_farthest_13 (by decide) ?_
    refine lv_istore_n (lv' := [(3, .int (nI 0)), (2, .int ((-6))), (0, .ref (md 0)), (1, .int (x))]) hx hb dX6_farthest_14 rfl hl (by decide) rfl (fun ls hl => ?_)
    have loop15 : ∀ (n9 k9 : Nat), k9 ≤ 80 → 80 < k9 + n9 → ∀ (H : Heap) (locs : List Loc), frP D [[((md 0), .inr (6, [.ref (md 1), .int (nI (n)), .ref (md 2), .int (nI (len)), .int (nI (p)), .int (nI (le)), .ref (md 3), .ref (md 4)]))], [((md 1), .inl (T 0, 1872, .inl (σ)))]] H → va_D A ([[((md 0), .inr (6, [.ref (md 1), .int (nI (n)), .ref (md 2), .int (nI (len)), .int (nI (p)), .int (nI (le)), .ref (md 3), .ref (md 4)]))], [((md 1), .inl (T 0, 1872, .inl (σ)))]] : List va_W).flatten → va_S A s.heap H locs → ∀ (ls : Array Slot), lv_has ls 4 [(3, .int (nI ((3 * k9)))), (2, .int (faM σ x k9)), (0, .ref (md 0)), (1, .int (x))] → W pP l eE ({ frames := 2, cells := 0, slots := 0, locals := 43 }) s mM ([.ref (md 0), .int (x)] : List Value).toArray bW mE cC H locs 0 0 (MQ bW (QcI D [[((md 0), .inr (6, [.ref (md 1), .int (nI (n)), .ref (md 2), .int (nI (len)), .int (nI (p)), .int (nI (le)), .ref (md 3), .ref (md 4)]))], [((md 1), .inl (T 0, 1872, .inl (σ)))]] (if iN x (tn (σ 256)) then faM σ x 80 else -1) A) ([.ref (md 0), .int (x)] : List Value).toArray s 0 0 A) (F0 mM 15 ls []) := by
      intro n9
      induction n9 with
      | zero => intro k9 h1 h2; exact absurd h2 (by omega)
      | succ n9 ih =>
        intro k9 hk1 hk2 H locs hP hD hS ls hl
        refine lv_iload_n hx hb dX6_farthest_15 rfl (lv_at hl 0 rfl) ?_
        refine lv_sipush (v := nI 240) hx hb dX6_farthest_16 (by decide) ?_
        refine fr_icmp_ge ((3 * k9)) (240) (by omega) (by decide) (tgt := 62) hx hb dX6_farthest_19 (by decide) (fun c_3 => ?_) (fun c_3 => ?_)
        · have c_3' := Nat.not_lt.mpr c_3
          obtain rfl : k9 = 80 := by omega
          refine lv_iload_n hx hb dX6_farthest_62 rfl (lv_at hl 1 rfl) ?_
          exact fr_iret hx hb hr hlk hP hS (by first | with_reducible rfl | (simp only [faM, c_1, c_3, c_3', ↓reduceIte, Bool.false_eq_true, bI_true, bI_false, Bool.true_and, Bool.and_true, Bool.and_false, Bool.false_and, Bool.not_true, Bool.not_false, Bool.or_true, Bool.true_or, Bool.or_false, Bool.false_or] <;> with_reducible rfl) | (simp only [faM, c_1, c_3, c_3', ↓reduceIte, Bool.false_eq_true, bI_true, bI_false, Bool.true_and, Bool.and_true, Bool.and_false, Bool.false_and, Bool.not_true, Bool.not_false, Bool.or_true, Bool.true_or, Bool.or_false, Bool.false_or] <;> rfl) | (simp [faM, c_1, c_3, c_3', bI]; done)) rfl dX6_farthest_63
        · have c_3' := Nat.not_le.mpr c_3
          refine lv_aload_n hx hb dX6_farthest_22 rfl (lv_at hl 2 rfl) ?_
          refine lv_iload_n hx hb dX6_farthest_23 rfl (lv_at hl 0 rfl) ?_
          refine lv_iload_n hx hb dX6_farthest_24 rfl (lv_at hl 3 rfl) ?_
          refine fr_Vi (As := [.int (nI ((3 * k9))), .int (x)]) (rest := []) (fs' := [[((md 0), .inr (6, [.ref (md 1), .int (nI (n)), .ref (md 2), .int (nI (len)), .int (nI (p)), .int (nI (le)), .ref (md 3), .ref (md 4)]))], [((md 1), .inl (T 0, 1872, .inl (σ)))]]) (ci := 6) (q0 := (RX6, TX6, 8)) (i0 := 0) ⟨hx, hb, hml, hown, hts⟩ (kX6_carries l D T Z md n len p le σ (3 * k9) x (by omega)) (cwV 2 hts gX6_farthest_X6_carries rfl rfl rfl (by decide +kernel) ⟨Nat.le_of_ble_eq_true rfl, Nat.le_of_ble_eq_true rfl⟩) hK hN hM hP hD hS hA [0, 1] rfl rfl rfl rfl rfl rfl hl.1 rfl (Nat.le_of_ble_eq_true rfl) dX6_farthest_25 ⟨Nat.zero_le _, Nat.zero_le _⟩ (fun H locs hP hD hS => ?_)
          refine fr_ifeq_b (tgt := 54) hx hb dX6_farthest_28 (by decide) (fun c_4 => ?_) (fun c_4 => ?_)
          · refine lv_iload_n hx hb dX6_farthest_54 rfl (lv_at hl 1 rfl) ?_
            refine lv_istore_n (lv' := [(2, .int (faM σ x k9)), (3, .int (nI ((3 * k9)))), (0, .ref (md 0)), (1, .int (x))]) hx hb dX6_farthest_55 rfl hl (by decide) rfl (fun ls hl => ?_)
            refine fr_iinc ((3 * k9)) (((3 * k9) + 3)) (by rw [show Int32.ofInt 3 = nI 3 from rfl, nI_add]) (lv' := [(3, .int (nI (((3 * k9) + 3)))), (2, .int (faM σ x k9)), (0, .ref (md 0)), (1, .int (x))]) (k := 1) hx hb dX6_farthest_56 hl rfl (by decide) rfl (fun ls hl => ?_)
            refine lv_goto (tgt := 15) hx hb dX6_farthest_59 (by decide) ?_
            have q_5 : (nI (((3 * k9) + 3)) : Int32) = nI ((3 * (k9 + 1))) := (by first | contradiction | with_reducible rfl | (simp only [faM, c_1, c_3, c_3', c_4, ↓reduceIte, Bool.false_eq_true, bI_true, bI_false, Bool.true_and, Bool.and_true, Bool.and_false, Bool.false_and, Bool.not_true, Bool.not_false, Bool.or_true, Bool.true_or, Bool.or_false, Bool.false_or] <;> with_reducible rfl) | (simp only [faM, c_1, c_3, c_3', c_4, ↓reduceIte, Bool.false_eq_true, bI_true, bI_false, Bool.true_and, Bool.and_true, Bool.and_false, Bool.false_and, Bool.not_true, Bool.not_false, Bool.or_true, Bool.true_or, Bool.or_false, Bool.false_or] <;> rfl) | rfl | (simp [faM, c_1, c_3, c_3', c_4]; done))
            rw [q_5] at hl
            have q_6 : (faM σ x k9 : Int32) = faM σ x (k9 + 1) := (by first | contradiction | with_reducible rfl | (simp only [faM, c_1, c_3, c_3', c_4, ↓reduceIte, Bool.false_eq_true, bI_true, bI_false, Bool.true_and, Bool.and_true, Bool.and_false, Bool.false_and, Bool.not_true, Bool.not_false, Bool.or_true, Bool.true_or, Bool.or_false, Bool.false_or] <;> with_reducible rfl) | (simp only [faM, c_1, c_3, c_3', c_4, ↓reduceIte, Bool.false_eq_true, bI_true, bI_false, Bool.true_and, Bool.and_true, Bool.and_false, Bool.false_and, Bool.not_true, Bool.not_false, Bool.or_true, Bool.true_or, Bool.or_false, Bool.false_or] <;> rfl) | rfl | (simp [faM, c_1, c_3, c_3', c_4]; done))
            rw [q_6] at hl
            exact ih  ((k9 + 1)) (by omega) (by omega) H locs hP hD hS ls (lv_sub hl [0, 1, 2, 3] rfl)
          · refine lv_aload_n hx hb dX6_farthest_31 rfl (lv_at hl 2 rfl) ?_
            refine va_get (D := D) (ci := 6) (v := .ref (md 1)) (C := RX6) (T := TX6) (N := 8) hx hb hts hinX6 hown hK (hP.at 0 rfl) 0 rfl rfl 0 (by decide) w_7 (fun _ h9 => h9) rfl dX6_farthest_32 ?_
            refine lv_iload_n hx hb dX6_farthest_35 rfl (lv_at hl 0 rfl) ?_
            refine lv_iconst (v := nI 2) hx hb dX6_farthest_36 (by decide) ?_
            refine fr_iadd ((3 * k9)) (2) hx hb dX6_farthest_37 ?_
            refine fr_iald hx hb hK hP 1 (((3 * k9) + 2)) rfl (by omega) (by omega) dX6_farthest_38 ?_
            refine lv_iload_n hx hb dX6_farthest_39 rfl (lv_at hl 1 rfl) ?_
            refine lv_icmp_le (tgt := 54) hx hb dX6_farthest_40 (by decide) (fun c_7 => ?_) (fun c_7 => ?_)
            · have c_7' := Int32.not_lt.mpr c_7
              refine lv_iload_n hx hb dX6_farthest_54 rfl (lv_at hl 1 rfl) ?_
              refine lv_istore_n (lv' := [(2, .int (faM σ x k9)), (3, .int (nI ((3 * k9)))), (0, .ref (md 0)), (1, .int (x))]) hx hb dX6_farthest_55 rfl hl (by decide) rfl (fun ls hl => ?_)
              refine fr_iinc ((3 * k9)) (((3 * k9) + 3)) (by rw [show Int32.ofInt 3 = nI 3 from rfl, nI_add]) (lv' := [(3, .int (nI (((3 * k9) + 3)))), (2, .int (faM σ x k9)), (0, .ref (md 0)), (1, .int (x))]) (k := 1) hx hb dX6_farthest_56 hl rfl (by decide) rfl (fun ls hl => ?_)
              refine lv_goto (tgt := 15) hx hb dX6_farthest_59 (by decide) ?_
              have q_8 : (nI (((3 * k9) + 3)) : Int32) = nI ((3 * (k9 + 1))) := (by first | contradiction | with_reducible rfl | (simp only [faM, c_1, c_3, c_3', c_4, c_7, c_7', ↓reduceIte, Bool.false_eq_true, bI_true, bI_false, Bool.true_and, Bool.and_true, Bool.and_false, Bool.false_and, Bool.not_true, Bool.not_false, Bool.or_true, Bool.true_or, Bool.or_false, Bool.false_or] <;> with_reducible rfl) | (simp only [faM, c_1, c_3, c_3', c_4, c_7, c_7', ↓reduceIte, Bool.false_eq_true, bI_true, bI_false, Bool.true_and, Bool.and_true, Bool.and_false, Bool.false_and, Bool.not_true, Bool.not_false, Bool.or_true, Bool.true_or, Bool.or_false, Bool.false_or] <;> rfl) | rfl | (simp [faM, c_1, c_3, c_3', c_4, c_7, c_7']; done))
              rw [q_8] at hl
              have q_9 : (faM σ x k9 : Int32) = faM σ x (k9 + 1) := (by first | contradiction | with_reducible rfl | (simp only [faM, c_1, c_3, c_3', c_4, c_7, c_7', ↓reduceIte, Bool.false_eq_true, bI_true, bI_false, Bool.true_and, Bool.and_true, Bool.and_false, Bool.false_and, Bool.not_true, Bool.not_false, Bool.or_true, Bool.true_or, Bool.or_false, Bool.false_or] <;> with_reducible rfl) | (simp only [faM, c_1, c_3, c_3', c_4, c_7, c_7', ↓reduceIte, Bool.false_eq_true, bI_true, bI_false, Bool.true_and, Bool.and_true, Bool.and_false, Bool.false_and, Bool.not_true, Bool.not_false, Bool.or_true, Bool.true_or, Bool.or_false, Bool.false_or] <;> rfl) | rfl | (simp [faM, c_1, c_3, c_3', c_4, c_7, c_7']; done))
              rw [q_9] at hl
              exact ih  ((k9 + 1)) (by omega) (by omega) H locs hP hD hS ls (lv_sub hl [0, 1, 2, 3] rfl)
            · have c_7' := Int32.not_le.mp c_7
              refine lv_aload_n hx hb dX6_farthest_43 rfl (lv_at hl 2 rfl) ?_
              refine va_get (D := D) (ci := 6) (v := .ref (md 1)) (C := RX6) (T := TX6) (N := 8) hx hb hts hinX6 hown hK (hP.at 0 rfl) 0 rfl rfl 0 (by decide) w_7 (fun _ h9 => h9) rfl dX6_farthest_44 ?_
              refine lv_iload_n hx hb dX6_farthest_47 rfl (lv_at hl 0 rfl) ?_
              refine lv_iconst (v := nI 2) hx hb dX6_farthest_48 (by decide) ?_
              refine fr_iadd ((3 * k9)) (2) hx hb dX6_farthest_49 ?_
              refine fr_iald hx hb hK hP 1 (((3 * k9) + 2)) rfl (by omega) (by omega) dX6_farthest_50 ?_
              refine lv_goto (tgt := 55) hx hb dX6_farthest_51 (by decide) ?_
              refine lv_istore_n (lv' := [(2, .int (σ ((3 * k9) + 2))), (3, .int (nI ((3 * k9)))), (0, .ref (md 0)), (1, .int (x))]) hx hb dX6_farthest_55 rfl hl (by decide) rfl (fun ls hl => ?_)
              refine fr_iinc ((3 * k9)) (((3 * k9) + 3)) (by rw [show Int32.ofInt 3 = nI 3 from rfl, nI_add]) (lv' := [(3, .int (nI (((3 * k9) + 3)))), (2, .int (σ ((3 * k9) + 2))), (0, .ref (md 0)), (1, .int (x))]) (k := 1) hx hb dX6_farthest_56 hl rfl (by decide) rfl (fun ls hl => ?_)
              refine lv_goto (tgt := 15) hx hb dX6_farthest_59 (by decide) ?_
              have q_10 : (nI (((3 * k9) + 3)) : Int32) = nI ((3 * (k9 + 1))) := (by first | contradiction | with_reducible rfl | (simp only [faM, c_1, c_3, c_3', c_4, c_7, c_7', ↓reduceIte, Bool.false_eq_true, bI_true, bI_false, Bool.true_and, Bool.and_true, Bool.and_false, Bool.false_and, Bool.not_true, Bool.not_false, Bool.or_true, Bool.true_or, Bool.or_false, Bool.false_or] <;> with_reducible rfl) | (simp only [faM, c_1, c_3, c_3', c_4, c_7, c_7', ↓reduceIte, Bool.false_eq_true, bI_true, bI_false, Bool.true_and, Bool.and_true, Bool.and_false, Bool.false_and, Bool.not_true, Bool.not_false, Bool.or_true, Bool.true_or, Bool.or_false, Bool.false_or] <;> rfl) | rfl | (simp [faM, c_1, c_3, c_3', c_4, c_7, c_7']; done))
              rw [q_10] at hl
              have q_11 : (σ ((3 * k9) + 2) : Int32) = faM σ x (k9 + 1) := (by first | contradiction | with_reducible rfl | (simp only [faM, c_1, c_3, c_3', c_4, c_7, c_7', ↓reduceIte, Bool.false_eq_true, bI_true, bI_false, Bool.true_and, Bool.and_true, Bool.and_false, Bool.false_and, Bool.not_true, Bool.not_false, Bool.or_true, Bool.true_or, Bool.or_false, Bool.false_or] <;> with_reducible rfl) | (simp only [faM, c_1, c_3, c_3', c_4, c_7, c_7', ↓reduceIte, Bool.false_eq_true, bI_true, bI_false, Bool.true_and, Bool.and_true, Bool.and_false, Bool.false_and, Bool.not_true, Bool.not_false, Bool.or_true, Bool.true_or, Bool.or_false, Bool.false_or] <;> rfl) | rfl | (simp [faM, c_1, c_3, c_3', c_4, c_7, c_7']; done))
              rw [q_11] at hl
              exact ih  ((k9 + 1)) (by omega) (by omega) H locs hP hD hS ls (lv_sub hl [0, 1, 2, 3] rfl)
    have q_12 : (nI 0 : Int32) = nI ((3 * 0)) := (by first | contradiction | with_reducible rfl | (simp only [faM, c_1, ↓reduceIte, Bool.false_eq_true, bI_true, bI_false, Bool.true_and, Bool.and_true, Bool.and_false, Bool.false_and, Bool.not_true, Bool.not_false, Bool.or_true, Bool.true_or, Bool.or_false, Bool.false_or] <;> with_reducible rfl) | (simp only [faM, c_1, ↓reduceIte, Bool.false_eq_true, bI_true, bI_false, Bool.true_and, Bool.and_true, Bool.and_false, Bool.false_and, Bool.not_true, Bool.not_false, Bool.or_true, Bool.true_or, Bool.or_false, Bool.false_or] <;> rfl) | rfl | (simp [faM, c_1]; done))
    rw [q_12] at hl
    have q_13 : ((-6) : Int32) = faM σ x 0 := (by first | contradiction | with_reducible rfl | (simp only [faM, c_1, ↓reduceIte, Bool.false_eq_true, bI_true, bI_false, Bool.true_and, Bool.and_true, Bool.and_false, Bool.false_and, Bool.not_true, Bool.not_false, Bool.or_true, Bool.true_or, Bool.or_false, Bool.false_or] <;> with_reducible rfl) | (simp only [faM, c_1, ↓reduceIte, Bool.false_eq_true, bI_true, bI_false, Bool.true_and, Bool.and_true, Bool.and_false, Bool.false_and, Bool.not_true, Bool.not_false, Bool.or_true, Bool.true_or, Bool.or_false, Bool.false_or] <;> rfl) | rfl | (simp [faM, c_1]; done))
    rw [q_13] at hl
    exact loop15 (80 + 1) (0) (by omega) (by omega) _ _ hP hD hS ls (lv_sub hl [0, 1, 2, 3] rfl)
  · refine lv_iconst (v := (-1)) hx hb dX6_farthest_8 (by decide) ?_
    exact fr_iret hx hb hr hlk hP hS (by first | with_reducible rfl | (simp only [faM, c_1, ↓reduceIte, Bool.false_eq_true, bI_true, bI_false, Bool.true_and, Bool.and_true, Bool.and_false, Bool.false_and, Bool.not_true, Bool.not_false, Bool.or_true, Bool.true_or, Bool.or_false, Bool.false_or] <;> with_reducible rfl) | (simp only [faM, c_1, ↓reduceIte, Bool.false_eq_true, bI_true, bI_false, Bool.true_and, Bool.and_true, Bool.and_false, Bool.false_and, Bool.not_true, Bool.not_false, Bool.or_true, Bool.true_or, Bool.or_false, Bool.false_or] <;> rfl) | (simp [faM, c_1, bI]; done)) rfl dX6_farthest_9

set_option maxHeartbeats 8000000 in
set_option maxRecDepth 100000 in
theorem kX6_widest (l : Launch) (D : va_G) (T : Nat → ClassId) (Z : ZZ) (md : Nat → Nat) (n : Nat) (len : Nat) (p : Nat) (le : Nat) (σ : MS) (hi : WH (σ 256) 20) : CtI l D T Z yX6_widest wsX6_widest ({ frames := 2, cells := 0, slots := 0, locals := 45 }) [[((md 0), .inr (6, [.ref (md 1), .int (nI (n)), .ref (md 2), .int (nI (len)), .int (nI (p)), .int (nI (le)), .ref (md 3), .ref (md 4)]))], [((md 1), .inl (T 0, 1872, .inl (σ)))]] [.ref (md 0)] ((wiM (fun k => sumI (crG σ (nI k)) 80) (tn (σ 256))).1) [[((md 0), .inr (6, [.ref (md 1), .int (nI (n)), .ref (md 2), .int (nI (len)), .int (nI (p)), .int (nI (le)), .ref (md 3), .ref (md 4)]))], [((md 1), .inl (T 0, 1872, .inl (σ)))]] := by
  have hi2 := hi.2
  refine CtI.of (cc := cX6_widest) (maxL := 5) (ret := (some .int)) (plainFor_of_name (by decide)) rfl rfl ?_
  intro pP eE s mM bW mE cC A hE hK hN hM hP hD hA
  obtain ⟨hx, hb, hr, hts, hown, hml, hlk⟩ := hE
  have hown : s.vm.findClass RX6 = some mM.cls := hown
  have hS : va_S A s.heap s.heap [] := va_S.rf
  have hl := lv_entry ([.ref (md 0)]) (n := 5) (Nat.le_of_ble_eq_true rfl)
  rw [lg_entry_eq]
  generalize (lg_sl ([.ref (md 0)]) ++ List.replicate (5 - (lg_sl ([.ref (md 0)])).length) Slot.unset).toArray = ls at hl ⊢
  have hl : lv_has ls 5 [(0, .ref (md 0))] := hl
  have w_7 := hts (.fieldLink RX6 7 "PoisonedMemoryModel" "s" "[I") (by decide +kernel)
  have hinX6 : ∀ w ∈ wsX60, w ∈ wsX6_widest := by decide +kernel
  refine lv_bipush (v := (-6)) hx hb dX6_widest_0 (by decide) ?_
  refine lv_istore_n (lv' := [(1, .int ((-6))), (0, .ref (md 0))]) hx hb dX6_widest_2 rfl hl (by decide) rfl (fun ls hl => ?_)
  refine lv_iconst (v := nI 0) hx hb dX6_widest_3 (by decide) ?_
  refine lv_istore_n (lv' := [(2, .int (nI 0)), (1, .int ((-6))), (0, .ref (md 0))]) hx hb dX6_widest_4 rfl hl (by decide) rfl (fun ls hl => ?_)
  refine lv_iconst (v := nI 0) hx hb dX6_widest_5 (by decide) ?_
  refine lv_istore_n (lv' := [(3, .int (nI 0)), (2, .int (nI 0)), (1, .int ((-6))), (0, .ref (md 0))]) hx hb dX6_widest_6 rfl hl (by decide) rfl (fun ls hl => ?_)
  have loop7 : ∀ (n9 k9 : Nat), k9 ≤ tn (σ 256) → tn (σ 256) < k9 + n9 → ∀ (H : Heap) (locs : List Loc), frP D [[((md 0), .inr (6, [.ref (md 1), .int (nI (n)), .ref (md 2), .int (nI (len)), .int (nI (p)), .int (nI (le)), .ref (md 3), .ref (md 4)]))], [((md 1), .inl (T 0, 1872, .inl (σ)))]] H → va_D A ([[((md 0), .inr (6, [.ref (md 1), .int (nI (n)), .ref (md 2), .int (nI (len)), .int (nI (p)), .int (nI (le)), .ref (md 3), .ref (md 4)]))], [((md 1), .inl (T 0, 1872, .inl (σ)))]] : List va_W).flatten → va_S A s.heap H locs → ∀ (ls : Array Slot), lv_has ls 5 [(3, .int (nI (k9))), (2, .int ((wiM (fun k => sumI (crG σ (nI k)) 80) k9).2)), (1, .int ((wiM (fun k => sumI (crG σ (nI k)) 80) k9).1)), (0, .ref (md 0))] → W pP l eE ({ frames := 2, cells := 0, slots := 0, locals := 45 }) s mM ([.ref (md 0)] : List Value).toArray bW mE cC H locs 0 0 (MQ bW (QcI D [[((md 0), .inr (6, [.ref (md 1), .int (nI (n)), .ref (md 2), .int (nI (len)), .int (nI (p)), .int (nI (le)), .ref (md 3), .ref (md 4)]))], [((md 1), .inl (T 0, 1872, .inl (σ)))]] ((wiM (fun k => sumI (crG σ (nI k)) 80) (tn (σ 256))).1) A) ([.ref (md 0)] : List Value).toArray s 0 0 A) (F0 mM 7 ls []) := by
    intro n9
    induction n9 with
    | zero => intro k9 h1 h2; exact absurd h2 (by omega)
    | succ n9 ih =>
      intro k9 hk1 hk2 H locs hP hD hS ls hl
      refine lv_iload_n hx hb dX6_widest_7 rfl (lv_at hl 0 rfl) ?_
      refine lv_aload_n hx hb dX6_widest_8 rfl (lv_at hl 3 rfl) ?_
      refine va_get (D := D) (ci := 6) (v := .ref (md 1)) (C := RX6) (T := TX6) (N := 8) hx hb hts hinX6 hown hK (hP.at 0 rfl) 0 rfl rfl 0 (by decide) w_7 (fun _ h9 => h9) rfl dX6_widest_9 ?_
      refine lv_sipush (v := nI 256) hx hb dX6_widest_12 (by decide) ?_
      refine fr_iald hx hb hK hP 1 (256) rfl (by decide) (by decide) dX6_widest_15 ?_
      refine fr_val hi.1 ?_
      refine fr_icmp_ge (k9) (tn (σ 256)) (by omega) (by omega) (tgt := 57) hx hb dX6_widest_16 (by decide) (fun c_1 => ?_) (fun c_1 => ?_)
      · have c_1' := Nat.not_lt.mpr c_1
        obtain rfl : k9 = tn (σ 256) := by omega
        refine lv_iload_n hx hb dX6_widest_57 rfl (lv_at hl 2 rfl) ?_
        exact fr_iret hx hb hr hlk hP hS rfl rfl dX6_widest_58
      · have c_1' := Nat.not_le.mpr c_1
        refine lv_aload_n hx hb dX6_widest_19 rfl (lv_at hl 3 rfl) ?_
        refine lv_iload_n hx hb dX6_widest_20 rfl (lv_at hl 0 rfl) ?_
        refine fr_Vi (As := [.int (nI (k9))]) (rest := []) (fs' := [[((md 0), .inr (6, [.ref (md 1), .int (nI (n)), .ref (md 2), .int (nI (len)), .int (nI (p)), .int (nI (le)), .ref (md 3), .ref (md 4)]))], [((md 1), .inl (T 0, 1872, .inl (σ)))]]) (ci := 6) (q0 := (RX6, TX6, 8)) (i0 := 0) ⟨hx, hb, hml, hown, hts⟩ (kX6_carriersOf l D T Z md n len p le σ (nI (k9))) (cwV 1 hts gX6_widest_X6_carriersOf rfl rfl rfl (by decide +kernel) ⟨Nat.le_of_ble_eq_true rfl, Nat.le_of_ble_eq_true rfl⟩) hK hN hM hP hD hS hA [0, 1] rfl rfl rfl rfl rfl rfl hl.1 rfl (Nat.le_of_ble_eq_true rfl) dX6_widest_21 ⟨Nat.zero_le _, Nat.zero_le _⟩ (fun H locs hP hD hS => ?_)
        refine lv_istore (lv' := [(4, .int (sumI (crG σ (nI (k9))) 80)), (3, .int (nI (k9))), (2, .int ((wiM (fun k => sumI (crG σ (nI k)) 80) k9).2)), (1, .int ((wiM (fun k => sumI (crG σ (nI k)) 80) k9).1)), (0, .ref (md 0))]) hx hb dX6_widest_24 hl (by decide) rfl (fun ls hl => ?_)
        refine lv_iload hx hb dX6_widest_26 (lv_at hl 0 rfl) ?_
        refine lv_iload_n hx hb dX6_widest_28 rfl (lv_at hl 2 rfl) ?_
        refine lv_icmp_le (tgt := 36) hx hb dX6_widest_29 (by decide) (fun c_2 => ?_) (fun c_2 => ?_)
        · have c_2' := Int32.not_lt.mpr c_2
          refine lv_iload_n hx hb dX6_widest_36 rfl (lv_at hl 3 rfl) ?_
          refine lv_istore_n (lv' := [(1, .int ((wiM (fun k => sumI (crG σ (nI k)) 80) k9).1)), (4, .int (sumI (crG σ (nI (k9))) 80)), (3, .int (nI (k9))), (2, .int ((wiM (fun k => sumI (crG σ (nI k)) 80) k9).2)), (0, .ref (md 0))]) hx hb dX6_widest_37 rfl hl (by decide) rfl (fun ls hl => ?_)
          refine lv_iload hx hb dX6_widest_38 (lv_at hl 1 rfl) ?_
          refine lv_iload_n hx hb dX6_widest_40 rfl (lv_at hl 3 rfl) ?_
          refine lv_icmp_le (tgt := 49) hx hb dX6_widest_41 (by decide) (fun c_3 => ?_) (fun c_3 => ?_)
          · have c_3' := Int32.not_lt.mpr c_3
            refine lv_iload_n hx hb dX6_widest_49 rfl (lv_at hl 3 rfl) ?_
            refine lv_istore_n (lv' := [(2, .int ((wiM (fun k => sumI (crG σ (nI k)) 80) k9).2)), (1, .int ((wiM (fun k => sumI (crG σ (nI k)) 80) k9).1)), (4, .int (sumI (crG σ (nI (k9))) 80)), (3, .int (nI (k9))), (0, .ref (md 0))]) hx hb dX6_widest_50 rfl hl (by decide) rfl (fun ls hl => ?_)
            refine fr_iinc (k9) ((k9 + 1)) (nI_inc _) (lv' := [(3, .int (nI ((k9 + 1)))), (2, .int ((wiM (fun k => sumI (crG σ (nI k)) 80) k9).2)), (1, .int ((wiM (fun k => sumI (crG σ (nI k)) 80) k9).1)), (4, .int (sumI (crG σ (nI (k9))) 80)), (0, .ref (md 0))]) (k := 3) hx hb dX6_widest_51 hl rfl (by decide) rfl (fun ls hl => ?_)
            refine lv_goto (tgt := 7) hx hb dX6_widest_54 (by decide) ?_
            have q_4 : ((wiM (fun k => sumI (crG σ (nI k)) 80) k9).2 : Int32) = (wiM (fun k => sumI (crG σ (nI k)) 80) (k9 + 1)).2 := (by first | contradiction | with_reducible rfl | (simp only [wiM, c_1, c_1', c_2, c_2', c_3, c_3', ↓reduceIte, Bool.false_eq_true, bI_true, bI_false, Bool.true_and, Bool.and_true, Bool.and_false, Bool.false_and, Bool.not_true, Bool.not_false, Bool.or_true, Bool.true_or, Bool.or_false, Bool.false_or] <;> with_reducible rfl) | (simp only [wiM, c_1, c_1', c_2, c_2', c_3, c_3', ↓reduceIte, Bool.false_eq_true, bI_true, bI_false, Bool.true_and, Bool.and_true, Bool.and_false, Bool.false_and, Bool.not_true, Bool.not_false, Bool.or_true, Bool.true_or, Bool.or_false, Bool.false_or] <;> rfl) | rfl | (simp [wiM, c_1, c_1', c_2, c_2', c_3, c_3']; done))
            rw [q_4] at hl
            have q_5 : ((wiM (fun k => sumI (crG σ (nI k)) 80) k9).1 : Int32) = (wiM (fun k => sumI (crG σ (nI k)) 80) (k9 + 1)).1 := (by first | contradiction | with_reducible rfl | (simp only [wiM, c_1, c_1', c_2, c_2', c_3, c_3', ↓reduceIte, Bool.false_eq_true, bI_true, bI_false, Bool.true_and, Bool.and_true, Bool.and_false, Bool.false_and, Bool.not_true, Bool.not_false, Bool.or_true, Bool.true_or, Bool.or_false, Bool.false_or] <;> with_reducible rfl) | (simp only [wiM, c_1, c_1', c_2, c_2', c_3, c_3', ↓reduceIte, Bool.false_eq_true, bI_true, bI_false, Bool.true_and, Bool.and_true, Bool.and_false, Bool.false_and, Bool.not_true, Bool.not_false, Bool.or_true, Bool.true_or, Bool.or_false, Bool.false_or] <;> rfl) | rfl | (simp [wiM, c_1, c_1', c_2, c_2', c_3, c_3']; done))
            rw [q_5] at hl
            exact ih  ((k9 + 1)) (by omega) (by omega) H locs hP hD hS ls (lv_sub hl [0, 1, 2, 4] rfl)
          · have c_3' := Int32.not_le.mp c_3
            refine lv_iload hx hb dX6_widest_44 (lv_at hl 1 rfl) ?_
            refine lv_goto (tgt := 50) hx hb dX6_widest_46 (by decide) ?_
            refine lv_istore_n (lv' := [(2, .int (sumI (crG σ (nI (k9))) 80)), (1, .int ((wiM (fun k => sumI (crG σ (nI k)) 80) k9).1)), (4, .int (sumI (crG σ (nI (k9))) 80)), (3, .int (nI (k9))), (0, .ref (md 0))]) hx hb dX6_widest_50 rfl hl (by decide) rfl (fun ls hl => ?_)
            refine fr_iinc (k9) ((k9 + 1)) (nI_inc _) (lv' := [(3, .int (nI ((k9 + 1)))), (2, .int (sumI (crG σ (nI (k9))) 80)), (1, .int ((wiM (fun k => sumI (crG σ (nI k)) 80) k9).1)), (4, .int (sumI (crG σ (nI (k9))) 80)), (0, .ref (md 0))]) (k := 3) hx hb dX6_widest_51 hl rfl (by decide) rfl (fun ls hl => ?_)
            refine lv_goto (tgt := 7) hx hb dX6_widest_54 (by decide) ?_
            have q_6 : (sumI (crG σ (nI (k9))) 80 : Int32) = (wiM (fun k => sumI (crG σ (nI k)) 80) (k9 + 1)).2 := (by first | contradiction | with_reducible rfl | (simp only [wiM, c_1, c_1', c_2, c_2', c_3, c_3', ↓reduceIte, Bool.false_eq_true, bI_true, bI_false, Bool.true_and, Bool.and_true, Bool.and_false, Bool.false_and, Bool.not_true, Bool.not_false, Bool.or_true, Bool.true_or, Bool.or_false, Bool.false_or] <;> with_reducible rfl) | (simp only [wiM, c_1, c_1', c_2, c_2', c_3, c_3', ↓reduceIte, Bool.false_eq_true, bI_true, bI_false, Bool.true_and, Bool.and_true, Bool.and_false, Bool.false_and, Bool.not_true, Bool.not_false, Bool.or_true, Bool.true_or, Bool.or_false, Bool.false_or] <;> rfl) | rfl | (simp [wiM, c_1, c_1', c_2, c_2', c_3, c_3']; done))
            rw [q_6] at hl
            have q_7 : ((wiM (fun k => sumI (crG σ (nI k)) 80) k9).1 : Int32) = (wiM (fun k => sumI (crG σ (nI k)) 80) (k9 + 1)).1 := (by first | contradiction | with_reducible rfl | (simp only [wiM, c_1, c_1', c_2, c_2', c_3, c_3', ↓reduceIte, Bool.false_eq_true, bI_true, bI_false, Bool.true_and, Bool.and_true, Bool.and_false, Bool.false_and, Bool.not_true, Bool.not_false, Bool.or_true, Bool.true_or, Bool.or_false, Bool.false_or] <;> with_reducible rfl) | (simp only [wiM, c_1, c_1', c_2, c_2', c_3, c_3', ↓reduceIte, Bool.false_eq_true, bI_true, bI_false, Bool.true_and, Bool.and_true, Bool.and_false, Bool.false_and, Bool.not_true, Bool.not_false, Bool.or_true, Bool.true_or, Bool.or_false, Bool.false_or] <;> rfl) | rfl | (simp [wiM, c_1, c_1', c_2, c_2', c_3, c_3']; done))
            rw [q_7] at hl
            exact ih  ((k9 + 1)) (by omega) (by omega) H locs hP hD hS ls (lv_sub hl [0, 1, 2, 4] rfl)
        · have c_2' := Int32.not_le.mp c_2
          refine lv_iload_n hx hb dX6_widest_32 rfl (lv_at hl 1 rfl) ?_
          refine lv_goto (tgt := 37) hx hb dX6_widest_33 (by decide) ?_
          refine lv_istore_n (lv' := [(1, .int (nI (k9))), (4, .int (sumI (crG σ (nI (k9))) 80)), (3, .int (nI (k9))), (2, .int ((wiM (fun k => sumI (crG σ (nI k)) 80) k9).2)), (0, .ref (md 0))]) hx hb dX6_widest_37 rfl hl (by decide) rfl (fun ls hl => ?_)
          refine lv_iload hx hb dX6_widest_38 (lv_at hl 1 rfl) ?_
          refine lv_iload_n hx hb dX6_widest_40 rfl (lv_at hl 3 rfl) ?_
          refine lv_icmp_le (tgt := 49) hx hb dX6_widest_41 (by decide) (fun c_8 => ?_) (fun c_8 => ?_)
          · have c_8' := Int32.not_lt.mpr c_8
            refine lv_iload_n hx hb dX6_widest_49 rfl (lv_at hl 3 rfl) ?_
            refine lv_istore_n (lv' := [(2, .int ((wiM (fun k => sumI (crG σ (nI k)) 80) k9).2)), (1, .int (nI (k9))), (4, .int (sumI (crG σ (nI (k9))) 80)), (3, .int (nI (k9))), (0, .ref (md 0))]) hx hb dX6_widest_50 rfl hl (by decide) rfl (fun ls hl => ?_)
            refine fr_iinc (k9) ((k9 + 1)) (nI_inc _) (lv' := [(3, .int (nI ((k9 + 1)))), (2, .int ((wiM (fun k => sumI (crG σ (nI k)) 80) k9).2)), (1, .int (nI (k9))), (4, .int (sumI (crG σ (nI (k9))) 80)), (0, .ref (md 0))]) (k := 3) hx hb dX6_widest_51 hl rfl (by decide) rfl (fun ls hl => ?_)
            refine lv_goto (tgt := 7) hx hb dX6_widest_54 (by decide) ?_
            have q_9 : ((wiM (fun k => sumI (crG σ (nI k)) 80) k9).2 : Int32) = (wiM (fun k => sumI (crG σ (nI k)) 80) (k9 + 1)).2 := (by first | contradiction | with_reducible rfl | (simp only [wiM, c_1, c_1', c_2, c_2', c_8, c_8', ↓reduceIte, Bool.false_eq_true, bI_true, bI_false, Bool.true_and, Bool.and_true, Bool.and_false, Bool.false_and, Bool.not_true, Bool.not_false, Bool.or_true, Bool.true_or, Bool.or_false, Bool.false_or] <;> with_reducible rfl) | (simp only [wiM, c_1, c_1', c_2, c_2', c_8, c_8', ↓reduceIte, Bool.false_eq_true, bI_true, bI_false, Bool.true_and, Bool.and_true, Bool.and_false, Bool.false_and, Bool.not_true, Bool.not_false, Bool.or_true, Bool.true_or, Bool.or_false, Bool.false_or] <;> rfl) | rfl | (simp [wiM, c_1, c_1', c_2, c_2', c_8, c_8']; done))
            rw [q_9] at hl
            have q_10 : (nI (k9) : Int32) = (wiM (fun k => sumI (crG σ (nI k)) 80) (k9 + 1)).1 := (by first | contradiction | with_reducible rfl | (simp only [wiM, c_1, c_1', c_2, c_2', c_8, c_8', ↓reduceIte, Bool.false_eq_true, bI_true, bI_false, Bool.true_and, Bool.and_true, Bool.and_false, Bool.false_and, Bool.not_true, Bool.not_false, Bool.or_true, Bool.true_or, Bool.or_false, Bool.false_or] <;> with_reducible rfl) | (simp only [wiM, c_1, c_1', c_2, c_2', c_8, c_8', ↓reduceIte, Bool.false_eq_true, bI_true, bI_false, Bool.true_and, Bool.and_true, Bool.and_false, Bool.false_and, Bool.not_true, Bool.not_false, Bool.or_true, Bool.true_or, Bool.or_false, Bool.false_or] <;> rfl) | rfl | (simp [wiM, c_1, c_1', c_2, c_2', c_8, c_8']; done))
            rw [q_10] at hl
            exact ih  ((k9 + 1)) (by omega) (by omega) H locs hP hD hS ls (lv_sub hl [0, 1, 2, 4] rfl)
          · have c_8' := Int32.not_le.mp c_8
            refine lv_iload hx hb dX6_widest_44 (lv_at hl 1 rfl) ?_
            refine lv_goto (tgt := 50) hx hb dX6_widest_46 (by decide) ?_
            refine lv_istore_n (lv' := [(2, .int (sumI (crG σ (nI (k9))) 80)), (1, .int (nI (k9))), (4, .int (sumI (crG σ (nI (k9))) 80)), (3, .int (nI (k9))), (0, .ref (md 0))]) hx hb dX6_widest_50 rfl hl (by decide) rfl (fun ls hl => ?_)
            refine fr_iinc (k9) ((k9 + 1)) (nI_inc _) (lv' := [(3, .int (nI ((k9 + 1)))), (2, .int (sumI (crG σ (nI (k9))) 80)), (1, .int (nI (k9))), (4, .int (sumI (crG σ (nI (k9))) 80)), (0, .ref (md 0))]) (k := 3) hx hb dX6_widest_51 hl rfl (by decide) rfl (fun ls hl => ?_)
            refine lv_goto (tgt := 7) hx hb dX6_widest_54 (by decide) ?_
            have q_11 : (sumI (crG σ (nI (k9))) 80 : Int32) = (wiM (fun k => sumI (crG σ (nI k)) 80) (k9 + 1)).2 := (by first | contradiction | with_reducible rfl | (simp only [wiM, c_1, c_1', c_2, c_2', c_8, c_8', ↓reduceIte, Bool.false_eq_true, bI_true, bI_false, Bool.true_and, Bool.and_true, Bool.and_false, Bool.false_and, Bool.not_true, Bool.not_false, Bool.or_true, Bool.true_or, Bool.or_false, Bool.false_or] <;> with_reducible rfl) | (simp only [wiM, c_1, c_1', c_2, c_2', c_8, c_8', ↓reduceIte, Bool.false_eq_true, bI_true, bI_false, Bool.true_and, Bool.and_true, Bool.and_false, Bool.false_and, Bool.not_true, Bool.not_false, Bool.or_true, Bool.true_or, Bool.or_false, Bool.false_or] <;> rfl) | rfl | (simp [wiM, c_1, c_1', c_2, c_2', c_8, c_8']; done))
            rw [q_11] at hl
            have q_12 : (nI (k9) : Int32) = (wiM (fun k => sumI (crG σ (nI k)) 80) (k9 + 1)).1 := (by first | contradiction | with_reducible rfl | (simp only [wiM, c_1, c_1', c_2, c_2', c_8, c_8', ↓reduceIte, Bool.false_eq_true, bI_true, bI_false, Bool.true_and, Bool.and_true, Bool.and_false, Bool.false_and, Bool.not_true, Bool.not_false, Bool.or_true, Bool.true_or, Bool.or_false, Bool.false_or] <;> with_reducible rfl) | (simp only [wiM, c_1, c_1', c_2, c_2', c_8, c_8', ↓reduceIte, Bool.false_eq_true, bI_true, bI_false, Bool.true_and, Bool.and_true, Bool.and_false, Bool.false_and, Bool.not_true, Bool.not_false, Bool.or_true, Bool.true_or, Bool.or_false, Bool.false_or] <;> rfl) | rfl | (simp [wiM, c_1, c_1', c_2, c_2', c_8, c_8']; done))
            rw [q_12] at hl
            exact ih  ((k9 + 1)) (by omega) (by omega) H locs hP hD hS ls (lv_sub hl [0, 1, 2, 4] rfl)
  have q_13 : (nI 0 : Int32) = (wiM (fun k => sumI (crG σ (nI k)) 80) 0).2 := (by first | contradiction | with_reducible rfl | (simp only [wiM, ↓reduceIte, Bool.false_eq_true, bI_true, bI_false, Bool.true_and, Bool.and_true, Bool.and_false, Bool.false_and, Bool.not_true, Bool.not_false, Bool.or_true, Bool.true_or, Bool.or_false, Bool.false_or] <;> with_reducible rfl) | (simp only [wiM, ↓reduceIte, Bool.false_eq_true, bI_true, bI_false, Bool.true_and, Bool.and_true, Bool.and_false, Bool.false_and, Bool.not_true, Bool.not_false, Bool.or_true, Bool.true_or, Bool.or_false, Bool.false_or] <;> rfl) | rfl | (simp [wiM]; done))
  rw [q_13] at hl
  have q_14 : ((-6) : Int32) = (wiM (fun k => sumI (crG σ (nI k)) 80) 0).1 := (by first | contradiction | with_reducible rfl | (simp only [wiM, ↓reduceIte, Bool.false_eq_true, bI_true, bI_false, Bool.true_and, Bool.and_true, Bool.and_false, Bool.false_and, Bool.not_true, Bool.not_false, Bool.or_true, Bool.true_or, Bool.or_false, Bool.false_or] <;> with_reducible rfl) | (simp only [wiM, ↓reduceIte, Bool.false_eq_true, bI_true, bI_false, Bool.true_and, Bool.and_true, Bool.and_false, Bool.false_and, Bool.not_true, Bool.not_false, Bool.or_true, Bool.true_or, Bool.or_false, Bool.false_or] <;> rfl) | rfl | (simp [wiM]; done))
  rw [q_14] at hl
  exact loop7 (tn (σ 256) + 1) (0) (by omega) (by omega) _ _ hP hD hS ls (lv_sub hl [0, 1, 2, 3] rfl)

set_option maxHeartbeats 8000000 in
set_option maxRecDepth 100000 in
theorem kX6_bestScrub (l : Launch) (D : va_G) (T : Nat → ClassId) (Z : ZZ) (md : Nat → Nat) (n : Nat) (len : Nat) (p : Nat) (le : Nat) (σ : MS)  : CtI l D T Z yX6_bestScrub wsX6_bestScrub ({ frames := 3, cells := 0, slots := 0, locals := 68 }) [[((md 0), .inr (6, [.ref (md 1), .int (nI (n)), .ref (md 2), .int (nI (len)), .int (nI (p)), .int (nI (le)), .ref (md 3), .ref (md 4)]))], [((md 1), .inl (T 0, 1872, .inl (σ)))]] [.ref (md 0)] ((wiM (fun k => sumI (heM σ (4 * k)) (4 * k + 4 - 4 * k)) 8).1) [[((md 0), .inr (6, [.ref (md 1), .int (nI (n)), .ref (md 2), .int (nI (len)), .int (nI (p)), .int (nI (le)), .ref (md 3), .ref (md 4)]))], [((md 1), .inl (T 0, 1872, .inl (σ)))]] := by
  refine CtI.of (cc := cX6_bestScrub) (maxL := 5) (ret := (some .int)) (plainFor_of_name (by decide)) rfl rfl ?_
  intro pP eE s mM bW mE cC A hE hK hN hM hP hD hA
  obtain ⟨hx, hb, hr, hts, hown, hml, hlk⟩ := hE
  have hown : s.vm.findClass RX6 = some mM.cls := hown
  have hS : va_S A s.heap s.heap [] := va_S.rf
  have hl := lv_entry ([.ref (md 0)]) (n := 5) (Nat.le_of_ble_eq_true rfl)
  rw [lg_entry_eq]
  generalize (lg_sl ([.ref (md 0)]) ++ List.replicate (5 - (lg_sl ([.ref (md 0)])).length) Slot.unset).toArray = ls at hl ⊢
  have hl : lv_has ls 5 [(0, .ref (md 0))] := hl
  refine lv_bipush (v := (-6)) hx hb dX6_bestScrub_0 (by decide) ?_
  refine lv_istore_n (lv' := [(1, .int ((-6))), (0, .ref (md 0))]) hx hb dX6_bestScrub_2 rfl hl (by decide) rfl (fun ls hl => ?_)
  refine lv_iconst (v := nI 0) hx hb dX6_bestScrub_3 (by decide) ?_
  refine lv_istore_n (lv' := [(2, .int (nI 0)), (1, .int ((-6))), (0, .ref (md 0))]) hx hb dX6_bestScrub_4 rfl hl (by decide) rfl (fun ls hl => ?_)
  refine lv_iconst (v := nI 0) hx hb dX6_bestScrub_5 (by decide) ?_
  refine lv_istore_n (lv' := [(3, .int (nI 0)), (2, .int (nI 0)), (1, .int ((-6))), (0, .ref (md 0))]) hx hb dX6_bestScrub_6 rfl hl (by decide) rfl (fun ls hl => ?_)
  have loop7 : ∀ (n9 k9 : Nat), k9 ≤ 8 → 8 < k9 + n9 → ∀ (H : Heap) (locs : List Loc), frP D [[((md 0), .inr (6, [.ref (md 1), .int (nI (n)), .ref (md 2), .int (nI (len)), .int (nI (p)), .int (nI (le)), .ref (md 3), .ref (md 4)]))], [((md 1), .inl (T 0, 1872, .inl (σ)))]] H → va_D A ([[((md 0), .inr (6, [.ref (md 1), .int (nI (n)), .ref (md 2), .int (nI (len)), .int (nI (p)), .int (nI (le)), .ref (md 3), .ref (md 4)]))], [((md 1), .inl (T 0, 1872, .inl (σ)))]] : List va_W).flatten → va_S A s.heap H locs → ∀ (ls : Array Slot), lv_has ls 5 [(3, .int (nI (k9))), (2, .int ((wiM (fun k => sumI (heM σ (4 * k)) (4 * k + 4 - 4 * k)) k9).2)), (1, .int ((wiM (fun k => sumI (heM σ (4 * k)) (4 * k + 4 - 4 * k)) k9).1)), (0, .ref (md 0))] → W pP l eE ({ frames := 3, cells := 0, slots := 0, locals := 68 }) s mM ([.ref (md 0)] : List Value).toArray bW mE cC H locs 0 0 (MQ bW (QcI D [[((md 0), .inr (6, [.ref (md 1), .int (nI (n)), .ref (md 2), .int (nI (len)), .int (nI (p)), .int (nI (le)), .ref (md 3), .ref (md 4)]))], [((md 1), .inl (T 0, 1872, .inl (σ)))]] ((wiM (fun k => sumI (heM σ (4 * k)) (4 * k + 4 - 4 * k)) 8).1) A) ([.ref (md 0)] : List Value).toArray s 0 0 A) (F0 mM 7 ls []) := by
    intro n9
    induction n9 with
    | zero => intro k9 h1 h2; exact absurd h2 (by omega)
    | succ n9 ih =>
      intro k9 hk1 hk2 H locs hP hD hS ls hl
      refine lv_iload_n hx hb dX6_bestScrub_7 rfl (lv_at hl 0 rfl) ?_
      refine lv_bipush (v := nI 8) hx hb dX6_bestScrub_8 (by decide) ?_
      refine fr_icmp_ge (k9) (8) (by omega) (by decide) (tgt := 58) hx hb dX6_bestScrub_10 (by decide) (fun c_1 => ?_) (fun c_1 => ?_)
      · have c_1' := Nat.not_lt.mpr c_1
        obtain rfl : k9 = 8 := by omega
        refine lv_iload_n hx hb dX6_bestScrub_58 rfl (lv_at hl 2 rfl) ?_
        exact fr_iret hx hb hr hlk hP hS rfl rfl dX6_bestScrub_59
      · have c_1' := Nat.not_le.mpr c_1
        refine lv_aload_n hx hb dX6_bestScrub_13 rfl (lv_at hl 3 rfl) ?_
        refine lv_iconst (v := nI 4) hx hb dX6_bestScrub_14 (by decide) ?_
        refine lv_iload_n hx hb dX6_bestScrub_15 rfl (lv_at hl 0 rfl) ?_
        refine fr_imul (4) (k9) hx hb dX6_bestScrub_16 ?_
        refine lv_iconst (v := nI 4) hx hb dX6_bestScrub_17 (by decide) ?_
        refine lv_iload_n hx hb dX6_bestScrub_18 rfl (lv_at hl 0 rfl) ?_
        refine fr_imul (4) (k9) hx hb dX6_bestScrub_19 ?_
        refine lv_iconst (v := nI 4) hx hb dX6_bestScrub_20 (by decide) ?_
        refine fr_iadd ((4 * k9)) (4) hx hb dX6_bestScrub_21 ?_
        refine fr_Vi (As := [.int (nI ((4 * k9))), .int (nI (((4 * k9) + 4)))]) (rest := []) (fs' := [[((md 0), .inr (6, [.ref (md 1), .int (nI (n)), .ref (md 2), .int (nI (len)), .int (nI (p)), .int (nI (le)), .ref (md 3), .ref (md 4)]))], [((md 1), .inl (T 0, 1872, .inl (σ)))]]) (ci := 6) (q0 := (RX6, TX6, 8)) (i0 := 0) ⟨hx, hb, hml, hown, hts⟩ (kX6_healable l D T Z md n len p le σ (4 * k9) ((4 * k9) + 4) (by omega) (by omega)) (cwV 2 hts gX6_bestScrub_X6_healable rfl rfl rfl (by decide +kernel) ⟨Nat.le_of_ble_eq_true rfl, Nat.le_of_ble_eq_true rfl⟩) hK hN hM hP hD hS hA [0, 1] rfl rfl rfl rfl rfl rfl hl.1 rfl (Nat.le_of_ble_eq_true rfl) dX6_bestScrub_22 ⟨Nat.zero_le _, Nat.zero_le _⟩ (fun H locs hP hD hS => ?_)
        refine lv_istore (lv' := [(4, .int (sumI (heM σ (4 * k9)) (((4 * k9) + 4) - (4 * k9)))), (3, .int (nI (k9))), (2, .int ((wiM (fun k => sumI (heM σ (4 * k)) (4 * k + 4 - 4 * k)) k9).2)), (1, .int ((wiM (fun k => sumI (heM σ (4 * k)) (4 * k + 4 - 4 * k)) k9).1)), (0, .ref (md 0))]) hx hb dX6_bestScrub_25 hl (by decide) rfl (fun ls hl => ?_)
        refine lv_iload hx hb dX6_bestScrub_27 (lv_at hl 0 rfl) ?_
        refine lv_iload_n hx hb dX6_bestScrub_29 rfl (lv_at hl 2 rfl) ?_
        refine lv_icmp_le (tgt := 37) hx hb dX6_bestScrub_30 (by decide) (fun c_2 => ?_) (fun c_2 => ?_)
        · have c_2' := Int32.not_lt.mpr c_2
          refine lv_iload_n hx hb dX6_bestScrub_37 rfl (lv_at hl 3 rfl) ?_
          refine lv_istore_n (lv' := [(1, .int ((wiM (fun k => sumI (heM σ (4 * k)) (4 * k + 4 - 4 * k)) k9).1)), (4, .int (sumI (heM σ (4 * k9)) (((4 * k9) + 4) - (4 * k9)))), (3, .int (nI (k9))), (2, .int ((wiM (fun k => sumI (heM σ (4 * k)) (4 * k + 4 - 4 * k)) k9).2)), (0, .ref (md 0))]) hx hb dX6_bestScrub_38 rfl hl (by decide) rfl (fun ls hl => ?_)
          refine lv_iload hx hb dX6_bestScrub_39 (lv_at hl 1 rfl) ?_
          refine lv_iload_n hx hb dX6_bestScrub_41 rfl (lv_at hl 3 rfl) ?_
          refine lv_icmp_le (tgt := 50) hx hb dX6_bestScrub_42 (by decide) (fun c_3 => ?_) (fun c_3 => ?_)
          · have c_3' := Int32.not_lt.mpr c_3
            refine lv_iload_n hx hb dX6_bestScrub_50 rfl (lv_at hl 3 rfl) ?_
            refine lv_istore_n (lv' := [(2, .int ((wiM (fun k => sumI (heM σ (4 * k)) (4 * k + 4 - 4 * k)) k9).2)), (1, .int ((wiM (fun k => sumI (heM σ (4 * k)) (4 * k + 4 - 4 * k)) k9).1)), (4, .int (sumI (heM σ (4 * k9)) (((4 * k9) + 4) - (4 * k9)))), (3, .int (nI (k9))), (0, .ref (md 0))]) hx hb dX6_bestScrub_51 rfl hl (by decide) rfl (fun ls hl => ?_)
            refine fr_iinc (k9) ((k9 + 1)) (nI_inc _) (lv' := [(3, .int (nI ((k9 + 1)))), (2, .int ((wiM (fun k => sumI (heM σ (4 * k)) (4 * k + 4 - 4 * k)) k9).2)), (1, .int ((wiM (fun k => sumI (heM σ (4 * k)) (4 * k + 4 - 4 * k)) k9).1)), (4, .int (sumI (heM σ (4 * k9)) (((4 * k9) + 4) - (4 * k9)))), (0, .ref (md 0))]) (k := 3) hx hb dX6_bestScrub_52 hl rfl (by decide) rfl (fun ls hl => ?_)
            refine lv_goto (tgt := 7) hx hb dX6_bestScrub_55 (by decide) ?_
            have q_4 : ((wiM (fun k => sumI (heM σ (4 * k)) (4 * k + 4 - 4 * k)) k9).2 : Int32) = (wiM (fun k => sumI (heM σ (4 * k)) (4 * k + 4 - 4 * k)) (k9 + 1)).2 := (by first | contradiction | with_reducible rfl | (simp only [wiM, c_1, c_1', c_2, c_2', c_3, c_3', ↓reduceIte, Bool.false_eq_true, bI_true, bI_false, Bool.true_and, Bool.and_true, Bool.and_false, Bool.false_and, Bool.not_true, Bool.not_false, Bool.or_true, Bool.true_or, Bool.or_false, Bool.false_or] <;> with_reducible rfl) | (simp only [wiM, c_1, c_1', c_2, c_2', c_3, c_3', ↓reduceIte, Bool.false_eq_true, bI_true, bI_false, Bool.true_and, Bool.and_true, Bool.and_false, Bool.false_and, Bool.not_true, Bool.not_false, Bool.or_true, Bool.true_or, Bool.or_false, Bool.false_or] <;> rfl) | rfl | (simp [wiM, c_1, c_1', c_2, c_2', c_3, c_3']; done))
            rw [q_4] at hl
            have q_5 : ((wiM (fun k => sumI (heM σ (4 * k)) (4 * k + 4 - 4 * k)) k9).1 : Int32) = (wiM (fun k => sumI (heM σ (4 * k)) (4 * k + 4 - 4 * k)) (k9 + 1)).1 := (by first | contradiction | with_reducible rfl | (simp only [wiM, c_1, c_1', c_2, c_2', c_3, c_3', ↓reduceIte, Bool.false_eq_true, bI_true, bI_false, Bool.true_and, Bool.and_true, Bool.and_false, Bool.false_and, Bool.not_true, Bool.not_false, Bool.or_true, Bool.true_or, Bool.or_false, Bool.false_or] <;> with_reducible rfl) | (simp only [wiM, c_1, c_1', c_2, c_2', c_3, c_3', ↓reduceIte, Bool.false_eq_true, bI_true, bI_false, Bool.true_and, Bool.and_true, Bool.and_false, Bool.false_and, Bool.not_true, Bool.not_false, Bool.or_true, Bool.true_or, Bool.or_false, Bool.false_or] <;> rfl) | rfl | (simp [wiM, c_1, c_1', c_2, c_2', c_3, c_3']; done))
            rw [q_5] at hl
            exact ih  ((k9 + 1)) (by omega) (by omega) H locs hP hD hS ls (lv_sub hl [0, 1, 2, 4] rfl)
          · have c_3' := Int32.not_le.mp c_3
            refine lv_iload hx hb dX6_bestScrub_45 (lv_at hl 1 rfl) ?_
            refine lv_goto (tgt := 51) hx hb dX6_bestScrub_47 (by decide) ?_
            refine lv_istore_n (lv' := [(2, .int (sumI (heM σ (4 * k9)) (((4 * k9) + 4) - (4 * k9)))), (1, .int ((wiM (fun k => sumI (heM σ (4 * k)) (4 * k + 4 - 4 * k)) k9).1)), (4, .int (sumI (heM σ (4 * k9)) (((4 * k9) + 4) - (4 * k9)))), (3, .int (nI (k9))), (0, .ref (md 0))]) hx hb dX6_bestScrub_51 rfl hl (by decide) rfl (fun ls hl => ?_)
            refine fr_iinc (k9) ((k9 + 1)) (nI_inc _) (lv' := [(3, .int (nI ((k9 + 1)))), (2, .int (sumI (heM σ (4 * k9)) (((4 * k9) + 4) - (4 * k9)))), (1, .int ((wiM (fun k => sumI (heM σ (4 * k)) (4 * k + 4 - 4 * k)) k9).1)), (4, .int (sumI (heM σ (4 * k9)) (((4 * k9) + 4) - (4 * k9)))), (0, .ref (md 0))]) (k := 3) hx hb dX6_bestScrub_52 hl rfl (by decide) rfl (fun ls hl => ?_)
            refine lv_goto (tgt := 7) hx hb dX6_bestScrub_55 (by decide) ?_
            have q_6 : (sumI (heM σ (4 * k9)) (((4 * k9) + 4) - (4 * k9)) : Int32) = (wiM (fun k => sumI (heM σ (4 * k)) (4 * k + 4 - 4 * k)) (k9 + 1)).2 := (by first | contradiction | with_reducible rfl | (simp only [wiM, c_1, c_1', c_2, c_2', c_3, c_3', ↓reduceIte, Bool.false_eq_true, bI_true, bI_false, Bool.true_and, Bool.and_true, Bool.and_false, Bool.false_and, Bool.not_true, Bool.not_false, Bool.or_true, Bool.true_or, Bool.or_false, Bool.false_or] <;> with_reducible rfl) | (simp only [wiM, c_1, c_1', c_2, c_2', c_3, c_3', ↓reduceIte, Bool.false_eq_true, bI_true, bI_false, Bool.true_and, Bool.and_true, Bool.and_false, Bool.false_and, Bool.not_true, Bool.not_false, Bool.or_true, Bool.true_or, Bool.or_false, Bool.false_or] <;> rfl) | rfl | (simp [wiM, c_1, c_1', c_2, c_2', c_3, c_3']; done))
            rw [q_6] at hl
            have q_7 : ((wiM (fun k => sumI (heM σ (4 * k)) (4 * k + 4 - 4 * k)) k9).1 : Int32) = (wiM (fun k => sumI (heM σ (4 * k)) (4 * k + 4 - 4 * k)) (k9 + 1)).1 := (by first | contradiction | with_reducible rfl | (simp only [wiM, c_1, c_1', c_2, c_2', c_3, c_3', ↓reduceIte, Bool.false_eq_true, bI_true, bI_false, Bool.true_and, Bool.and_true, Bool.and_false, Bool.false_and, Bool.not_true, Bool.not_false, Bool.or_true, Bool.true_or, Bool.or_false, Bool.false_or] <;> with_reducible rfl) | (simp only [wiM, c_1, c_1', c_2, c_2', c_3, c_3', ↓reduceIte, Bool.false_eq_true, bI_true, bI_false, Bool.true_and, Bool.and_true, Bool.and_false, Bool.false_and, Bool.not_true, Bool.not_false, Bool.or_true, Bool.true_or, Bool.or_false, Bool.false_or] <;> rfl) | rfl | (simp [wiM, c_1, c_1', c_2, c_2', c_3, c_3']; done))
            rw [q_7] at hl
            exact ih  ((k9 + 1)) (by omega) (by omega) H locs hP hD hS ls (lv_sub hl [0, 1, 2, 4] rfl)
        · have c_2' := Int32.not_le.mp c_2
          refine lv_iload_n hx hb dX6_bestScrub_33 rfl (lv_at hl 1 rfl) ?_
          refine lv_goto (tgt := 38) hx hb dX6_bestScrub_34 (by decide) ?_
          refine lv_istore_n (lv' := [(1, .int (nI (k9))), (4, .int (sumI (heM σ (4 * k9)) (((4 * k9) + 4) - (4 * k9)))), (3, .int (nI (k9))), (2, .int ((wiM (fun k => sumI (heM σ (4 * k)) (4 * k + 4 - 4 * k)) k9).2)), (0, .ref (md 0))]) hx hb dX6_bestScrub_38 rfl hl (by decide) rfl (fun ls hl => ?_)
          refine lv_iload hx hb dX6_bestScrub_39 (lv_at hl 1 rfl) ?_
          refine lv_iload_n hx hb dX6_bestScrub_41 rfl (lv_at hl 3 rfl) ?_
          refine lv_icmp_le (tgt := 50) hx hb dX6_bestScrub_42 (by decide) (fun c_8 => ?_) (fun c_8 => ?_)
          · have c_8' := Int32.not_lt.mpr c_8
            refine lv_iload_n hx hb dX6_bestScrub_50 rfl (lv_at hl 3 rfl) ?_
            refine lv_istore_n (lv' := [(2, .int ((wiM (fun k => sumI (heM σ (4 * k)) (4 * k + 4 - 4 * k)) k9).2)), (1, .int (nI (k9))), (4, .int (sumI (heM σ (4 * k9)) (((4 * k9) + 4) - (4 * k9)))), (3, .int (nI (k9))), (0, .ref (md 0))]) hx hb dX6_bestScrub_51 rfl hl (by decide) rfl (fun ls hl => ?_)
            refine fr_iinc (k9) ((k9 + 1)) (nI_inc _) (lv' := [(3, .int (nI ((k9 + 1)))), (2, .int ((wiM (fun k => sumI (heM σ (4 * k)) (4 * k + 4 - 4 * k)) k9).2)), (1, .int (nI (k9))), (4, .int (sumI (heM σ (4 * k9)) (((4 * k9) + 4) - (4 * k9)))), (0, .ref (md 0))]) (k := 3) hx hb dX6_bestScrub_52 hl rfl (by decide) rfl (fun ls hl => ?_)
            refine lv_goto (tgt := 7) hx hb dX6_bestScrub_55 (by decide) ?_
            have q_9 : ((wiM (fun k => sumI (heM σ (4 * k)) (4 * k + 4 - 4 * k)) k9).2 : Int32) = (wiM (fun k => sumI (heM σ (4 * k)) (4 * k + 4 - 4 * k)) (k9 + 1)).2 := (by first | contradiction | with_reducible rfl | (simp only [wiM, c_1, c_1', c_2, c_2', c_8, c_8', ↓reduceIte, Bool.false_eq_true, bI_true, bI_false, Bool.true_and, Bool.and_true, Bool.and_false, Bool.false_and, Bool.not_true, Bool.not_false, Bool.or_true, Bool.true_or, Bool.or_false, Bool.false_or] <;> with_reducible rfl) | (simp only [wiM, c_1, c_1', c_2, c_2', c_8, c_8', ↓reduceIte, Bool.false_eq_true, bI_true, bI_false, Bool.true_and, Bool.and_true, Bool.and_false, Bool.false_and, Bool.not_true, Bool.not_false, Bool.or_true, Bool.true_or, Bool.or_false, Bool.false_or] <;> rfl) | rfl | (simp [wiM, c_1, c_1', c_2, c_2', c_8, c_8']; done))
            rw [q_9] at hl
            have q_10 : (nI (k9) : Int32) = (wiM (fun k => sumI (heM σ (4 * k)) (4 * k + 4 - 4 * k)) (k9 + 1)).1 := (by first | contradiction | with_reducible rfl | (simp only [wiM, c_1, c_1', c_2, c_2', c_8, c_8', ↓reduceIte, Bool.false_eq_true, bI_true, bI_false, Bool.true_and, Bool.and_true, Bool.and_false, Bool.false_and, Bool.not_true, Bool.not_false, Bool.or_true, Bool.true_or, Bool.or_false, Bool.false_or] <;> with_reducible rfl) | (simp only [wiM, c_1, c_1', c_2, c_2', c_8, c_8', ↓reduceIte, Bool.false_eq_true, bI_true, bI_false, Bool.true_and, Bool.and_true, Bool.and_false, Bool.false_and, Bool.not_true, Bool.not_false, Bool.or_true, Bool.true_or, Bool.or_false, Bool.false_or] <;> rfl) | rfl | (simp [wiM, c_1, c_1', c_2, c_2', c_8, c_8']; done))
            rw [q_10] at hl
            exact ih  ((k9 + 1)) (by omega) (by omega) H locs hP hD hS ls (lv_sub hl [0, 1, 2, 4] rfl)
          · have c_8' := Int32.not_le.mp c_8
            refine lv_iload hx hb dX6_bestScrub_45 (lv_at hl 1 rfl) ?_
            refine lv_goto (tgt := 51) hx hb dX6_bestScrub_47 (by decide) ?_
            refine lv_istore_n (lv' := [(2, .int (sumI (heM σ (4 * k9)) (((4 * k9) + 4) - (4 * k9)))), (1, .int (nI (k9))), (4, .int (sumI (heM σ (4 * k9)) (((4 * k9) + 4) - (4 * k9)))), (3, .int (nI (k9))), (0, .ref (md 0))]) hx hb dX6_bestScrub_51 rfl hl (by decide) rfl (fun ls hl => ?_)
            refine fr_iinc (k9) ((k9 + 1)) (nI_inc _) (lv' := [(3, .int (nI ((k9 + 1)))), (2, .int (sumI (heM σ (4 * k9)) (((4 * k9) + 4) - (4 * k9)))), (1, .int (nI (k9))), (4, .int (sumI (heM σ (4 * k9)) (((4 * k9) + 4) - (4 * k9)))), (0, .ref (md 0))]) (k := 3) hx hb dX6_bestScrub_52 hl rfl (by decide) rfl (fun ls hl => ?_)
            refine lv_goto (tgt := 7) hx hb dX6_bestScrub_55 (by decide) ?_
            have q_11 : (sumI (heM σ (4 * k9)) (((4 * k9) + 4) - (4 * k9)) : Int32) = (wiM (fun k => sumI (heM σ (4 * k)) (4 * k + 4 - 4 * k)) (k9 + 1)).2 := (by first | contradiction | with_reducible rfl | (simp only [wiM, c_1, c_1', c_2, c_2', c_8, c_8', ↓reduceIte, Bool.false_eq_true, bI_true, bI_false, Bool.true_and, Bool.and_true, Bool.and_false, Bool.false_and, Bool.not_true, Bool.not_false, Bool.or_true, Bool.true_or, Bool.or_false, Bool.false_or] <;> with_reducible rfl) | (simp only [wiM, c_1, c_1', c_2, c_2', c_8, c_8', ↓reduceIte, Bool.false_eq_true, bI_true, bI_false, Bool.true_and, Bool.and_true, Bool.and_false, Bool.false_and, Bool.not_true, Bool.not_false, Bool.or_true, Bool.true_or, Bool.or_false, Bool.false_or] <;> rfl) | rfl | (simp [wiM, c_1, c_1', c_2, c_2', c_8, c_8']; done))
            rw [q_11] at hl
            have q_12 : (nI (k9) : Int32) = (wiM (fun k => sumI (heM σ (4 * k)) (4 * k + 4 - 4 * k)) (k9 + 1)).1 := (by first | contradiction | with_reducible rfl | (simp only [wiM, c_1, c_1', c_2, c_2', c_8, c_8', ↓reduceIte, Bool.false_eq_true, bI_true, bI_false, Bool.true_and, Bool.and_true, Bool.and_false, Bool.false_and, Bool.not_true, Bool.not_false, Bool.or_true, Bool.true_or, Bool.or_false, Bool.false_or] <;> with_reducible rfl) | (simp only [wiM, c_1, c_1', c_2, c_2', c_8, c_8', ↓reduceIte, Bool.false_eq_true, bI_true, bI_false, Bool.true_and, Bool.and_true, Bool.and_false, Bool.false_and, Bool.not_true, Bool.not_false, Bool.or_true, Bool.true_or, Bool.or_false, Bool.false_or] <;> rfl) | rfl | (simp [wiM, c_1, c_1', c_2, c_2', c_8, c_8']; done))
            rw [q_12] at hl
            exact ih  ((k9 + 1)) (by omega) (by omega) H locs hP hD hS ls (lv_sub hl [0, 1, 2, 4] rfl)
  have q_13 : (nI 0 : Int32) = (wiM (fun k => sumI (heM σ (4 * k)) (4 * k + 4 - 4 * k)) 0).2 := (by first | contradiction | with_reducible rfl | (simp only [wiM, ↓reduceIte, Bool.false_eq_true, bI_true, bI_false, Bool.true_and, Bool.and_true, Bool.and_false, Bool.false_and, Bool.not_true, Bool.not_false, Bool.or_true, Bool.true_or, Bool.or_false, Bool.false_or] <;> with_reducible rfl) | (simp only [wiM, ↓reduceIte, Bool.false_eq_true, bI_true, bI_false, Bool.true_and, Bool.and_true, Bool.and_false, Bool.false_and, Bool.not_true, Bool.not_false, Bool.or_true, Bool.true_or, Bool.or_false, Bool.false_or] <;> rfl) | rfl | (simp [wiM]; done))
  rw [q_13] at hl
  have q_14 : ((-6) : Int32) = (wiM (fun k => sumI (heM σ (4 * k)) (4 * k + 4 - 4 * k)) 0).1 := (by first | contradiction | with_reducible rfl | (simp only [wiM, ↓reduceIte, Bool.false_eq_true, bI_true, bI_false, Bool.true_and, Bool.and_true, Bool.and_false, Bool.false_and, Bool.not_true, Bool.not_false, Bool.or_true, Bool.true_or, Bool.or_false, Bool.false_or] <;> with_reducible rfl) | (simp only [wiM, ↓reduceIte, Bool.false_eq_true, bI_true, bI_false, Bool.true_and, Bool.and_true, Bool.and_false, Bool.false_and, Bool.not_true, Bool.not_false, Bool.or_true, Bool.true_or, Bool.or_false, Bool.false_or] <;> rfl) | rfl | (simp [wiM]; done))
  rw [q_14] at hl
  exact loop7 (8 + 1) (0) (by omega) (by omega) _ _ hP hD hS ls (lv_sub hl [0, 1, 2, 3] rfl)
