
set_option maxHeartbeats 8000000 in
set_option maxRecDepth 100000 in
theorem kX6_carriersOf (l : Launch) (D : va_G) (T : Nat → ClassId) (Z : ZZ) (md : Nat → Nat) (n : Nat) (len : Nat) (p : Nat) (le : Nat) (σ : MS) (x : Int32)  : CtI l D T Z yX6_carriersOf wsX6_carriersOf ({ frames := 1, cells := 0, slots := 0, locals := 22 }) [[((md 0), .inr (6, [.ref (md 1), .int (nI (n)), .ref (md 2), .int (nI (len)), .int (nI (p)), .int (nI (le)), .ref (md 3), .ref (md 4)]))], [((md 1), .inl (T 0, 1872, .inl (σ)))]] [.ref (md 0), .int (x)] (sumI (crG σ x) 80) [[((md 0), .inr (6, [.ref (md 1), .int (nI (n)), .ref (md 2), .int (nI (len)), .int (nI (p)), .int (nI (le)), .ref (md 3), .ref (md 4)]))], [((md 1), .inl (T 0, 1872, .inl (σ)))]] := by
  refine CtI.of (cc := cX6_carriersOf) (maxL := 4) (ret := (some .int)) (plainFor_of_name (by decide)) rfl rfl ?_
  intro pP eE s mM bW mE cC A hE hK hN hM hP hD hA
  obtain ⟨hx, hb, hr, hts, hown, hml, hlk⟩ := hE
  have hown : s.vm.findClass RX6 = some mM.cls := hown
  have hS : va_S A s.heap s.heap [] := va_S.rf
  have hl := lv_entry ([.ref (md 0), .int (x)]) (n := 4) (Nat.le_of_ble_eq_true rfl)
  rw [lg_entry_eq]
  generalize (lg_sl ([.ref (md 0), .int (x)]) ++ List.replicate (4 - (lg_sl ([.ref (md 0), .int (x)])).length) Slot.unset).toArray = ls at hl ⊢
  have hl : lv_has ls 4 [(0, .ref (md 0)), (1, .int (x))] := hl
  refine lv_iconst (v := nI 0) hx hb dX6_carriersOf_0 (by decide) ?_
  refine lv_istore_n (lv' := [(2, .int (nI 0)), (0, .ref (md 0)), (1, .int (x))]) hx hb dX6_carriersOf_1 rfl hl (by decide) rfl (fun ls hl => ?_)
  refine lv_iconst (v := nI 0) hx hb dX6_carriersOf_2 (by decide) ?_
  refine lv_istore_n (lv' := [(3, .int (nI 0)), (2, .int (nI 0)), (0, .ref (md 0)), (1, .int (x))]) hx hb dX6_carriersOf_3 rfl hl (by decide) rfl (fun ls hl => ?_)
  have loop4 : ∀ (n9 k9 : Nat), k9 ≤ 80 → 80 < k9 + n9 → ∀ (H : Heap) (locs : List Loc), frP D [[((md 0), .inr (6, [.ref (md 1), .int (nI (n)), .ref (md 2), .int (nI (len)), .int (nI (p)), .int (nI (le)), .ref (md 3), .ref (md 4)]))], [((md 1), .inl (T 0, 1872, .inl (σ)))]] H → va_D A ([[((md 0), .inr (6, [.ref (md 1), .int (nI (n)), .ref (md 2), .int (nI (len)), .int (nI (p)), .int (nI (le)), .ref (md 3), .ref (md 4)]))], [((md 1), .inl (T 0, 1872, .inl (σ)))]] : List va_W).flatten → va_S A s.heap H locs → ∀ (ls : Array Slot), lv_has ls 4 [(3, .int (nI ((3 * k9)))), (2, .int (sumI (crG σ x) k9)), (0, .ref (md 0)), (1, .int (x))] → W pP l eE ({ frames := 1, cells := 0, slots := 0, locals := 22 }) s mM ([.ref (md 0), .int (x)] : List Value).toArray bW mE cC H locs 0 0 (MQ bW (QcI D [[((md 0), .inr (6, [.ref (md 1), .int (nI (n)), .ref (md 2), .int (nI (len)), .int (nI (p)), .int (nI (le)), .ref (md 3), .ref (md 4)]))], [((md 1), .inl (T 0, 1872, .inl (σ)))]] (sumI (crG σ x) 80) A) ([.ref (md 0), .int (x)] : List Value).toArray s 0 0 A) (F0 mM 4 ls []) := by
    intro n9
    induction n9 with
    | zero => intro k9 h1 h2; exact absurd h2 (by omega)
    | succ n9 ih =>
      intro k9 hk1 hk2 H locs hP hD hS ls hl
      refine lv_iload_n hx hb dX6_carriersOf_4 rfl (lv_at hl 0 rfl) ?_
      refine lv_sipush (v := nI 240) hx hb dX6_carriersOf_5 (by decide) ?_
      refine fr_icmp_ge ((3 * k9)) (240) (by omega) (by decide) (tgt := 34) hx hb dX6_carriersOf_8 (by decide) (fun c_1 => ?_) (fun c_1 => ?_)
      · have c_1' := Nat.not_lt.mpr c_1
        refine lv_iload_n hx hb dX6_carriersOf_34 rfl (lv_at hl 1 rfl) ?_
        exact fr_iret hx hb hr hlk hP hS (by rw [show 80 = k9 from by omega]) rfl dX6_carriersOf_35
      · have c_1' := Nat.not_le.mpr c_1
        refine lv_iload_n hx hb dX6_carriersOf_11 rfl (lv_at hl 1 rfl) ?_
        refine lv_aload_n hx hb dX6_carriersOf_12 rfl (lv_at hl 2 rfl) ?_
        refine lv_iload_n hx hb dX6_carriersOf_13 rfl (lv_at hl 0 rfl) ?_
        refine lv_iload_n hx hb dX6_carriersOf_14 rfl (lv_at hl 3 rfl) ?_
        refine fr_Vi (As := [.int (nI ((3 * k9))), .int (x)]) (rest := [.int (sumI (crG σ x) k9)]) (fs' := [[((md 0), .inr (6, [.ref (md 1), .int (nI (n)), .ref (md 2), .int (nI (len)), .int (nI (p)), .int (nI (le)), .ref (md 3), .ref (md 4)]))], [((md 1), .inl (T 0, 1872, .inl (σ)))]]) (ci := 6) (q0 := (RX6, TX6, 8)) (i0 := 0) ⟨hx, hb, hml, hown, hts⟩ (kX6_carries l D T Z md n len p le σ (3 * k9) x (by omega)) (cwV 2 hts gX6_carriersOf_X6_carries rfl rfl rfl (by decide +kernel) ⟨Nat.le_of_ble_eq_true rfl, Nat.le_of_ble_eq_true rfl⟩) hK hN hM hP hD hS hA [0, 1] rfl rfl rfl rfl rfl rfl hl.1 rfl (Nat.le_of_ble_eq_true rfl) dX6_carriersOf_15 ⟨Nat.zero_le _, Nat.zero_le _⟩ (fun H locs hP hD hS => ?_)
        refine fr_ifeq_b (tgt := 25) hx hb dX6_carriersOf_18 (by decide) (fun c_2 => ?_) (fun c_2 => ?_)
        · refine lv_iconst (v := nI 0) hx hb dX6_carriersOf_25 (by decide) ?_
          refine lv_iadd hx hb dX6_carriersOf_26 ?_
          refine lv_istore_n (lv' := [(2, .int ((sumI (crG σ x) k9) + (nI 0))), (3, .int (nI ((3 * k9)))), (0, .ref (md 0)), (1, .int (x))]) hx hb dX6_carriersOf_27 rfl hl (by decide) rfl (fun ls hl => ?_)
          refine fr_iinc ((3 * k9)) (((3 * k9) + 3)) (by rw [show Int32.ofInt 3 = nI 3 from rfl, nI_add]) (lv' := [(3, .int (nI (((3 * k9) + 3)))), (2, .int ((sumI (crG σ x) k9) + (nI 0))), (0, .ref (md 0)), (1, .int (x))]) (k := 1) hx hb dX6_carriersOf_28 hl rfl (by decide) rfl (fun ls hl => ?_)
          refine lv_goto (tgt := 4) hx hb dX6_carriersOf_31 (by decide) ?_
          have q_3 : (nI (((3 * k9) + 3)) : Int32) = nI ((3 * (k9 + 1))) := (by first | contradiction | with_reducible rfl | (simp only [sumI, crG, c_1, c_1', c_2, ↓reduceIte, Bool.false_eq_true, bI_true, bI_false, Bool.true_and, Bool.and_true, Bool.and_false, Bool.false_and, Bool.not_true, Bool.not_false, Bool.or_true, Bool.true_or, Bool.or_false, Bool.false_or] <;> with_reducible rfl) | (simp only [sumI, crG, c_1, c_1', c_2, ↓reduceIte, Bool.false_eq_true, bI_true, bI_false, Bool.true_and, Bool.and_true, Bool.and_false, Bool.false_and, Bool.not_true, Bool.not_false, Bool.or_true, Bool.true_or, Bool.or_false, Bool.false_or] <;> rfl) | rfl | (simp [sumI, crG, c_1, c_1', c_2]; done))
          rw [q_3] at hl
          have q_4 : ((sumI (crG σ x) k9) + (nI 0) : Int32) = sumI (crG σ x) (k9 + 1) := (by first | contradiction | with_reducible rfl | (simp only [sumI, crG, c_1, c_1', c_2, ↓reduceIte, Bool.false_eq_true, bI_true, bI_false, Bool.true_and, Bool.and_true, Bool.and_false, Bool.false_and, Bool.not_true, Bool.not_false, Bool.or_true, Bool.true_or, Bool.or_false, Bool.false_or] <;> with_reducible rfl) | (simp only [sumI, crG, c_1, c_1', c_2, ↓reduceIte, Bool.false_eq_true, bI_true, bI_false, Bool.true_and, Bool.and_true, Bool.and_false, Bool.false_and, Bool.not_true, Bool.not_false, Bool.or_true, Bool.true_or, Bool.or_false, Bool.false_or] <;> rfl) | rfl | (simp [sumI, crG, c_1, c_1', c_2]; done))
          rw [q_4] at hl
          exact ih  ((k9 + 1)) (by omega) (by omega) H locs hP hD hS ls (lv_sub hl [0, 1, 2, 3] rfl)
        · refine lv_iconst (v := nI 1) hx hb dX6_carriersOf_21 (by decide) ?_
          refine lv_goto (tgt := 26) hx hb dX6_carriersOf_22 (by decide) ?_
          refine lv_iadd hx hb dX6_carriersOf_26 ?_
          refine lv_istore_n (lv' := [(2, .int ((sumI (crG σ x) k9) + (nI 1))), (3, .int (nI ((3 * k9)))), (0, .ref (md 0)), (1, .int (x))]) hx hb dX6_carriersOf_27 rfl hl (by decide) rfl (fun ls hl => ?_)
          refine fr_iinc ((3 * k9)) (((3 * k9) + 3)) (by rw [show Int32.ofInt 3 = nI 3 from rfl, nI_add]) (lv' := [(3, .int (nI (((3 * k9) + 3)))), (2, .int ((sumI (crG σ x) k9) + (nI 1))), (0, .ref (md 0)), (1, .int (x))]) (k := 1) hx hb dX6_carriersOf_28 hl rfl (by decide) rfl (fun ls hl => ?_)
          refine lv_goto (tgt := 4) hx hb dX6_carriersOf_31 (by decide) ?_
          have q_5 : (nI (((3 * k9) + 3)) : Int32) = nI ((3 * (k9 + 1))) := (by first | contradiction | with_reducible rfl | (simp only [sumI, crG, c_1, c_1', c_2, ↓reduceIte, Bool.false_eq_true, bI_true, bI_false, Bool.true_and, Bool.and_true, Bool.and_false, Bool.false_and, Bool.not_true, Bool.not_false, Bool.or_true, Bool.true_or, Bool.or_false, Bool.false_or] <;> with_reducible rfl) | (simp only [sumI, crG, c_1, c_1', c_2, ↓reduceIte, Bool.false_eq_true, bI_true, bI_false, Bool.true_and, Bool.and_true, Bool.and_false, Bool.false_and, Bool.not_true, Bool.not_false, Bool.or_true, Bool.true_or, Bool.or_false, Bool.false_or] <;> rfl) | rfl | (simp [sumI, crG, c_1, c_1', c_2]; done))
          rw [q_5] at hl
          have q_6 : ((sumI (crG σ x) k9) + (nI 1) : Int32) = sumI (crG σ x) (k9 + 1) := (by first | contradiction | with_reducible rfl | (simp only [sumI, crG, c_1, c_1', c_2, ↓reduceIte, Bool.false_eq_true, bI_true, bI_false, Bool.true_and, Bool.and_true, Bool.and_false, Bool.false_and, Bool.not_true, Bool.not_false, Bool.or_true, Bool.true_or, Bool.or_false, Bool.false_or] <;> with_reducible rfl) | (simp only [sumI, crG, c_1, c_1', c_2, ↓reduceIte, Bool.false_eq_true, bI_true, bI_false, Bool.true_and, Bool.and_true, Bool.and_false, Bool.false_and, Bool.not_true, Bool.not_false, Bool.or_true, Bool.true_or, Bool.or_false, Bool.false_or] <;> rfl) | rfl | (simp [sumI, crG, c_1, c_1', c_2]; done))
          rw [q_6] at hl
          exact ih  ((k9 + 1)) (by omega) (by omega) H locs hP hD hS ls (lv_sub hl [0, 1, 2, 3] rfl)
  have q_7 : (nI 0 : Int32) = nI ((3 * 0)) := (by first | contradiction | with_reducible rfl | (simp only [sumI, crG, ↓reduceIte, Bool.false_eq_true, bI_true, bI_false, Bool.true_and, Bool.and_true, Bool.and_false, Bool.false_and, Bool.not_true, Bool.not_false, Bool.or_true, Bool.true_or, Bool.or_false, Bool.false_or] <;> with_reducible rfl) | (simp only [sumI, crG, ↓reduceIte, Bool.false_eq_true, bI_true, bI_false, Bool.true_and, Bool.and_true, Bool.and_false, Bool.false_and, Bool.not_true, Bool.not_false, Bool.or_true, Bool.true_or, Bool.or_false, Bool.false_or] <;> rfl) | rfl | (simp [sumI, crG]; done))
  rw [q_7] at hl
  have q_8 : (nI 0 : Int32) = sumI (crG σ x) 0 := (by first | contradiction | with_reducible rfl | (simp only [sumI, crG, ↓reduceIte, Bool.false_eq_true, bI_true, bI_false, Bool.true_and, Bool.and_true, Bool.and_false, Bool.false_and, Bool.not_true, Bool.not_false, Bool.or_true, Bool.true_or, Bool.or_false, Bool.false_or] <;> with_reducible rfl) | (simp only [sumI, crG, ↓reduceIte, Bool.false_eq_true, bI_true, bI_false, Bool.true_and, Bool.and_true, Bool.and_false, Bool.false_and, Bool.not_true, Bool.not_false, Bool.or_true, Bool.true_or, Bool.or_false, Bool.false_or] <;> rfl) | rfl | (simp [sumI, crG]; done))
  rw [q_8] at hl
  exact loop4 (80 + 1) (0) (by omega) (by omega) _ _ hP hD hS ls (lv_sub hl [0, 1, 2, 3] rfl)
