
set_option maxHeartbeats 8000000 in
set_option maxRecDepth 100000 in
theorem kX6_poisonedWords (l : Launch) (D : va_G) (T : Nat → ClassId) (Z : ZZ) (md : Nat → Nat) (n : Nat) (len : Nat) (p : Nat) (le : Nat) (σ : MS) (i : Nat) (j : Nat) (hij : i ≤ j) (hj : j ≤ 32) : CtI l D T Z yX6_poisonedWords wsX6_poisonedWords ({ frames := 1, cells := 0, slots := 0, locals := 21 }) [[((md 0), .inr (6, [.ref (md 1), .int (nI (n)), .ref (md 2), .int (nI (len)), .int (nI (p)), .int (nI (le)), .ref (md 3), .ref (md 4)]))], [((md 1), .inl (T 0, 1872, .inl (σ)))]] [.ref (md 0), .int (nI (i)), .int (nI (j))] (sumI (pwM σ i) (j - i)) [[((md 0), .inr (6, [.ref (md 1), .int (nI (n)), .ref (md 2), .int (nI (len)), .int (nI (p)), .int (nI (le)), .ref (md 3), .ref (md 4)]))], [((md 1), .inl (T 0, 1872, .inl (σ)))]] := by
  have hww : ∀ w : Nat, wdt 0 w = 0 + 3 * w := fun _ => rfl
  refine CtI.of (cc := cX6_poisonedWords) (maxL := 5) (ret := (some .int)) (plainFor_of_name (by decide)) rfl rfl ?_
  intro pP eE s mM bW mE cC A hE hK hN hM hP hD hA
  obtain ⟨hx, hb, hr, hts, hown, hml, hlk⟩ := hE
  have hown : s.vm.findClass RX6 = some mM.cls := hown
  have hS : va_S A s.heap s.heap [] := va_S.rf
  have hl := lv_entry ([.ref (md 0), .int (nI (i)), .int (nI (j))]) (n := 5) (Nat.le_of_ble_eq_true rfl)
  rw [lg_entry_eq]
  generalize (lg_sl ([.ref (md 0), .int (nI (i)), .int (nI (j))]) ++ List.replicate (5 - (lg_sl ([.ref (md 0), .int (nI (i)), .int (nI (j))])).length) Slot.unset).toArray = ls at hl ⊢
  have hl : lv_has ls 5 [(0, .ref (md 0)), (1, .int (nI (i))), (2, .int (nI (j)))] := hl
  refine lv_iconst (v := nI 0) hx hb dX6_poisonedWords_0 (by decide) ?_
  refine lv_istore_n (lv' := [(3, .int (nI 0)), (0, .ref (md 0)), (1, .int (nI (i))), (2, .int (nI (j)))]) hx hb dX6_poisonedWords_1 rfl hl (by decide) rfl (fun ls hl => ?_)
  refine lv_iload_n hx hb dX6_poisonedWords_2 rfl (lv_at hl 2 rfl) ?_
  refine lv_istore (lv' := [(4, .int (nI (i))), (3, .int (nI 0)), (0, .ref (md 0)), (1, .int (nI (i))), (2, .int (nI (j)))]) hx hb dX6_poisonedWords_3 hl (by decide) rfl (fun ls hl => ?_)
  have loop5 : ∀ (n9 k9 : Nat), k9 ≤ (j - i) → (j - i) < k9 + n9 → ∀ (H : Heap) (locs : List Loc), frP D [[((md 0), .inr (6, [.ref (md 1), .int (nI (n)), .ref (md 2), .int (nI (len)), .int (nI (p)), .int (nI (le)), .ref (md 3), .ref (md 4)]))], [((md 1), .inl (T 0, 1872, .inl (σ)))]] H → va_D A ([[((md 0), .inr (6, [.ref (md 1), .int (nI (n)), .ref (md 2), .int (nI (len)), .int (nI (p)), .int (nI (le)), .ref (md 3), .ref (md 4)]))], [((md 1), .inl (T 0, 1872, .inl (σ)))]] : List va_W).flatten → va_S A s.heap H locs → ∀ (ls : Array Slot), lv_has ls 5 [(4, .int (nI ((i + k9)))), (3, .int (sumI (pwM σ i) k9)), (0, .ref (md 0)), (1, .int (nI (i))), (2, .int (nI (j)))] → W pP l eE ({ frames := 1, cells := 0, slots := 0, locals := 21 }) s mM ([.ref (md 0), .int (nI (i)), .int (nI (j))] : List Value).toArray bW mE cC H locs 0 0 (MQ bW (QcI D [[((md 0), .inr (6, [.ref (md 1), .int (nI (n)), .ref (md 2), .int (nI (len)), .int (nI (p)), .int (nI (le)), .ref (md 3), .ref (md 4)]))], [((md 1), .inl (T 0, 1872, .inl (σ)))]] (sumI (pwM σ i) (j - i)) A) ([.ref (md 0), .int (nI (i)), .int (nI (j))] : List Value).toArray s 0 0 A) (F0 mM 5 ls []) := by
    intro n9
    induction n9 with
    | zero => intro k9 h1 h2; exact absurd h2 (by omega)
    | succ n9 ih =>
      intro k9 hk1 hk2 H locs hP hD hS ls hl
      have hw9 := hww (i + k9)
      refine lv_iload hx hb dX6_poisonedWords_5 (lv_at hl 0 rfl) ?_
      refine lv_iload_n hx hb dX6_poisonedWords_7 rfl (lv_at hl 4 rfl) ?_
      refine fr_icmp_ge ((i + k9)) (j) (by omega) (by omega) (tgt := 38) hx hb dX6_poisonedWords_8 (by decide) (fun c_1 => ?_) (fun c_1 => ?_)
      · have c_1' := Nat.not_lt.mpr c_1
        refine lv_iload_n hx hb dX6_poisonedWords_38 rfl (lv_at hl 1 rfl) ?_
        exact fr_iret hx hb hr hlk hP hS (by rw [show j - i = k9 from by omega]) rfl dX6_poisonedWords_39
      · have c_1' := Nat.not_le.mpr c_1
        refine lv_iload_n hx hb dX6_poisonedWords_11 rfl (lv_at hl 1 rfl) ?_
        refine lv_aload_n hx hb dX6_poisonedWords_12 rfl (lv_at hl 2 rfl) ?_
        refine lv_iconst (v := nI 0) hx hb dX6_poisonedWords_13 (by decide) ?_
        refine lv_iload hx hb dX6_poisonedWords_14 (lv_at hl 0 rfl) ?_
        refine fr_S0 (As := [.int (nI 0), .int (nI ((i + k9)))]) (rest := [.ref (md 0), .int (sumI (pwM σ i) k9)]) ⟨hx, hb, hml, hown, hts⟩ (kX6_wordAt l D T Z 0 (i + k9)) (va_cwS 2 hts gX6_poisonedWords_X6_wordAt rfl rfl rfl (by decide +kernel) ⟨Nat.le_of_ble_eq_true rfl, Nat.le_of_ble_eq_true rfl⟩) hK hN hM hP hD hS hA rfl hl.1 rfl (Nat.le_of_ble_eq_true rfl) dX6_poisonedWords_16 ⟨Nat.zero_le _, Nat.zero_le _⟩ (fun H locs hP hD hS => ?_)
        refine fr_Vi (As := [.int (nI (wdt 0 (i + k9)))]) (rest := [.int (sumI (pwM σ i) k9)]) (fs' := [[((md 0), .inr (6, [.ref (md 1), .int (nI (n)), .ref (md 2), .int (nI (len)), .int (nI (p)), .int (nI (le)), .ref (md 3), .ref (md 4)]))], [((md 1), .inl (T 0, 1872, .inl (σ)))]]) (ci := 6) (q0 := (RX6, TX6, 8)) (i0 := 0) ⟨hx, hb, hml, hown, hts⟩ (kX6_isPoisoned l D T Z md n len p le σ (wdt 0 (i + k9)) (by omega)) (cwV 1 hts gX6_poisonedWords_X6_isPoisoned rfl rfl rfl (by decide +kernel) ⟨Nat.le_of_ble_eq_true rfl, Nat.le_of_ble_eq_true rfl⟩) hK hN hM hP hD hS hA [0, 1] rfl rfl rfl rfl rfl rfl hl.1 rfl (Nat.le_of_ble_eq_true rfl) dX6_poisonedWords_19 ⟨Nat.zero_le _, Nat.zero_le _⟩ (fun H locs hP hD hS => ?_)
        refine fr_ifeq_b (tgt := 29) hx hb dX6_poisonedWords_22 (by decide) (fun c_2 => ?_) (fun c_2 => ?_)
        · refine lv_iconst (v := nI 0) hx hb dX6_poisonedWords_29 (by decide) ?_
          refine lv_iadd hx hb dX6_poisonedWords_30 ?_
          refine lv_istore_n (lv' := [(3, .int ((sumI (pwM σ i) k9) + (nI 0))), (4, .int (nI ((i + k9)))), (0, .ref (md 0)), (1, .int (nI (i))), (2, .int (nI (j)))]) hx hb dX6_poisonedWords_31 rfl hl (by decide) rfl (fun ls hl => ?_)
          refine fr_iinc ((i + k9)) (((i + k9) + 1)) (nI_inc _) (lv' := [(4, .int (nI (((i + k9) + 1)))), (3, .int ((sumI (pwM σ i) k9) + (nI 0))), (0, .ref (md 0)), (1, .int (nI (i))), (2, .int (nI (j)))]) (k := 1) hx hb dX6_poisonedWords_32 hl rfl (by decide) rfl (fun ls hl => ?_)
          refine lv_goto (tgt := 5) hx hb dX6_poisonedWords_35 (by decide) ?_
          have q_3 : (nI (((i + k9) + 1)) : Int32) = nI ((i + (k9 + 1))) := (by first | contradiction | with_reducible rfl | (simp only [sumI, pwM, c_1, c_1', c_2, ↓reduceIte, Bool.false_eq_true, bI_true, bI_false, Bool.true_and, Bool.and_true, Bool.and_false, Bool.false_and, Bool.not_true, Bool.not_false, Bool.or_true, Bool.true_or, Bool.or_false, Bool.false_or] <;> with_reducible rfl) | (simp only [sumI, pwM, c_1, c_1', c_2, ↓reduceIte, Bool.false_eq_true, bI_true, bI_false, Bool.true_and, Bool.and_true, Bool.and_false, Bool.false_and, Bool.not_true, Bool.not_false, Bool.or_true, Bool.true_or, Bool.or_false, Bool.false_or] <;> rfl) | rfl | (simp [sumI, pwM, c_1, c_1', c_2]; done))
          rw [q_3] at hl
          have q_4 : ((sumI (pwM σ i) k9) + (nI 0) : Int32) = sumI (pwM σ i) (k9 + 1) := (by first | contradiction | with_reducible rfl | (simp only [sumI, pwM, c_1, c_1', c_2, ↓reduceIte, Bool.false_eq_true, bI_true, bI_false, Bool.true_and, Bool.and_true, Bool.and_false, Bool.false_and, Bool.not_true, Bool.not_false, Bool.or_true, Bool.true_or, Bool.or_false, Bool.false_or] <;> with_reducible rfl) | (simp only [sumI, pwM, c_1, c_1', c_2, ↓reduceIte, Bool.false_eq_true, bI_true, bI_false, Bool.true_and, Bool.and_true, Bool.and_false, Bool.false_and, Bool.not_true, Bool.not_false, Bool.or_true, Bool.true_or, Bool.or_false, Bool.false_or] <;> rfl) | rfl | (simp [sumI, pwM, c_1, c_1', c_2]; done))
          rw [q_4] at hl
          exact ih  ((k9 + 1)) (by omega) (by omega) H locs hP hD hS ls (lv_sub hl [0, 1, 2, 3, 4] rfl)
        · refine lv_iconst (v := nI 1) hx hb dX6_poisonedWords_25 (by decide) ?_
          refine lv_goto (tgt := 30) hx hb dX6_poisonedWords_26 (by decide) ?_
          refine lv_iadd hx hb dX6_poisonedWords_30 ?_
          refine lv_istore_n (lv' := [(3, .int ((sumI (pwM σ i) k9) + (nI 1))), (4, .int (nI ((i + k9)))), (0, .ref (md 0)), (1, .int (nI (i))), (2, .int (nI (j)))]) hx hb dX6_poisonedWords_31 rfl hl (by decide) rfl (fun ls hl => ?_)
          refine fr_iinc ((i + k9)) (((i + k9) + 1)) (nI_inc _) (lv' := [(4, .int (nI (((i + k9) + 1)))), (3, .int ((sumI (pwM σ i) k9) + (nI 1))), (0, .ref (md 0)), (1, .int (nI (i))), (2, .int (nI (j)))]) (k := 1) hx hb dX6_poisonedWords_32 hl rfl (by decide) rfl (fun ls hl => ?_)
          refine lv_goto (tgt := 5) hx hb dX6_poisonedWords_35 (by decide) ?_
          have q_5 : (nI (((i + k9) + 1)) : Int32) = nI ((i + (k9 + 1))) := (by first | contradiction | with_reducible rfl | (simp only [sumI, pwM, c_1, c_1', c_2, ↓reduceIte, Bool.false_eq_true, bI_true, bI_false, Bool.true_and, Bool.and_true, Bool.and_false, Bool.false_and, Bool.not_true, Bool.not_false, Bool.or_true, Bool.true_or, Bool.or_false, Bool.false_or] <;> with_reducible rfl) | (simp only [sumI, pwM, c_1, c_1', c_2, ↓reduceIte, Bool.false_eq_true, bI_true, bI_false, Bool.true_and, Bool.and_true, Bool.and_false, Bool.false_and, Bool.not_true, Bool.not_false, Bool.or_true, Bool.true_or, Bool.or_false, Bool.false_or] <;> rfl) | rfl | (simp [sumI, pwM, c_1, c_1', c_2]; done))
          rw [q_5] at hl
          have q_6 : ((sumI (pwM σ i) k9) + (nI 1) : Int32) = sumI (pwM σ i) (k9 + 1) := (by first | contradiction | with_reducible rfl | (simp only [sumI, pwM, c_1, c_1', c_2, ↓reduceIte, Bool.false_eq_true, bI_true, bI_false, Bool.true_and, Bool.and_true, Bool.and_false, Bool.false_and, Bool.not_true, Bool.not_false, Bool.or_true, Bool.true_or, Bool.or_false, Bool.false_or] <;> with_reducible rfl) | (simp only [sumI, pwM, c_1, c_1', c_2, ↓reduceIte, Bool.false_eq_true, bI_true, bI_false, Bool.true_and, Bool.and_true, Bool.and_false, Bool.false_and, Bool.not_true, Bool.not_false, Bool.or_true, Bool.true_or, Bool.or_false, Bool.false_or] <;> rfl) | rfl | (simp [sumI, pwM, c_1, c_1', c_2]; done))
          rw [q_6] at hl
          exact ih  ((k9 + 1)) (by omega) (by omega) H locs hP hD hS ls (lv_sub hl [0, 1, 2, 3, 4] rfl)
  have q_7 : (nI (i) : Int32) = nI ((i + 0)) := (by first | contradiction | with_reducible rfl | (simp only [sumI, pwM, ↓reduceIte, Bool.false_eq_true, bI_true, bI_false, Bool.true_and, Bool.and_true, Bool.and_false, Bool.false_and, Bool.not_true, Bool.not_false, Bool.or_true, Bool.true_or, Bool.or_false, Bool.false_or] <;> with_reducible rfl) | (simp only [sumI, pwM, ↓reduceIte, Bool.false_eq_true, bI_true, bI_false, Bool.true_and, Bool.and_true, Bool.and_false, Bool.false_and, Bool.not_true, Bool.not_false, Bool.or_true, Bool.true_or, Bool.or_false, Bool.false_or] <;> rfl) | rfl | (simp [sumI, pwM]; done))
  rw [q_7] at hl
  have q_8 : (nI 0 : Int32) = sumI (pwM σ i) 0 := (by first | contradiction | with_reducible rfl | (simp only [sumI, pwM, ↓reduceIte, Bool.false_eq_true, bI_true, bI_false, Bool.true_and, Bool.and_true, Bool.and_false, Bool.false_and, Bool.not_true, Bool.not_false, Bool.or_true, Bool.true_or, Bool.or_false, Bool.false_or] <;> with_reducible rfl) | (simp only [sumI, pwM, ↓reduceIte, Bool.false_eq_true, bI_true, bI_false, Bool.true_and, Bool.and_true, Bool.and_false, Bool.false_and, Bool.not_true, Bool.not_false, Bool.or_true, Bool.true_or, Bool.or_false, Bool.false_or] <;> rfl) | rfl | (simp [sumI, pwM]; done))
  rw [q_8] at hl
  exact loop5 ((j - i) + 1) (0) (by omega) (by omega) _ _ hP hD hS ls (lv_sub hl [0, 1, 2, 3, 4] rfl)
