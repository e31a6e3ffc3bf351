
set_option maxHeartbeats 8000000 in
set_option maxRecDepth 100000 in
theorem kX6_poisonedWords (l : Launch) (D : va_G) (T : Nat → ClassId) (Z : ZZ) (md : Nat → Nat) (n : Nat) (len : Nat) (p : Nat) (le : Nat) (σ : MS) (i : Nat) (j : Nat) (hij : i ≤ j) (hj : j ≤ 32) : CtI l D T Z yX6_poisonedWords wsX6_poisonedWords ({ frames := 1, cells := 0, slots := 0, locals := 21 }) [[((md 0), .inr (6, [.ref (md 1), .int (nI (n)), .ref (md 2), .int (nI (len)), .int (nI (p)), .int (nI (le)), .ref (md 3), .ref (md 4)]))], [((md 1), .inl (T 0, 1872, .inl (σ)))]] [.ref (md 0), .int (nI (i)), .int (nI (j))] (sumI (pwM σ i) (j - i)) [[((md 0), .inr (6, [.ref (md 1), .int (nI (n)), .ref (md 2), .int (nI (len)), .int (nI (p)), .int (nI (le)), .ref (md 3), .ref (md 4)]))], [((md 1), .inl (T 0, 1872, .inl (σ)))]] := by
  have hww : ∀ w : Nat, wdt 0 w = 0 + 3 * w := fun _ => rfl
  refine CtI.of (cc := cX6_poisonedWords) (maxL := 5) (ret := (some .int)) (plainFor_of_name (by decide)) rfl rfl ?_
  intro pP eE s mM bW mE cC A hE hK hN hM hP hD hA
  obtain ⟨hx, hb, hr, hts, hown, hml, hlk⟩ := hE
  have hown : s.vm.findClass RX6 = some mM.cls := hown
  have hS : va_S A s.heap s.heap [] := va_S.rf
  have hl := lv_entry ([.ref (md 0), .int (nI (i)), .int (nI (j))]) (n := 5) (Nat.le_of_ble_eq_true rfl)
  rw [lg_entry_eq]
  generalize (lg_sl ([.ref (md 0), .int (nI (i)), .int (nI (j))]) ++ List.replicate (5 - (lg_sl ([.ref (md 0), .int (nI (i)), .int (nI (j))])).length) Slot.unset).toArray = ls at hl ⊢
  have hl : lv_has ls 5 [(0, .ref (md 0)), (1, .int (nI (i))), (2, .int (nI (j)))] := hl
  refine lv_iconst (v := nI 0) hx hb dX6_poisonedWords_0 (by decide) ?_
  refine lv_istore_n (lv' := [(3, .int (nI 0)), (0, .ref (md 0)), (1, .int (nI (i))), (2, .int (nI (j)))]) hx hb dX6_poisonedWords_1 rfl hl (by decide) rfl (fun ls hl => ?_)
  refine lv_iload_n hx hb dX6_poisonedWords_2 rfl (lv_at hl 2 rfl) ?_
  refine lv_istore (lv' := [(4, .int (nI (i))), (3, .int (nI 0)), (0, .ref (md 0)), (1, .int (nI (i))), (2, .int (nI (j)))]) hx hb dX6_poisonedWords_3 hl (by decide) rfl (fun ls hl => ?_)
  have loop5 : ∀ (n9 k9 : Nat), k9 ≤ (j - i) → (j - i) < k9 + n9 → ∀ (H : Heap) (locs : List Loc), frP D [[((md 0), .inr (6, [.ref (md 1), .int (nI (n)), .ref (md 2), .int (nI (len)), .int (nI (p)), .int (nI (le)), .ref (md 3), .ref (md 4)]))], [((md 1), .inl (T 0, 1872, .inl (σ)))]] H → va_D A ([[((md 0), .inr (6, [.ref (md 1), .int (nI (n)), .ref (md 2), .int (nI (len)), .int (nI (p)), .int (nI (le)), .ref (md 3), .ref (md 4)]))], [((md 1), .inl (T 0, 1872, .inl (σ)))]] : List va_W).flatten → va_S A s.heap H locs → ∀ (ls : Array Slot), lv_has ls 5 [(4, .int (nI ((i + k9)))), (3, .int (sumI (pwM σ i) k9)), (0, .ref (md 0)), (1, .int (nI (i))), (2, .int (nI (j)))] → W pP l eE ({ frames := 1, cells := 0, slots := 0, locals := 21 }) s mM ([.ref (md 0), .int (nI (i)), .int (nI (j))] : List Value).toArray bW mE cC H locs 0 0 (MQ bW (QcI D [[((md 0), .inr (6, [.ref (md 1), .int (nI (n)), .ref (md 2), .int (nI (len)), .int (nI (p)), .int (nI (le)), .ref (md 3), .ref (md 4)]))], [((md 1), .inl (T 0, 1872, .inl (σ)))]] (sumI (pwM σ i) (j - i)) A) ([.ref (md 0), .int (nI (i)), .int (nI (j))] : List Value).toArray s 0 0 A) (F0 mM 5 ls []) := by
    intro n9
    induction n9 with
    | zero => intro k9 h1 h2; exact absurd h2 (by omega)
    | succ n9 ih =>
      intro k9 hk1 hk2 H locs hP hD hS ls hl
      have hw9 := hww (i + k9)
      refine lv_iload hx hb dX6_poisonedWords_5 (lv_at hl 0 rfl) ?_
      refine lv_iload_n hx hb dX6_poisonedWords_7 rfl (lv_at hl 4 rfl) ?_
      refine fr_icmp_ge ((i + k9)) (j) (by omega) (by omega) (tgt := 38) hx hb dX6_poisonedWords_8 (by decide) (fun c_1 => ?_) (fun c_1 => ?_)
      · have c_1' := Nat.not_lt.mpr c_1
        refine lv_iload_n hx hb dX6_poisonedWords_38 rfl (lv_at hl 1 rfl) ?_
        exact fr_iret hx hb hr hlk hP hS (by rw [show j - i = k9 from by omega]) rfl dX6_poisonedWords_39
      · have c_1' := Nat.not_le.mpr c_1
        refine lv_iload_n hx hb dX6_poisonedWords_11 rfl (lv_at hl 1 rfl) ?_
        refine lv_aload_n hx hb dX6_poisonedWords_12 rfl (lv_at hl 2 rfl) ?_
        refine lv_iconst (v := nI 0) hx hb dX6_poisonedWords_13 (by decide) ?_
        refine lv_iload hx hb dX6_poisonedWords_14 (lv_at hl 0 rfl) ?_
        refine fr_S0 (As := [.int (nI 0), .int (nI ((i + k9)))]) (rest := [.ref (md 0), .int (sumI (pwM σ i) k9)]) ⟨hx, hb, hml, hown, hts⟩ (kX6_wordAt l D T Z 0 (i + k9)) (va_cwS 2 hts gX6_poisonedWords_X6_wordAt rfl rfl rfl (by decide +kernel) ⟨Nat.le_of_ble_eq_true rfl, Nat.le_of_ble_eq_true rfl⟩) hK hN hM hP hD hS hA rfl hl.1 rfl (Nat.le_of_ble_eq_true rfl) dX6_poisonedWords_16 ⟨Nat.zero_le _, Nat.zero_le _⟩ (fun H locs hP hD hS => ?_)
        refine fr_Vi (As := [.int (nI (wdt 0 (i + k9)))]) (rest := [.int (sumI (pwM σ i) k9)]) (fs' := [[((md 0), .inr (6, [.ref (md 1), .int (nI (n)), .ref (md 2), .int (nI (len)), .int (nI (p)), .int (nI (le)), .ref (md 3), .ref (md 4)]))], [((md 1), .inl (T 0, 1872, .inl (σ)))]]) (ci := 6) (q0 := (RX6, TX6, 8)) (i0 := 0) ⟨hx, hb, hml, hown, hts⟩ (kX6_isPoisoned l D T Z md n len p le σ (wdt 0 (i + k9)) (by omega)) (cwV 1 hts gX6_poisonedWords_X6_isPoisoned rfl rfl rfl (by decide +kernel) ⟨Nat.le_of_ble_eq_true rfl, Nat.le_of_ble_eq_true rfl⟩) hK hN hM hP hD hS hA [0, 1] rfl rfl rfl rfl rfl rfl hl.1 rfl (Nat.le_of_ble_eq_true rfl) dX6_poisonedWords_19 ⟨Nat.zero_le _, Nat.zero_le _⟩ (fun H locs hP hD hS => ?_)
        refine fr_ifeq_b (tgt := 29) hx hb dX6_poisonedWords_22 (by decide) (fun c_2 => ?_) (fun c_2 => ?_)
        · refine lv_iconst (v := nI 0) hx hb dX6_poisonedWords_29 (by decide) ?_
          refine lv_iadd hx hb dX6_poisonedWords_30 ?_
          refine lv_istore_n (lv' := [(3, .int ((sumI (pwM σ i) k9) + (nI 0))), (4, .int (nI ((i + k9)))), (0, .ref (md 0)), (1, .int (nI (i))), (2, .int (nI (j)))]) hx hb dX6_poisonedWords_31 rfl hl (by decide) rfl (fun ls hl => ?_)
          refine fr_iinc ((i + k9)) (((i + k9) + 1)) (nI_inc _) (lv' := [(4, .int (nI (((i + k9) + 1)))), (3, .int ((sumI (pwM σ i) k9) + (nI 0))), (0, .ref (md 0)), (1, .int (nI (i))), (2, .int (nI (j)))]) (k := 1) hx hb dX6_poisonedWords_32 hl rfl (by decide) rfl (fun ls hl => ?_)
          refine lv_goto (tgt := 5) hx hb dX6_poisonedWords_35 (by decide) ?_
          have q_3 : (nI (((i + k9) + 1)) : Int32) = nI ((i + (k9 + 1))) := (by first | rfl | (simp only [sumI, pwM, c_1, c_1', c_2, ↓reduceIte, Bool.false_eq_true, bI_true, bI_false, Bool.true_and, Bool.and_true, Bool.and_false, Bool.false_and, Bool.not_true, Bool.not_false, Bool.or_true, Bool.true_or, Bool.or_false, Bool.false_or] <;> rfl) | (simp [sumI, pwM, c_1, c_1', c_2]; done))
          rw [q_3] at hl
          have q_4 : ((sumI (pwM σ i) k9) + (nI 0) : Int32) = sumI (pwM σ i) (k9 + 1) := (by first | rfl | (simp only [sumI, pwM, c_1, c_1', c_2, ↓reduceIte, Bool.false_eq_true, bI_true, bI_false, Bool.true_and, Bool.and_true, Bool.and_false, Bool.false_and, Bool.not_true, Bool.not_false, Bool.or_true, Bool.true_or, Bool.or_false, Bool.false_or] <;> rfl) | (simp [sumI, pwM, c_1, c_1', c_2]; done))
          rw [q_4] at hl
          exact ih  ((k9 + 1)) (by omega) (by omega) H locs hP hD hS ls (lv_sub hl [0, 1, 2, 3, 4] rfl)
        · refine lv_iconst (v := nI 1) hx hb dX6_poisonedWords_25 (by decide) ?_
          refine lv_goto (tgt := 30) hx hb dX6_poisonedWords_26 (by decide) ?_
          refine lv_iadd hx hb dX6_poisonedWords_30 ?_
          refine lv_istore_n (lv' := [(3, .int ((sumI (pwM σ i) k9) + (nI 1))), (4, .int (nI ((i + k9)))), (0, .ref (md 0)), (1, .int (nI (i))), (2, .int (nI (j)))]) hx hb dX6_poisonedWords_31 rfl hl (by decide) rfl (fun ls hl => ?_)
          refine fr_iinc ((i + k9)) (((i + k9) + 1)) (nI_inc _) (lv' := [(4, .int (nI (((i + k9) + 1)))), (3, .int ((sumI (pwM σ i) k9) + (nI 1))), (0, .ref (md 0)), (1, .int (nI (i))), (2, .int (nI (j)))]) (k := 1) hx hb dX6_poisonedWords_32 hl rfl (by decide) rfl (fun ls hl => ?_)
          refine lv_goto (tgt := 5) hx hb dX6_poisonedWords_35 (by decide) ?_
          have q_5 : (nI (((i + k9) + 1)) : Int32) = nI ((i + (k9 + 1))) := (by first | rfl | (simp only [sumI, pwM, c_1, c_1', c_2, ↓reduceIte, Bool.false_eq_true, bI_true, bI_false, Bool.true_and, Bool.and_true, Bool.and_false, Bool.false_and, Bool.not_true, Bool.not_false, Bool.or_true, Bool.true_or, Bool.or_false, Bool.false_or] <;> rfl) | (simp [sumI, pwM, c_1, c_1', c_2]; done))
          rw [q_5] at hl
          have q_6 : ((sumI (pwM σ i) k9) + (nI 1) : Int32) = sumI (pwM σ i) (k9 + 1) := (by first | rfl | (simp only [sumI, pwM, c_1, c_1', c_2, ↓reduceIte, Bool.false_eq_true, bI_true, bI_false, Bool.true_and, Bool.and_true, Bool.and_false, Bool.false_and, Bool.not_true, Bool.not_false, Bool.or_true, Bool.true_or, Bool.or_false, Bool.false_or] <;> rfl) | (simp [sumI, pwM, c_1, c_1', c_2]; done))
          rw [q_6] at hl
          exact ih  ((k9 + 1)) (by omega) (by omega) H locs hP hD hS ls (lv_sub hl [0, 1, 2, 3, 4] rfl)
  have q_7 : (nI (i) : Int32) = nI ((i + 0)) := (by first | rfl | (simp only [sumI, pwM, ↓reduceIte, Bool.false_eq_true, bI_true, bI_false, Bool.true_and, Bool.and_true, Bool.and_false, Bool.false_and, Bool.not_true, Bool.not_false, Bool.or_true, Bool.true_or, Bool.or_false, Bool.false_or] <;> rfl) | (simp [sumI, pwM]; done))
  rw [q_7] at hl
  have q_8 : (nI 0 : Int32) = sumI (pwM σ i) 0 := (by first | rfl | (simp only [sumI, pwM, ↓reduceIte, Bool.false_eq_true, bI_true, bI_false, Bool.true_and, Bool.and_true, Bool.and_false, Bool.false_and, Bool.not_true, Bool.not_false, Bool.or_true, Bool.true_or, Bool.or_false, Bool.false_or] <;> rfl) | (simp [sumI, pwM]; done))
  rw [q_8] at hl
  exact loop5 ((j - i) + 1) (0) (by omega) (by omega) _ _ hP hD hS ls (lv_sub hl [0, 1, 2, 3, 4] rfl)

set_option maxHeartbeats 8000000 in
set_option maxRecDepth 100000 in
theorem kX6_healable (l : Launch) (D : va_G) (T : Nat → ClassId) (Z : ZZ) (md : Nat → Nat) (n : Nat) (len : Nat) (p : Nat) (le : Nat) (σ : MS) (i : Nat) (j : Nat) (hij : i ≤ j) (hj : j ≤ 32) : CtI l D T Z yX6_healable wsX6_healable ({ frames := 2, cells := 0, slots := 0, locals := 44 }) [[((md 0), .inr (6, [.ref (md 1), .int (nI (n)), .ref (md 2), .int (nI (len)), .int (nI (p)), .int (nI (le)), .ref (md 3), .ref (md 4)]))], [((md 1), .inl (T 0, 1872, .inl (σ)))]] [.ref (md 0), .int (nI (i)), .int (nI (j))] (sumI (heM σ i) (j - i)) [[((md 0), .inr (6, [.ref (md 1), .int (nI (n)), .ref (md 2), .int (nI (len)), .int (nI (p)), .int (nI (le)), .ref (md 3), .ref (md 4)]))], [((md 1), .inl (T 0, 1872, .inl (σ)))]] := by
  refine CtI.of (cc := cX6_healable) (maxL := 5) (ret := (some .int)) (plainFor_of_name (by decide)) rfl rfl ?_
  intro pP eE s mM bW mE cC A hE hK hN hM hP hD hA
  obtain ⟨hx, hb, hr, hts, hown, hml, hlk⟩ := hE
  have hown : s.vm.findClass RX6 = some mM.cls := hown
  have hS : va_S A s.heap s.heap [] := va_S.rf
  have hl := lv_entry ([.ref (md 0), .int (nI (i)), .int (nI (j))]) (n := 5) (Nat.le_of_ble_eq_true rfl)
  rw [lg_entry_eq]
  generalize (lg_sl ([.ref (md 0), .int (nI (i)), .int (nI (j))]) ++ List.replicate (5 - (lg_sl ([.ref (md 0), .int (nI (i)), .int (nI (j))])).length) Slot.unset).toArray = ls at hl ⊢
  have hl : lv_has ls 5 [(0, .ref (md 0)), (1, .int (nI (i))), (2, .int (nI (j)))] := hl
  refine lv_iconst (v := nI 0) hx hb dX6_healable_0 (by decide) ?_
  refine lv_istore_n (lv' := [(3, .int (nI 0)), (0, .ref (md 0)), (1, .int (nI (i))), (2, .int (nI (j)))]) hx hb dX6_healable_1 rfl hl (by decide) rfl (fun ls hl => ?_)
  refine lv_iload_n hx hb dX6_healable_2 rfl (lv_at hl 2 rfl) ?_
  refine lv_istore (lv' := [(4, .int (nI (i))), (3, .int (nI 0)), (0, .ref (md 0)), (1, .int (nI (i))), (2, .int (nI (j)))]) hx hb dX6_healable_3 hl (by decide) rfl (fun ls hl => ?_)
  have loop5 : ∀ (n9 k9 : Nat), k9 ≤ (j - i) → (j - i) < k9 + n9 → ∀ (H : Heap) (locs : List Loc), frP D [[((md 0), .inr (6, [.ref (md 1), .int (nI (n)), .ref (md 2), .int (nI (len)), .int (nI (p)), .int (nI (le)), .ref (md 3), .ref (md 4)]))], [((md 1), .inl (T 0, 1872, .inl (σ)))]] H → va_D A ([[((md 0), .inr (6, [.ref (md 1), .int (nI (n)), .ref (md 2), .int (nI (len)), .int (nI (p)), .int (nI (le)), .ref (md 3), .ref (md 4)]))], [((md 1), .inl (T 0, 1872, .inl (σ)))]] : List va_W).flatten → va_S A s.heap H locs → ∀ (ls : Array Slot), lv_has ls 5 [(4, .int (nI ((i + k9)))), (3, .int (sumI (heM σ i) k9)), (0, .ref (md 0)), (1, .int (nI (i))), (2, .int (nI (j)))] → W pP l eE ({ frames := 2, cells := 0, slots := 0, locals := 44 }) s mM ([.ref (md 0), .int (nI (i)), .int (nI (j))] : List Value).toArray bW mE cC H locs 0 0 (MQ bW (QcI D [[((md 0), .inr (6, [.ref (md 1), .int (nI (n)), .ref (md 2), .int (nI (len)), .int (nI (p)), .int (nI (le)), .ref (md 3), .ref (md 4)]))], [((md 1), .inl (T 0, 1872, .inl (σ)))]] (sumI (heM σ i) (j - i)) A) ([.ref (md 0), .int (nI (i)), .int (nI (j))] : List Value).toArray s 0 0 A) (F0 mM 5 ls []) := by
    intro n9
    induction n9 with
    | zero => intro k9 h1 h2; exact absurd h2 (by omega)
    | succ n9 ih =>
      intro k9 hk1 hk2 H locs hP hD hS ls hl
      refine lv_iload hx hb dX6_healable_5 (lv_at hl 0 rfl) ?_
      refine lv_iload_n hx hb dX6_healable_7 rfl (lv_at hl 4 rfl) ?_
      refine fr_icmp_ge ((i + k9)) (j) (by omega) (by omega) (tgt := 35) hx hb dX6_healable_8 (by decide) (fun c_1 => ?_) (fun c_1 => ?_)
      · have c_1' := Nat.not_lt.mpr c_1
        refine lv_iload_n hx hb dX6_healable_35 rfl (lv_at hl 1 rfl) ?_
        exact fr_iret hx hb hr hlk hP hS (by rw [show j - i = k9 from by omega]) rfl dX6_healable_36
      · have c_1' := Nat.not_le.mpr c_1
        refine lv_iload_n hx hb dX6_healable_11 rfl (lv_at hl 1 rfl) ?_
        refine lv_aload_n hx hb dX6_healable_12 rfl (lv_at hl 2 rfl) ?_
        refine lv_iconst (v := nI 0) hx hb dX6_healable_13 (by decide) ?_
        refine lv_iload hx hb dX6_healable_14 (lv_at hl 0 rfl) ?_
        refine fr_Vi (As := [.int (nI 0), .int (nI ((i + k9)))]) (rest := [.int (sumI (heM σ i) k9)]) (fs' := [[((md 0), .inr (6, [.ref (md 1), .int (nI (n)), .ref (md 2), .int (nI (len)), .int (nI (p)), .int (nI (le)), .ref (md 3), .ref (md 4)]))], [((md 1), .inl (T 0, 1872, .inl (σ)))]]) (ci := 6) (q0 := (RX6, TX6, 8)) (i0 := 0) ⟨hx, hb, hml, hown, hts⟩ (kX6_canHeal l D T Z md n len p le σ 0 (i + k9) (by decide) (by omega)) (cwV 2 hts gX6_healable_X6_canHeal rfl rfl rfl (by decide +kernel) ⟨Nat.le_of_ble_eq_true rfl, Nat.le_of_ble_eq_true rfl⟩) hK hN hM hP hD hS hA [0, 1] rfl rfl rfl rfl rfl rfl hl.1 rfl (Nat.le_of_ble_eq_true rfl) dX6_healable_16 ⟨Nat.zero_le _, Nat.zero_le _⟩ (fun H locs hP hD hS => ?_)
        refine fr_ifeq_b (tgt := 26) hx hb dX6_healable_19 (by decide) (fun c_2 => ?_) (fun c_2 => ?_)
        · refine lv_iconst (v := nI 0) hx hb dX6_healable_26 (by decide) ?_
          refine lv_iadd hx hb dX6_healable_27 ?_
          refine lv_istore_n (lv' := [(3, .int ((sumI (heM σ i) k9) + (nI 0))), (4, .int (nI ((i + k9)))), (0, .ref (md 0)), (1, .int (nI (i))), (2, .int (nI (j)))]) hx hb dX6_healable_28 rfl hl (by decide) rfl (fun ls hl => ?_)
          refine fr_iinc ((i + k9)) (((i + k9) + 1)) (nI_inc _) (lv' := [(4, .int (nI (((i + k9) + 1)))), (3, .int ((sumI (heM σ i) k9) + (nI 0))), (0, .ref (md 0)), (1, .int (nI (i))), (2, .int (nI (j)))]) (k := 1) hx hb dX6_healable_29 hl rfl (by decide) rfl (fun ls hl => ?_)
          refine lv_goto (tgt := 5) hx hb dX6_healable_32 (by decide) ?_
          have q_3 : (nI (((i + k9) + 1)) : Int32) = nI ((i + (k9 + 1))) := (by first | rfl | (simp only [sumI, heM, c_1, c_1', c_2, ↓reduceIte, Bool.false_eq_true, bI_true, bI_false, Bool.true_and, Bool.and_true, Bool.and_false, Bool.false_and, Bool.not_true, Bool.not_false, Bool.or_true, Bool.true_or, Bool.or_false, Bool.false_or] <;> rfl) | (simp [sumI, heM, c_1, c_1', c_2]; done))
          rw [q_3] at hl
          have q_4 : ((sumI (heM σ i) k9) + (nI 0) : Int32) = sumI (heM σ i) (k9 + 1) := (by first | rfl | (simp only [sumI, heM, c_1, c_1', c_2, ↓reduceIte, Bool.false_eq_true, bI_true, bI_false, Bool.true_and, Bool.and_true, Bool.and_false, Bool.false_and, Bool.not_true, Bool.not_false, Bool.or_true, Bool.true_or, Bool.or_false, Bool.false_or] <;> rfl) | (simp [sumI, heM, c_1, c_1', c_2]; done))
          rw [q_4] at hl
          exact ih  ((k9 + 1)) (by omega) (by omega) H locs hP hD hS ls (lv_sub hl [0, 1, 2, 3, 4] rfl)
        · refine lv_iconst (v := nI 1) hx hb dX6_healable_22 (by decide) ?_
          refine lv_goto (tgt := 27) hx hb dX6_healable_23 (by decide) ?_
          refine lv_iadd hx hb dX6_healable_27 ?_
          refine lv_istore_n (lv' := [(3, .int ((sumI (heM σ i) k9) + (nI 1))), (4, .int (nI ((i + k9)))), (0, .ref (md 0)), (1, .int (nI (i))), (2, .int (nI (j)))]) hx hb dX6_healable_28 rfl hl (by decide) rfl (fun ls hl => ?_)
          refine fr_iinc ((i + k9)) (((i + k9) + 1)) (nI_inc _) (lv' := [(4, .int (nI (((i + k9) + 1)))), (3, .int ((sumI (heM σ i) k9) + (nI 1))), (0, .ref (md 0)), (1, .int (nI (i))), (2, .int (nI (j)))]) (k := 1) hx hb dX6_healable_29 hl rfl (by decide) rfl (fun ls hl => ?_)
          refine lv_goto (tgt := 5) hx hb dX6_healable_32 (by decide) ?_
          have q_5 : (nI (((i + k9) + 1)) : Int32) = nI ((i + (k9 + 1))) := (by first | rfl | (simp only [sumI, heM, c_1, c_1', c_2, ↓reduceIte, Bool.false_eq_true, bI_true, bI_false, Bool.true_and, Bool.and_true, Bool.and_false, Bool.false_and, Bool.not_true, Bool.not_false, Bool.or_true, Bool.true_or, Bool.or_false, Bool.false_or] <;> rfl) | (simp [sumI, heM, c_1, c_1', c_2]; done))
          rw [q_5] at hl
          have q_6 : ((sumI (heM σ i) k9) + (nI 1) : Int32) = sumI (heM σ i) (k9 + 1) := (by first | rfl | (simp only [sumI, heM, c_1, c_1', c_2, ↓reduceIte, Bool.false_eq_true, bI_true, bI_false, Bool.true_and, Bool.and_true, Bool.and_false, Bool.false_and, Bool.not_true, Bool.not_false, Bool.or_true, Bool.true_or, Bool.or_false, Bool.false_or] <;> rfl) | (simp [sumI, heM, c_1, c_1', c_2]; done))
          rw [q_6] at hl
          exact ih  ((k9 + 1)) (by omega) (by omega) H locs hP hD hS ls (lv_sub hl [0, 1, 2, 3, 4] rfl)
  have q_7 : (nI (i) : Int32) = nI ((i + 0)) := (by first | rfl | (simp only [sumI, heM, ↓reduceIte, Bool.false_eq_true, bI_true, bI_false, Bool.true_and, Bool.and_true, Bool.and_false, Bool.false_and, Bool.not_true, Bool.not_false, Bool.or_true, Bool.true_or, Bool.or_false, Bool.false_or] <;> rfl) | (simp [sumI, heM]; done))
  rw [q_7] at hl
  have q_8 : (nI 0 : Int32) = sumI (heM σ i) 0 := (by first | rfl | (simp only [sumI, heM, ↓reduceIte, Bool.false_eq_true, bI_true, bI_false, Bool.true_and, Bool.and_true, Bool.and_false, Bool.false_and, Bool.not_true, Bool.not_false, Bool.or_true, Bool.true_or, Bool.or_false, Bool.false_or] <;> rfl) | (simp [sumI, heM]; done))
  rw [q_8] at hl
  exact loop5 ((j - i) + 1) (0) (by omega) (by omega) _ _ hP hD hS ls (lv_sub hl [0, 1, 2, 3, 4] rfl)

set_option maxHeartbeats 8000000 in
set_option maxRecDepth 100000 in
theorem kX6_poisoned (l : Launch) (D : va_G) (T : Nat → ClassId) (Z : ZZ) (md : Nat → Nat) (n : Nat) (len : Nat) (p : Nat) (le : Nat) (σ : MS) (x : Int32)  : CtI l D T Z yX6_poisoned wsX6_poisoned ({ frames := 2, cells := 0, slots := 0, locals := 45 }) [[((md 0), .inr (6, [.ref (md 1), .int (nI (n)), .ref (md 2), .int (nI (len)), .int (nI (p)), .int (nI (le)), .ref (md 3), .ref (md 4)]))], [((md 1), .inl (T 0, 1872, .inl (σ)))]] [.ref (md 0), .int (x)] (if iN x 8 then sumI (pwM σ (4 * tn x)) (4 * tn x + 4 - 4 * tn x) else -1) [[((md 0), .inr (6, [.ref (md 1), .int (nI (n)), .ref (md 2), .int (nI (len)), .int (nI (p)), .int (nI (le)), .ref (md 3), .ref (md 4)]))], [((md 1), .inl (T 0, 1872, .inl (σ)))]] := by
  refine CtI.of (cc := cX6_poisoned) (maxL := 2) (ret := (some .int)) (plainFor_of_name (by decide)) rfl rfl ?_
  intro pP eE s mM bW mE cC A hE hK hN hM hP hD hA
  obtain ⟨hx, hb, hr, hts, hown, hml, hlk⟩ := hE
  have hown : s.vm.findClass RX6 = some mM.cls := hown
  have hS : va_S A s.heap s.heap [] := va_S.rf
  have hl := lv_entry ([.ref (md 0), .int (x)]) (n := 2) (Nat.le_of_ble_eq_true rfl)
  rw [lg_entry_eq]
  generalize (lg_sl ([.ref (md 0), .int (x)]) ++ List.replicate (2 - (lg_sl ([.ref (md 0), .int (x)])).length) Slot.unset).toArray = ls at hl ⊢
  have hl : lv_has ls 2 [(0, .ref (md 0)), (1, .int (x))] := hl
  refine lv_iload_n hx hb dX6_poisoned_0 rfl (lv_at hl 1 rfl) ?_
  refine fr_S0 (As := [.int (x)]) (rest := []) ⟨hx, hb, hml, hown, hts⟩ (kX6_isPage l D T Z x) (va_cwS 1 hts gX6_poisoned_X6_isPage rfl rfl rfl (by decide +kernel) ⟨Nat.le_of_ble_eq_true rfl, Nat.le_of_ble_eq_true rfl⟩) hK hN hM hP hD hS hA rfl hl.1 rfl (Nat.le_of_ble_eq_true rfl) dX6_poisoned_1 ⟨Nat.zero_le _, Nat.zero_le _⟩ (fun H locs hP hD hS => ?_)
  refine fr_ifeq_b (tgt := 22) hx hb dX6_poisoned_4 (by decide) (fun c_1 => ?_) (fun c_1 => ?_)
  · refine lv_iconst (v := (-1)) hx hb dX6_poisoned_22 (by decide) ?_
    exact fr_iret hx hb hr hlk hP hS (by first | rfl | (simp only [c_1, ↓reduceIte, Bool.false_eq_true, bI_true, bI_false, Bool.true_and, Bool.and_true, Bool.and_false, Bool.false_and, Bool.not_true, Bool.not_false, Bool.or_true, Bool.true_or, Bool.or_false, Bool.false_or] <;> rfl) | (simp [c_1, bI]; done)) rfl dX6_poisoned_23
  · have e_2 := iN_eq c_1
    have e_2b := iN_lt c_1 (by decide)
    refine lv_aload_n hx hb dX6_poisoned_7 rfl (lv_at hl 0 rfl) ?_
    refine lv_iconst (v := nI 4) hx hb dX6_poisoned_8 (by decide) ?_
    refine lv_iload_n hx hb dX6_poisoned_9 rfl (lv_at hl 1 rfl) ?_
    refine fr_val e_2 ?_
    refine fr_imul (4) (tn x) hx hb dX6_poisoned_10 ?_
    refine lv_iconst (v := nI 4) hx hb dX6_poisoned_11 (by decide) ?_
    refine lv_iload_n hx hb dX6_poisoned_12 rfl (lv_at hl 1 rfl) ?_
    refine fr_val e_2 ?_
    refine fr_imul (4) (tn x) hx hb dX6_poisoned_13 ?_
    refine lv_iconst (v := nI 4) hx hb dX6_poisoned_14 (by decide) ?_
    refine fr_iadd ((4 * tn x)) (4) hx hb dX6_poisoned_15 ?_
    refine fr_Vi (As := [.int (nI ((4 * tn x))), .int (nI (((4 * tn x) + 4)))]) (rest := []) (fs' := [[((md 0), .inr (6, [.ref (md 1), .int (nI (n)), .ref (md 2), .int (nI (len)), .int (nI (p)), .int (nI (le)), .ref (md 3), .ref (md 4)]))], [((md 1), .inl (T 0, 1872, .inl (σ)))]]) (ci := 6) (q0 := (RX6, TX6, 8)) (i0 := 0) ⟨hx, hb, hml, hown, hts⟩ (kX6_poisonedWords l D T Z md n len p le σ (4 * tn x) ((4 * tn x) + 4) (by omega) (by omega)) (cwV 2 hts gX6_poisoned_X6_poisonedWords rfl rfl rfl (by decide +kernel) ⟨Nat.le_of_ble_eq_true rfl, Nat.le_of_ble_eq_true rfl⟩) hK hN hM hP hD hS hA [0, 1] rfl rfl rfl rfl rfl rfl hl.1 rfl (Nat.le_of_ble_eq_true rfl) dX6_poisoned_16 ⟨Nat.zero_le _, Nat.zero_le _⟩ (fun H locs hP hD hS => ?_)
    refine lv_goto (tgt := 23) hx hb dX6_poisoned_19 (by decide) ?_
    exact fr_iret hx hb hr hlk hP hS (by first | rfl | (simp only [c_1, ↓reduceIte, Bool.false_eq_true, bI_true, bI_false, Bool.true_and, Bool.and_true, Bool.and_false, Bool.false_and, Bool.not_true, Bool.not_false, Bool.or_true, Bool.true_or, Bool.or_false, Bool.false_or] <;> rfl) | (simp [c_1, bI]; done)) rfl dX6_poisoned_23

set_option maxHeartbeats 8000000 in
set_option maxRecDepth 100000 in
theorem kX6_carries (l : Launch) (D : va_G) (T : Nat → ClassId) (Z : ZZ) (md : Nat → Nat) (n : Nat) (len : Nat) (p : Nat) (le : Nat) (σ : MS) (k : Nat) (x : Int32) (hk : k < 240) : CtI l D T Z yX6_carries wsX6_carries ({ frames := 0, cells := 0, slots := 0, locals := 0 }) [[((md 0), .inr (6, [.ref (md 1), .int (nI (n)), .ref (md 2), .int (nI (len)), .int (nI (p)), .int (nI (le)), .ref (md 3), .ref (md 4)]))], [((md 1), .inl (T 0, 1872, .inl (σ)))]] [.ref (md 0), .int (nI (k)), .int (x)] (bI (crM σ x k)) [[((md 0), .inr (6, [.ref (md 1), .int (nI (n)), .ref (md 2), .int (nI (len)), .int (nI (p)), .int (nI (le)), .ref (md 3), .ref (md 4)]))], [((md 1), .inl (T 0, 1872, .inl (σ)))]] := by
  refine CtI.of (cc := cX6_carries) (maxL := 3) (ret := (some .boolean)) (plainFor_of_name (by decide)) rfl rfl ?_
  intro pP eE s mM bW mE cC A hE hK hN hM hP hD hA
  obtain ⟨hx, hb, hr, hts, hown, hml, hlk⟩ := hE
  have hown : s.vm.findClass RX6 = some mM.cls := hown
  have hS : va_S A s.heap s.heap [] := va_S.rf
  have hl := lv_entry ([.ref (md 0), .int (nI (k)), .int (x)]) (n := 3) (Nat.le_of_ble_eq_true rfl)
  rw [lg_entry_eq]
  generalize (lg_sl ([.ref (md 0), .int (nI (k)), .int (x)]) ++ List.replicate (3 - (lg_sl ([.ref (md 0), .int (nI (k)), .int (x)])).length) Slot.unset).toArray = ls at hl ⊢
  have hl : lv_has ls 3 [(0, .ref (md 0)), (1, .int (nI (k))), (2, .int (x))] := hl
  have w_7 := hts (.fieldLink RX6 7 "PoisonedMemoryModel" "s" "[I") (by decide +kernel)
  have hinX6 : ∀ w ∈ wsX60, w ∈ wsX6_carries := by decide +kernel
  refine lv_aload_n hx hb dX6_carries_0 rfl (lv_at hl 0 rfl) ?_
  refine va_get (D := D) (ci := 6) (v := .ref (md 1)) (C := RX6) (T := TX6) (N := 8) hx hb hts hinX6 hown hK (hP.at 0 rfl) 0 rfl rfl 0 (by decide) w_7 (fun _ h9 => h9) rfl dX6_carries_1 ?_
  refine lv_iload_n hx hb dX6_carries_4 rfl (lv_at hl 1 rfl) ?_
  refine lv_iconst (v := nI 1) hx hb dX6_carries_5 (by decide) ?_
  refine fr_iadd (k) (1) hx hb dX6_carries_6 ?_
  refine fr_iald hx hb hK hP 1 ((k + 1)) rfl (by omega) (by omega) dX6_carries_7 ?_
  refine lv_iload_n hx hb dX6_carries_8 rfl (lv_at hl 2 rfl) ?_
  refine lv_icmp_ne (tgt := 29) hx hb dX6_carries_9 (by decide) (fun c_1 => ?_) (fun c_1 => ?_)
  · refine lv_iconst (v := nI 0) hx hb dX6_carries_29 (by decide) ?_
    exact fr_zret hx hb hr hlk hP hS (by first | rfl | (simp only [crM, bI, decide_true, decide_false, c_1, ↓reduceIte, Bool.false_eq_true, bI_true, bI_false, Bool.true_and, Bool.and_true, Bool.and_false, Bool.false_and, Bool.not_true, Bool.not_false, Bool.or_true, Bool.true_or, Bool.or_false, Bool.false_or] <;> rfl) | (simp [crM, bI, decide_true, decide_false, c_1, bI]; done)) rfl rfl dX6_carries_30
  · refine lv_iload_n hx hb dX6_carries_12 rfl (lv_at hl 1 rfl) ?_
    refine lv_bipush (v := nI 96) hx hb dX6_carries_13 (by decide) ?_
    refine fr_icmp_lt (k) (96) (by omega) (by decide) (tgt := 25) hx hb dX6_carries_15 (by decide) (fun c_2 => ?_) (fun c_2 => ?_)
    · have c_2' := Nat.not_le.mpr c_2
      refine lv_iconst (v := nI 1) hx hb dX6_carries_25 (by decide) ?_
      refine lv_goto (tgt := 30) hx hb dX6_carries_26 (by decide) ?_
      exact fr_zret hx hb hr hlk hP hS (by first | rfl | (simp only [crM, bI, decide_true, decide_false, c_1, c_2, c_2', ↓reduceIte, Bool.false_eq_true, bI_true, bI_false, Bool.true_and, Bool.and_true, Bool.and_false, Bool.false_and, Bool.not_true, Bool.not_false, Bool.or_true, Bool.true_or, Bool.or_false, Bool.false_or] <;> rfl) | (simp [crM, bI, decide_true, decide_false, c_1, c_2, c_2', bI]; done)) rfl rfl dX6_carries_30
    · have c_2' := Nat.not_lt.mpr c_2
      refine lv_iload_n hx hb dX6_carries_18 rfl (lv_at hl 1 rfl) ?_
      refine lv_sipush (v := nI 192) hx hb dX6_carries_19 (by decide) ?_
      refine fr_icmp_lt (k) (192) (by omega) (by decide) (tgt := 29) hx hb dX6_carries_22 (by decide) (fun c_3 => ?_) (fun c_3 => ?_)
      · have c_3' := Nat.not_le.mpr c_3
        refine lv_iconst (v := nI 0) hx hb dX6_carries_29 (by decide) ?_
        exact fr_zret hx hb hr hlk hP hS (by first | rfl | (simp only [crM, bI, decide_true, decide_false, c_1, c_2, c_2', c_3, c_3', ↓reduceIte, Bool.false_eq_true, bI_true, bI_false, Bool.true_and, Bool.and_true, Bool.and_false, Bool.false_and, Bool.not_true, Bool.not_false, Bool.or_true, Bool.true_or, Bool.or_false, Bool.false_or] <;> rfl) | (simp [crM, bI, decide_true, decide_false, c_1, c_2, c_2', c_3, c_3', bI]; done)) rfl rfl dX6_carries_30
      · have c_3' := Nat.not_lt.mpr c_3
        refine lv_iconst (v := nI 1) hx hb dX6_carries_25 (by decide) ?_
        refine lv_goto (tgt := 30) hx hb dX6_carries_26 (by decide) ?_
        exact fr_zret hx hb hr hlk hP hS (by first | rfl | (simp only [crM, bI, decide_true, decide_false, c_1, c_2, c_2', c_3, c_3', ↓reduceIte, Bool.false_eq_true, bI_true, bI_false, Bool.true_and, Bool.and_true, Bool.and_false, Bool.false_and, Bool.not_true, Bool.not_false, Bool.or_true, Bool.true_or, Bool.or_false, Bool.false_or] <;> rfl) | (simp [crM, bI, decide_true, decide_false, c_1, c_2, c_2', c_3, c_3', bI]; done)) rfl rfl dX6_carries_30

set_option maxHeartbeats 8000000 in
set_option maxRecDepth 100000 in
theorem kX6_carriersOf (l : Launch) (D : va_G) (T : Nat → ClassId) (Z : ZZ) (md : Nat → Nat) (n : Nat) (len : Nat) (p : Nat) (le : Nat) (σ : MS) (x : Int32)  : CtI l D T Z yX6_carriersOf wsX6_carriersOf ({ frames := 1, cells := 0, slots := 0, locals := 22 }) [[((md 0), .inr (6, [.ref (md 1), .int (nI (n)), .ref (md 2), .int (nI (len)), .int (nI (p)), .int (nI (le)), .ref (md 3), .ref (md 4)]))], [((md 1), .inl (T 0, 1872, .inl (σ)))]] [.ref (md 0), .int (x)] (sumI (crG σ x) 80) [[((md 0), .inr (6, [.ref (md 1), .int (nI (n)), .ref (md 2), .int (nI (len)), .int (nI (p)), .int (nI (le)), .ref (md 3), .ref (md 4)]))], [((md 1), .inl (T 0, 1872, .inl (σ)))]] := by
  refine CtI.of (cc := cX6_carriersOf) (maxL := 4) (ret := (some .int)) (plainFor_of_name (by decide)) rfl rfl ?_
  intro pP eE s mM bW mE cC A hE hK hN hM hP hD hA
  obtain ⟨hx, hb, hr, hts, hown, hml, hlk⟩ := hE
  have hown : s.vm.findClass RX6 = some mM.cls := hown
  have hS : va_S A s.heap s.heap [] := va_S.rf
  have hl := lv_entry ([.ref (md 0), .int (x)]) (n := 4) (Nat.le_of_ble_eq_true rfl)
  rw [lg_entry_eq]
  generalize (lg_sl ([.ref (md 0), .int (x)]) ++ List.replicate (4 - (lg_sl ([.ref (md 0), .int (x)])).length) Slot.unset).toArray = ls at hl ⊢
  have hl : lv_has ls 4 [(0, .ref (md 0)), (1, .int (x))] := hl
  refine lv_iconst (v := nI 0) hx hb dX6_carriersOf_0 (by decide) ?_
  refine lv_istore_n (lv' := [(2, .int (nI 0)), (0, .ref (md 0)), (1, .int (x))]) hx hb dX6_carriersOf_1 rfl hl (by decide) rfl (fun ls hl => ?_)
  refine lv_iconst (v := nI 0) hx hb dX6_carriersOf_2 (by decide) ?_
  refine lv_istore_n (lv' := [(3, .int (nI 0)), (2, .int (nI 0)), (0, .ref (md 0)), (1, .int (x))]) hx hb dX6_carriersOf_3 rfl hl (by decide) rfl (fun ls hl => ?_)
  have loop4 : ∀ (n9 k9 : Nat), k9 ≤ 80 → 80 < k9 + n9 → ∀ (H : Heap) (locs : List Loc), frP D [[((md 0), .inr (6, [.ref (md 1), .int (nI (n)), .ref (md 2), .int (nI (len)), .int (nI (p)), .int (nI (le)), .ref (md 3), .ref (md 4)]))], [((md 1), .inl (T 0, 1872, .inl (σ)))]] H → va_D A ([[((md 0), .inr (6, [.ref (md 1), .int (nI (n)), .ref (md 2), .int (nI (len)), .int (nI (p)), .int (nI (le)), .ref (md 3), .ref (md 4)]))], [((md 1), .inl (T 0, 1872, .inl (σ)))]] : List va_W).flatten → va_S A s.heap H locs → ∀ (ls : Array Slot), lv_has ls 4 [(3, .int (nI ((3 * k9)))), (2, .int (sumI (crG σ x) k9)), (0, .ref (md 0)), (1, .int (x))] → W pP l eE ({ frames := 1, cells := 0, slots := 0, locals := 22 }) s mM ([.ref (md 0), .int (x)] : List Value).toArray bW mE cC H locs 0 0 (MQ bW (QcI D [[((md 0), .inr (6, [.ref (md 1), .int (nI (n)), .ref (md 2), .int (nI (len)), .int (nI (p)), .int (nI (le)), .ref (md 3), .ref (md 4)]))], [((md 1), .inl (T 0, 1872, .inl (σ)))]] (sumI (crG σ x) 80) A) ([.ref (md 0), .int (x)] : List Value).toArray s 0 0 A) (F0 mM 4 ls []) := by
    intro n9
    induction n9 with
    | zero => intro k9 h1 h2; exact absurd h2 (by omega)
    | succ n9 ih =>
      intro k9 hk1 hk2 H locs hP hD hS ls hl
      refine lv_iload_n hx hb dX6_carriersOf_4 rfl (lv_at hl 0 rfl) ?_
      refine lv_sipush (v := nI 240) hx hb dX6_carriersOf_5 (by decide) ?_
      refine fr_icmp_ge ((3 * k9)) (240) (by omega) (by decide) (tgt := 34) hx hb dX6_carriersOf_8 (by decide) (fun c_1 => ?_) (fun c_1 => ?_)
      · have c_1' := Nat.not_lt.mpr c_1
        refine lv_iload_n hx hb dX6_carriersOf_34 rfl (lv_at hl 1 rfl) ?_
        exact fr_iret hx hb hr hlk hP hS (by rw [show 80 = k9 from by omega]) rfl dX6_carriersOf_35
      · have c_1' := Nat.not_le.mpr c_1
        refine lv_iload_n hx hb dX6_carriersOf_11 rfl (lv_at hl 1 rfl) ?_
        refine lv_aload_n hx hb dX6_carriersOf_12 rfl (lv_at hl 2 rfl) ?_
        refine lv_iload_n hx hb dX6_carriersOf_13 rfl (lv_at hl 0 rfl) ?_
        refine lv_iload_n hx hb dX6_carriersOf_14 rfl (lv_at hl 3 rfl) ?_
        refine fr_Vi (As := [.int (nI ((3 * k9))), .int (x)]) (rest := [.int (sumI (crG σ x) k9)]) (fs' := [[((md 0), .inr (6, [.ref (md 1), .int (nI (n)), .ref (md 2), .int (nI (len)), .int (nI (p)), .int (nI (le)), .ref (md 3), .ref (md 4)]))], [((md 1), .inl (T 0, 1872, .inl (σ)))]]) (ci := 6) (q0 := (RX6, TX6, 8)) (i0 := 0) ⟨hx, hb, hml, hown, hts⟩ (kX6_carries l D T Z md n len p le σ (3 * k9) x (by omega)) (cwV 2 hts gX6_carriersOf_X6_carries rfl rfl rfl (by decide +kernel) ⟨Nat.le_of_ble_eq_true rfl, Nat.le_of_ble_eq_true rfl⟩) hK hN hM hP hD hS hA [0, 1] rfl rfl rfl rfl rfl rfl hl.1 rfl (Nat.le_of_ble_eq_true rfl) dX6_carriersOf_15 ⟨Nat.zero_le _, Nat.zero_le _⟩ (fun H locs hP hD hS => ?_)
        refine fr_ifeq_b (tgt := 25) hx hb dX6_carriersOf_18 (by decide) (fun c_2 => ?_) (fun c_2 => ?_)
        · refine lv_iconst (v := nI 0) hx hb dX6_carriersOf_25 (by decide) ?_
          refine lv_iadd hx hb dX6_carriersOf_26 ?_
          refine lv_istore_n (lv' := [(2, .int ((sumI (crG σ x) k9) + (nI 0))), (3, .int (nI ((3 * k9)))), (0, .ref (md 0)), (1, .int (x))]) hx hb dX6_carriersOf_27 rfl hl (by decide) rfl (fun ls hl => ?_)
          refine fr_iinc ((3 * k9)) (((3 * k9) + 3)) (by rw [show Int32.ofInt 3 = nI 3 from rfl, nI_add]) (lv' := [(3, .int (nI (((3 * k9) + 3)))), (2, .int ((sumI (crG σ x) k9) + (nI 0))), (0, .ref (md 0)), (1, .int (x))]) (k := 1) hx hb dX6_carriersOf_28 hl rfl (by decide) rfl (fun ls hl => ?_)
          refine lv_goto (tgt := 4) hx hb dX6_carriersOf_31 (by decide) ?_
          have q_3 : (nI (((3 * k9) + 3)) : Int32) = nI ((3 * (k9 + 1))) := (by first | rfl | (simp only [sumI, crG, c_1, c_1', c_2, ↓reduceIte, Bool.false_eq_true, bI_true, bI_false, Bool.true_and, Bool.and_true, Bool.and_false, Bool.false_and, Bool.not_true, Bool.not_false, Bool.or_true, Bool.true_or, Bool.or_false, Bool.false_or] <;> rfl) | (simp [sumI, crG, c_1, c_1', c_2]; done))
          rw [q_3] at hl
          have q_4 : ((sumI (crG σ x) k9) + (nI 0) : Int32) = sumI (crG σ x) (k9 + 1) := (by first | rfl | (simp only [sumI, crG, c_1, c_1', c_2, ↓reduceIte, Bool.false_eq_true, bI_true, bI_false, Bool.true_and, Bool.and_true, Bool.and_false, Bool.false_and, Bool.not_true, Bool.not_false, Bool.or_true, Bool.true_or, Bool.or_false, Bool.false_or] <;> rfl) | (simp [sumI, crG, c_1, c_1', c_2]; done))
          rw [q_4] at hl
          exact ih  ((k9 + 1)) (by omega) (by omega) H locs hP hD hS ls (lv_sub hl [0, 1, 2, 3] rfl)
        · refine lv_iconst (v := nI 1) hx hb dX6_carriersOf_21 (by decide) ?_
          refine lv_goto (tgt := 26) hx hb dX6_carriersOf_22 (by decide) ?_
          refine lv_iadd hx hb dX6_carriersOf_26 ?_
          refine lv_istore_n (lv' := [(2, .int ((sumI (crG σ x) k9) + (nI 1))), (3, .int (nI ((3 * k9)))), (0, .ref (md 0)), (1, .int (x))]) hx hb dX6_carriersOf_27 rfl hl (by decide) rfl (fun ls hl => ?_)
          refine fr_iinc ((3 * k9)) (((3 * k9) + 3)) (by rw [show Int32.ofInt 3 = nI 3 from rfl, nI_add]) (lv' := [(3, .int (nI (((3 * k9) + 3)))), (2, .int ((sumI (crG σ x) k9) + (nI 1))), (0, .ref (md 0)), (1, .int (x))]) (k := 1) hx hb dX6_carriersOf_28 hl rfl (by decide) rfl (fun ls hl => ?_)
          refine lv_goto (tgt := 4) hx hb dX6_carriersOf_31 (by decide) ?_
          have q_5 : (nI (((3 * k9) + 3)) : Int32) = nI ((3 * (k9 + 1))) := (by first | rfl | (simp only [sumI, crG, c_1, c_1', c_2, ↓reduceIte, Bool.false_eq_true, bI_true, bI_false, Bool.true_and, Bool.and_true, Bool.and_false, Bool.false_and, Bool.not_true, Bool.not_false, Bool.or_true, Bool.true_or, Bool.or_false, Bool.false_or] <;> rfl) | (simp [sumI, crG, c_1, c_1', c_2]; done))
          rw [q_5] at hl
          have q_6 : ((sumI (crG σ x) k9) + (nI 1) : Int32) = sumI (crG σ x) (k9 + 1) := (by first | rfl | (simp only [sumI, crG, c_1, c_1', c_2, ↓reduceIte, Bool.false_eq_true, bI_true, bI_false, Bool.true_and, Bool.and_true, Bool.and_false, Bool.false_and, Bool.not_true, Bool.not_false, Bool.or_true, Bool.true_or, Bool.or_false, Bool.false_or] <;> rfl) | (simp [sumI, crG, c_1, c_1', c_2]; done))
          rw [q_6] at hl
          exact ih  ((k9 + 1)) (by omega) (by omega) H locs hP hD hS ls (lv_sub hl [0, 1, 2, 3] rfl)
  have q_7 : (nI 0 : Int32) = nI ((3 * 0)) := (by first | rfl | (simp only [sumI, crG, ↓reduceIte, Bool.false_eq_true, bI_true, bI_false, Bool.true_and, Bool.and_true, Bool.and_false, Bool.false_and, Bool.not_true, Bool.not_false, Bool.or_true, Bool.true_or, Bool.or_false, Bool.false_or] <;> rfl) | (simp [sumI, crG]; done))
  rw [q_7] at hl
  have q_8 : (nI 0 : Int32) = sumI (crG σ x) 0 := (by first | rfl | (simp only [sumI, crG, ↓reduceIte, Bool.false_eq_true, bI_true, bI_false, Bool.true_and, Bool.and_true, Bool.and_false, Bool.false_and, Bool.not_true, Bool.not_false, Bool.or_true, Bool.true_or, Bool.or_false, Bool.false_or] <;> rfl) | (simp [sumI, crG]; done))
  rw [q_8] at hl
  exact loop4 (80 + 1) (0) (by omega) (by omega) _ _ hP hD hS ls (lv_sub hl [0, 1, 2, 3] rfl)

set_option maxHeartbeats 8000000 in
set_option maxRecDepth 100000 in
theorem kX6_carriers (l : Launch) (D : va_G) (T : Nat → ClassId) (Z : ZZ) (md : Nat → Nat) (n : Nat) (len : Nat) (p : Nat) (le : Nat) (σ : MS) (x : Int32) (hi : WH (σ 256) 20) : CtI l D T Z yX6_carriers wsX6_carriers ({ frames := 2, cells := 0, slots := 0, locals := 45 }) [[((md 0), .inr (6, [.ref (md 1), .int (nI (n)), .ref (md 2), .int (nI (len)), .int (nI (p)), .int (nI (le)), .ref (md 3), .ref (md 4)]))], [((md 1), .inl (T 0, 1872, .inl (σ)))]] [.ref (md 0), .int (x)] (if iN x (tn (σ 256)) then sumI (crG σ x) 80 else -1) [[((md 0), .inr (6, [.ref (md 1), .int (nI (n)), .ref (md 2), .int (nI (len)), .int (nI (p)), .int (nI (le)), .ref (md 3), .ref (md 4)]))], [((md 1), .inl (T 0, 1872, .inl (σ)))]] := by
  refine CtI.of (cc := cX6_carriers) (maxL := 2) (ret := (some .int)) (plainFor_of_name (by decide)) rfl rfl ?_
  intro pP eE s mM bW mE cC A hE hK hN hM hP hD hA
  obtain ⟨hx, hb, hr, hts, hown, hml, hlk⟩ := hE
  have hown : s.vm.findClass RX6 = some mM.cls := hown
  have hS : va_S A s.heap s.heap [] := va_S.rf
  have hl := lv_entry ([.ref (md 0), .int (x)]) (n := 2) (Nat.le_of_ble_eq_true rfl)
  rw [lg_entry_eq]
  generalize (lg_sl ([.ref (md 0), .int (x)]) ++ List.replicate (2 - (lg_sl ([.ref (md 0), .int (x)])).length) Slot.unset).toArray = ls at hl ⊢
  have hl : lv_has ls 2 [(0, .ref (md 0)), (1, .int (x))] := hl
  refine lv_aload_n hx hb dX6_carriers_0 rfl (lv_at hl 0 rfl) ?_
  refine lv_iload_n hx hb dX6_carriers_1 rfl (lv_at hl 1 rfl) ?_
  refine fr_Vi (As := [.int (x)]) (rest := []) (fs' := [[((md 0), .inr (6, [.ref (md 1), .int (nI (n)), .ref (md 2), .int (nI (len)), .int (nI (p)), .int (nI (le)), .ref (md 3), .ref (md 4)]))], [((md 1), .inl (T 0, 1872, .inl (σ)))]]) (ci := 6) (q0 := (RX6, TX6, 8)) (i0 := 0) ⟨hx, hb, hml, hown, hts⟩ (kX6_isOrigin l D T Z md n len p le σ x hi) (cwV 1 hts gX6_carriers_X6_isOrigin rfl rfl rfl (by decide +kernel) ⟨Nat.le_of_ble_eq_true rfl, Nat.le_of_ble_eq_true rfl⟩) hK hN hM hP hD hS hA [0, 1] rfl rfl rfl rfl rfl rfl hl.1 rfl (Nat.le_of_ble_eq_true rfl) dX6_carriers_2 ⟨Nat.zero_le _, Nat.zero_le _⟩ (fun H locs hP hD hS => ?_)
  refine fr_ifeq_b (tgt := 16) hx hb dX6_carriers_5 (by decide) (fun c_1 => ?_) (fun c_1 => ?_)
  · refine lv_iconst (v := (-1)) hx hb dX6_carriers_16 (by decide) ?_
    exact fr_iret hx hb hr hlk hP hS (by first | rfl | (simp only [c_1, ↓reduceIte, Bool.false_eq_true, bI_true, bI_false, Bool.true_and, Bool.and_true, Bool.and_false, Bool.false_and, Bool.not_true, Bool.not_false, Bool.or_true, Bool.true_or, Bool.or_false, Bool.false_or] <;> rfl) | (simp [c_1, bI]; done)) rfl dX6_carriers_17
  · have e_2 := iN_eq c_1
    have e_2b := iN_lt c_1 (by omega)
    refine lv_aload_n hx hb dX6_carriers_8 rfl (lv_at hl 0 rfl) ?_
    refine lv_iload_n hx hb dX6_carriers_9 rfl (lv_at hl 1 rfl) ?_
    refine fr_val e_2 ?_
    refine fr_Vi (As := [.int (nI (tn x))]) (rest := []) (fs' := [[((md 0), .inr (6, [.ref (md 1), .int (nI (n)), .ref (md 2), .int (nI (len)), .int (nI (p)), .int (nI (le)), .ref (md 3), .ref (md 4)]))], [((md 1), .inl (T 0, 1872, .inl (σ)))]]) (ci := 6) (q0 := (RX6, TX6, 8)) (i0 := 0) ⟨hx, hb, hml, hown, hts⟩ (kX6_carriersOf l D T Z md n len p le σ (nI (tn x))) (cwV 1 hts gX6_carriers_X6_carriersOf rfl rfl rfl (by decide +kernel) ⟨Nat.le_of_ble_eq_true rfl, Nat.le_of_ble_eq_true rfl⟩) hK hN hM hP hD hS hA [0, 1] rfl rfl rfl rfl rfl rfl hl.1 rfl (Nat.le_of_ble_eq_true rfl) dX6_carriers_10 ⟨Nat.zero_le _, Nat.zero_le _⟩ (fun H locs hP hD hS => ?_)
    refine lv_goto (tgt := 17) hx hb dX6_carriers_13 (by decide) ?_
    exact fr_iret hx hb hr hlk hP hS (by first | rfl | (simp only [c_1, ↓reduceIte, Bool.false_eq_true, bI_true, bI_false, Bool.true_and, Bool.and_true, Bool.and_false, Bool.false_and, Bool.not_true, Bool.not_false, Bool.or_true, Bool.true_or, Bool.or_false, Bool.false_or] <;> rfl) | (simp [c_1, bI]; done)) rfl dX6_carriers_17

set_option maxHeartbeats 8000000 in
set_option maxRecDepth 100000 in
theorem kX6_farthest (l : Launch) (D : va_G) (T : Nat → ClassId) (Z : ZZ) (md : Nat → Nat) (n : Nat) (len : Nat) (p : Nat) (le : Nat) (σ : MS) (x : Int32) (hi : WH (σ 256) 20) : CtI l D T Z yX6_farthest wsX6_farthest ({ frames := 2, cells := 0, slots := 0, locals := 43 }) [[((md 0), .inr (6, [.ref (md 1), .int (nI (n)), .ref (md 2), .int (nI (len)), .int (nI (p)), .int (nI (le)), .ref (md 3), .ref (md 4)]))], [((md 1), .inl (T 0, 1872, .inl (σ)))]] [.ref (md 0), .int (x)] (if iN x (tn (σ 256)) then faM σ x 80 else -1) [[((md 0), .inr (6, [.ref (md 1), .int (nI (n)), .ref (md 2), .int (nI (len)), .int (nI (p)), .int (nI (le)), .ref (md 3), .ref (md 4)]))], [((md 1), .inl (T 0, 1872, .inl (σ)))]] := by
  refine CtI.of (cc := cX6_farthest) (maxL := 4) (ret := (some .int)) (plainFor_of_name (by decide)) rfl rfl ?_
  intro pP eE s mM bW mE cC A hE hK hN hM hP hD hA
  obtain ⟨hx, hb, hr, hts, hown, hml, hlk⟩ := hE
  have hown : s.vm.findClass RX6 = some mM.cls := hown
  have hS : va_S A s.heap s.heap [] := va_S.rf
  have hl := lv_entry ([.ref (md 0), .int (x)]) (n := 4) (Nat.le_of_ble_eq_true rfl)
  rw [lg_entry_eq]
  generalize (lg_sl ([.ref (md 0), .int (x)]) ++ List.replicate (4 - (lg_sl ([.ref (md 0), .int (x)])).length) Slot.unset).toArray = ls at hl ⊢
  have hl : lv_has ls 4 [(0, .ref (md 0)), (1, .int (x))] := hl
  have w_7 := hts (.fieldLink RX6 7 "PoisonedMemoryModel" "s" "[I") (by decide +kernel)
  have hinX6 : ∀ w ∈ wsX60, w ∈ wsX6_farthest := by decide +kernel
  refine lv_aload_n hx hb dX6_farthest_0 rfl (lv_at hl 0 rfl) ?_
  refine lv_iload_n hx hb dX6_farthest_1 rfl (lv_at hl 1 rfl) ?_
  refine fr_Vi (As := [.int (x)]) (rest := []) (fs' := [[((md 0), .inr (6, [.ref (md 1), .int (nI (n)), .ref (md 2), .int (nI (len)), .int (nI (p)), .int (nI (le)), .ref (md 3), .ref (md 4)]))], [((md 1), .inl (T 0, 1872, .inl (σ)))]]) (ci := 6) (q0 := (RX6, TX6, 8)) (i0 := 0) ⟨hx, hb, hml, hown, hts⟩ (kX6_isOrigin l D T Z md n len p le σ x hi) (cwV 1 hts gX6_farthest_X6_isOrigin rfl rfl rfl (by decide +kernel) ⟨Nat.le_of_ble_eq_true rfl, Nat.le_of_ble_eq_true rfl⟩) hK hN hM hP hD hS hA [0, 1] rfl rfl rfl rfl rfl rfl hl.1 rfl (Nat.le_of_ble_eq_true rfl) dX6_farthest_2 ⟨Nat.zero_le _, Nat.zero_le _⟩ (fun H locs hP hD hS => ?_)
  refine fr_ifne_b (tgt := 10) hx hb dX6_farthest_5 (by decide) (fun c_1 => ?_) (fun c_1 => ?_)
  · have e_2 := iN_eq c_1
    have e_2b := iN_lt c_1 (by omega)
    refine lv_bipush (v := (-6)) hx hb dX6_farthest_10 (by decide) ?_
    refine lv_istore_n (lv' := [(2, .int ((-6))), (0, .ref (md 0)), (1, .int (x))]) hx hb dX6_farthest_12 rfl hl (by decide) rfl (fun ls hl => ?_)
    refine lv_iconst (v := nI 0) hx hb dX6_farthest_13 (by decide) ?_
    refine lv_istore_n (lv' := [(3, .int (nI 0)), (2, .int ((-6))), (0, .ref (md 0)), (1, .int (x))]) hx hb dX6_farthest_14 rfl hl (by decide) rfl (fun ls hl => ?_)
    have loop15 : ∀ (n9 k9 : Nat), k9 ≤ 80 → 80 < k9 + n9 → ∀ (H : Heap) (locs : List Loc), frP D [[((md 0), .inr (6, [.ref (md 1), .int (nI (n)), .ref (md 2), .int (nI (len)), .int (nI (p)), .int (nI (le)), .ref (md 3), .ref (md 4)]))], [((md 1), .inl (T 0, 1872, .inl (σ)))]] H → va_D A ([[((md 0), .inr (6, [.ref (md 1), .int (nI (n)), .ref (md 2), .int (nI (len)), .int (nI (p)), .int (nI (le)), .ref (md 3), .ref (md 4)]))], [((md 1), .inl (T 0, 1872, .inl (σ)))]] : List va_W).flatten → va_S A s.heap H locs → ∀ (ls : Array Slot), lv_has ls 4 [(3, .int (nI ((3 * k9)))), (2, .int (faM σ x k9)), (0, .ref (md 0)), (1, .int (x))] → W pP l eE ({ frames := 2, cells := 0, slots := 0, locals := 43 }) s mM ([.ref (md 0), .int (x)] : List Value).toArray bW mE cC H locs 0 0 (MQ bW (QcI D [[((md 0), .inr (6, [.ref (md 1), .int (nI (n)), .ref (md 2), .int (nI (len)), .int (nI (p)), .int (nI (le)), .ref (md 3), .ref (md 4)]))], [((md 1), .inl (T 0, 1872, .inl (σ)))]] (if iN x (tn (σ 256)) then faM σ x 80 else -1) A) ([.ref (md 0), .int (x)] : List Value).toArray s 0 0 A) (F0 mM 15 ls []) := by
      intro n9
      induction n9 with
      | zero => intro k9 h1 h2; exact absurd h2 (by omega)
      | succ n9 ih =>
        intro k9 hk1 hk2 H locs hP hD hS ls hl
        refine lv_iload_n hx hb dX6_farthest_15 rfl (lv_at hl 0 rfl) ?_
        refine lv_sipush (v := nI 240) hx hb dX6_farthest_16 (by decide) ?_
        refine fr_icmp_ge ((3 * k9)) (240) (by omega) (by decide) (tgt := 62) hx hb dX6_farthest_19 (by decide) (fun c_3 => ?_) (fun c_3 => ?_)
        · have c_3' := Nat.not_lt.mpr c_3
          obtain rfl : k9 = 80 := by omega
          refine lv_iload_n hx hb dX6_farthest_62 rfl (lv_at hl 1 rfl) ?_
          exact fr_iret hx hb hr hlk hP hS (by first | rfl | (simp only [faM, c_1, c_3, c_3', ↓reduceIte, Bool.false_eq_true, bI_true, bI_false, Bool.true_and, Bool.and_true, Bool.and_false, Bool.false_and, Bool.not_true, Bool.not_false, Bool.or_true, Bool.true_or, Bool.or_false, Bool.false_or] <;> rfl) | (simp [faM, c_1, c_3, c_3', bI]; done)) rfl dX6_farthest_63
        · have c_3' := Nat.not_le.mpr c_3
          refine lv_aload_n hx hb dX6_farthest_22 rfl (lv_at hl 2 rfl) ?_
          refine lv_iload_n hx hb dX6_farthest_23 rfl (lv_at hl 0 rfl) ?_
          refine lv_iload_n hx hb dX6_farthest_24 rfl (lv_at hl 3 rfl) ?_
          refine fr_val e_2 ?_
          refine fr_Vi (As := [.int (nI ((3 * k9))), .int (nI (tn x))]) (rest := []) (fs' := [[((md 0), .inr (6, [.ref (md 1), .int (nI (n)), .ref (md 2), .int (nI (len)), .int (nI (p)), .int (nI (le)), .ref (md 3), .ref (md 4)]))], [((md 1), .inl (T 0, 1872, .inl (σ)))]]) (ci := 6) (q0 := (RX6, TX6, 8)) (i0 := 0) ⟨hx, hb, hml, hown, hts⟩ (kX6_carries l D T Z md n len p le σ (3 * k9) (nI (tn x)) (by omega)) (cwV 2 hts gX6_farthest_X6_carries rfl rfl rfl (by decide +kernel) ⟨Nat.le_of_ble_eq_true rfl, Nat.le_of_ble_eq_true rfl⟩) hK hN hM hP hD hS hA [0, 1] rfl rfl rfl rfl rfl rfl hl.1 rfl (Nat.le_of_ble_eq_true rfl) dX6_farthest_25 ⟨Nat.zero_le _, Nat.zero_le _⟩ (fun H locs hP hD hS => ?_)
          refine fr_ifeq_b (tgt := 54) hx hb dX6_farthest_28 (by decide) (fun c_4 => ?_) (fun c_4 => ?_)
          · refine lv_iload_n hx hb dX6_farthest_54 rfl (lv_at hl 1 rfl) ?_
            refine lv_istore_n (lv' := [(2, .int (faM σ x k9)), (3, .int (nI ((3 * k9)))), (0, .ref (md 0)), (1, .int (x))]) hx hb dX6_farthest_55 rfl hl (by decide) rfl (fun ls hl => ?_)
            refine fr_iinc ((3 * k9)) (((3 * k9) + 3)) (by rw [show Int32.ofInt 3 = nI 3 from rfl, nI_add]) (lv' := [(3, .int (nI (((3 * k9) + 3)))), (2, .int (faM σ x k9)), (0, .ref (md 0)), (1, .int (x))]) (k := 1) hx hb dX6_farthest_56 hl rfl (by decide) rfl (fun ls hl => ?_)
            refine lv_goto (tgt := 15) hx hb dX6_farthest_59 (by decide) ?_
            have q_5 : (nI (((3 * k9) + 3)) : Int32) = nI ((3 * (k9 + 1))) := (by first | rfl | (simp only [faM, c_1, c_3, c_3', c_4, ↓reduceIte, Bool.false_eq_true, bI_true, bI_false, Bool.true_and, Bool.and_true, Bool.and_false, Bool.false_and, Bool.not_true, Bool.not_false, Bool.or_true, Bool.true_or, Bool.or_false, Bool.false_or] <;> rfl) | (simp [faM, c_1, c_3, c_3', c_4]; done))
            rw [q_5] at hl
            have q_6 : (faM σ x k9 : Int32) = faM σ x (k9 + 1) := (by first | rfl | (simp only [faM, c_1, c_3, c_3', c_4, ↓reduceIte, Bool.false_eq_true, bI_true, bI_false, Bool.true_and, Bool.and_true, Bool.and_false, Bool.false_and, Bool.not_true, Bool.not_false, Bool.or_true, Bool.true_or, Bool.or_false, Bool.false_or] <;> rfl) | (simp [faM, c_1, c_3, c_3', c_4]; done))
            rw [q_6] at hl
            exact ih  ((k9 + 1)) (by omega) (by omega) H locs hP hD hS ls (lv_sub hl [0, 1, 2, 3] rfl)
          · refine lv_aload_n hx hb dX6_farthest_31 rfl (lv_at hl 2 rfl) ?_
            refine va_get (D := D) (ci := 6) (v := .ref (md 1)) (C := RX6) (T := TX6) (N := 8) hx hb hts hinX6 hown hK (hP.at 0 rfl) 0 rfl rfl 0 (by decide) w_7 (fun _ h9 => h9) rfl dX6_farthest_32 ?_
            refine lv_iload_n hx hb dX6_farthest_35 rfl (lv_at hl 0 rfl) ?_
            refine lv_iconst (v := nI 2) hx hb dX6_farthest_36 (by decide) ?_
            refine fr_iadd ((3 * k9)) (2) hx hb dX6_farthest_37 ?_
            refine fr_iald hx hb hK hP 1 (((3 * k9) + 2)) rfl (by omega) (by omega) dX6_farthest_38 ?_
            refine lv_iload_n hx hb dX6_farthest_39 rfl (lv_at hl 1 rfl) ?_
            refine lv_icmp_le (tgt := 54) hx hb dX6_farthest_40 (by decide) (fun c_7 => ?_) (fun c_7 => ?_)
            · have c_7' := Int32.not_lt.mpr c_7
              refine lv_iload_n hx hb dX6_farthest_54 rfl (lv_at hl 1 rfl) ?_
              refine lv_istore_n (lv' := [(2, .int (faM σ x k9)), (3, .int (nI ((3 * k9)))), (0, .ref (md 0)), (1, .int (x))]) hx hb dX6_farthest_55 rfl hl (by decide) rfl (fun ls hl => ?_)
              refine fr_iinc ((3 * k9)) (((3 * k9) + 3)) (by rw [show Int32.ofInt 3 = nI 3 from rfl, nI_add]) (lv' := [(3, .int (nI (((3 * k9) + 3)))), (2, .int (faM σ x k9)), (0, .ref (md 0)), (1, .int (x))]) (k := 1) hx hb dX6_farthest_56 hl rfl (by decide) rfl (fun ls hl => ?_)
              refine lv_goto (tgt := 15) hx hb dX6_farthest_59 (by decide) ?_
              have q_8 : (nI (((3 * k9) + 3)) : Int32) = nI ((3 * (k9 + 1))) := (by first | rfl | (simp only [faM, c_1, c_3, c_3', c_4, c_7, c_7', ↓reduceIte, Bool.false_eq_true, bI_true, bI_false, Bool.true_and, Bool.and_true, Bool.and_false, Bool.false_and, Bool.not_true, Bool.not_false, Bool.or_true, Bool.true_or, Bool.or_false, Bool.false_or] <;> rfl) | (simp [faM, c_1, c_3, c_3', c_4, c_7, c_7']; done))
              rw [q_8] at hl
              have q_9 : (faM σ x k9 : Int32) = faM σ x (k9 + 1) := (by first | rfl | (simp only [faM, c_1, c_3, c_3', c_4, c_7, c_7', ↓reduceIte, Bool.false_eq_true, bI_true, bI_false, Bool.true_and, Bool.and_true, Bool.and_false, Bool.false_and, Bool.not_true, Bool.not_false, Bool.or_true, Bool.true_or, Bool.or_false, Bool.false_or] <;> rfl) | (simp [faM, c_1, c_3, c_3', c_4, c_7, c_7']; done))
              rw [q_9] at hl
              exact ih  ((k9 + 1)) (by omega) (by omega) H locs hP hD hS ls (lv_sub hl [0, 1, 2, 3] rfl)
            · have c_7' := Int32.not_le.mp c_7
              refine lv_aload_n hx hb dX6_farthest_43 rfl (lv_at hl 2 rfl) ?_
              refine va_get (D := D) (ci := 6) (v := .ref (md 1)) (C := RX6) (T := TX6) (N := 8) hx hb hts hinX6 hown hK (hP.at 0 rfl) 0 rfl rfl 0 (by decide) w_7 (fun _ h9 => h9) rfl dX6_farthest_44 ?_
              refine lv_iload_n hx hb dX6_farthest_47 rfl (lv_at hl 0 rfl) ?_
              refine lv_iconst (v := nI 2) hx hb dX6_farthest_48 (by decide) ?_
              refine fr_iadd ((3 * k9)) (2) hx hb dX6_farthest_49 ?_
              refine fr_iald hx hb hK hP 1 (((3 * k9) + 2)) rfl (by omega) (by omega) dX6_farthest_50 ?_
              refine lv_goto (tgt := 55) hx hb dX6_farthest_51 (by decide) ?_
              refine lv_istore_n (lv' := [(2, .int (σ ((3 * k9) + 2))), (3, .int (nI ((3 * k9)))), (0, .ref (md 0)), (1, .int (x))]) hx hb dX6_farthest_55 rfl hl (by decide) rfl (fun ls hl => ?_)
              refine fr_iinc ((3 * k9)) (((3 * k9) + 3)) (by rw [show Int32.ofInt 3 = nI 3 from rfl, nI_add]) (lv' := [(3, .int (nI (((3 * k9) + 3)))), (2, .int (σ ((3 * k9) + 2))), (0, .ref (md 0)), (1, .int (x))]) (k := 1) hx hb dX6_farthest_56 hl rfl (by decide) rfl (fun ls hl => ?_)
              refine lv_goto (tgt := 15) hx hb dX6_farthest_59 (by decide) ?_
              have q_10 : (nI (((3 * k9) + 3)) : Int32) = nI ((3 * (k9 + 1))) := (by first | rfl | (simp only [faM, c_1, c_3, c_3', c_4, c_7, c_7', ↓reduceIte, Bool.false_eq_true, bI_true, bI_false, Bool.true_and, Bool.and_true, Bool.and_false, Bool.false_and, Bool.not_true, Bool.not_false, Bool.or_true, Bool.true_or, Bool.or_false, Bool.false_or] <;> rfl) | (simp [faM, c_1, c_3, c_3', c_4, c_7, c_7']; done))
              rw [q_10] at hl
              have q_11 : (σ ((3 * k9) + 2) : Int32) = faM σ x (k9 + 1) := (by first | rfl | (simp only [faM, c_1, c_3, c_3', c_4, c_7, c_7', ↓reduceIte, Bool.false_eq_true, bI_true, bI_false, Bool.true_and, Bool.and_true, Bool.and_false, Bool.false_and, Bool.not_true, Bool.not_false, Bool.or_true, Bool.true_or, Bool.or_false, Bool.false_or] <;> rfl) | (simp [faM, c_1, c_3, c_3', c_4, c_7, c_7']; done))
              rw [q_11] at hl
              exact ih  ((k9 + 1)) (by omega) (by omega) H locs hP hD hS ls (lv_sub hl [0, 1, 2, 3] rfl)
    have q_12 : (nI 0 : Int32) = nI ((3 * 0)) := (by first | rfl | (simp only [faM, c_1, ↓reduceIte, Bool.false_eq_true, bI_true, bI_false, Bool.true_and, Bool.and_true, Bool.and_false, Bool.false_and, Bool.not_true, Bool.not_false, Bool.or_true, Bool.true_or, Bool.or_false, Bool.false_or] <;> rfl) | (simp [faM, c_1]; done))
    rw [q_12] at hl
    have q_13 : ((-6) : Int32) = faM σ x 0 := (by first | rfl | (simp only [faM, c_1, ↓reduceIte, Bool.false_eq_true, bI_true, bI_false, Bool.true_and, Bool.and_true, Bool.and_false, Bool.false_and, Bool.not_true, Bool.not_false, Bool.or_true, Bool.true_or, Bool.or_false, Bool.false_or] <;> rfl) | (simp [faM, c_1]; done))
    rw [q_13] at hl
    exact loop15 (80 + 1) (0) (by omega) (by omega) _ _ hP hD hS ls (lv_sub hl [0, 1, 2, 3] rfl)
  · refine lv_iconst (v := (-1)) hx hb dX6_farthest_8 (by decide) ?_
    exact fr_iret hx hb hr hlk hP hS (by first | rfl | (simp only [faM, c_1, ↓reduceIte, Bool.false_eq_true, bI_true, bI_false, Bool.true_and, Bool.and_true, Bool.and_false, Bool.false_and, Bool.not_true, Bool.not_false, Bool.or_true, Bool.true_or, Bool.or_false, Bool.false_or] <;> rfl) | (simp [faM, c_1, bI]; done)) rfl dX6_farthest_9

set_option maxHeartbeats 8000000 in
set_option maxRecDepth 100000 in
theorem kX6_widest (l : Launch) (D : va_G) (T : Nat → ClassId) (Z : ZZ) (md : Nat → Nat) (n : Nat) (len : Nat) (p : Nat) (le : Nat) (σ : MS) (hi : WH (σ 256) 20) : CtI l D T Z yX6_widest wsX6_widest ({ frames := 2, cells := 0, slots := 0, locals := 45 }) [[((md 0), .inr (6, [.ref (md 1), .int (nI (n)), .ref (md 2), .int (nI (len)), .int (nI (p)), .int (nI (le)), .ref (md 3), .ref (md 4)]))], [((md 1), .inl (T 0, 1872, .inl (σ)))]] [.ref (md 0)] ((wiM (fun k => sumI (crG σ (nI k)) 80) (tn (σ 256))).1) [[((md 0), .inr (6, [.ref (md 1), .int (nI (n)), .ref (md 2), .int (nI (len)), .int (nI (p)), .int (nI (le)), .ref (md 3), .ref (md 4)]))], [((md 1), .inl (T 0, 1872, .inl (σ)))]] := by
  have hi2 := hi.2
  refine CtI.of (cc := cX6_widest) (maxL := 5) (ret := (some .int)) (plainFor_of_name (by decide)) rfl rfl ?_
  intro pP eE s mM bW mE cC A hE hK hN hM hP hD hA
  obtain ⟨hx, hb, hr, hts, hown, hml, hlk⟩ := hE
  have hown : s.vm.findClass RX6 = some mM.cls := hown
  have hS : va_S A s.heap s.heap [] := va_S.rf
  have hl := lv_entry ([.ref (md 0)]) (n := 5) (Nat.le_of_ble_eq_true rfl)
  rw [lg_entry_eq]
  generalize (lg_sl ([.ref (md 0)]) ++ List.replicate (5 - (lg_sl ([.ref (md 0)])).length) Slot.unset).toArray = ls at hl ⊢
  have hl : lv_has ls 5 [(0, .ref (md 0))] := hl
  have w_7 := hts (.fieldLink RX6 7 "PoisonedMemoryModel" "s" "[I") (by decide +kernel)
  have hinX6 : ∀ w ∈ wsX60, w ∈ wsX6_widest := by decide +kernel
  refine lv_bipush (v := (-6)) hx hb dX6_widest_0 (by decide) ?_
  refine lv_istore_n (lv' := [(1, .int ((-6))), (0, .ref (md 0))]) hx hb dX6_widest_2 rfl hl (by decide) rfl (fun ls hl => ?_)
  refine lv_iconst (v := nI 0) hx hb dX6_widest_3 (by decide) ?_
  refine lv_istore_n (lv' := [(2, .int (nI 0)), (1, .int ((-6))), (0, .ref (md 0))]) hx hb dX6_widest_4 rfl hl (by decide) rfl (fun ls hl => ?_)
  refine lv_iconst (v := nI 0) hx hb dX6_widest_5 (by decide) ?_
  refine lv_istore_n (lv' := [(3, .int (nI 0)), (2, .int (nI 0)), (1, .int ((-6))), (0, .ref (md 0))]) hx hb dX6_widest_6 rfl hl (by decide) rfl (fun ls hl => ?_)
  have loop7 : ∀ (n9 k9 : Nat), k9 ≤ tn (σ 256) → tn (σ 256) < k9 + n9 → ∀ (H : Heap) (locs : List Loc), frP D [[((md 0), .inr (6, [.ref (md 1), .int (nI (n)), .ref (md 2), .int (nI (len)), .int (nI (p)), .int (nI (le)), .ref (md 3), .ref (md 4)]))], [((md 1), .inl (T 0, 1872, .inl (σ)))]] H → va_D A ([[((md 0), .inr (6, [.ref (md 1), .int (nI (n)), .ref (md 2), .int (nI (len)), .int (nI (p)), .int (nI (le)), .ref (md 3), .ref (md 4)]))], [((md 1), .inl (T 0, 1872, .inl (σ)))]] : List va_W).flatten → va_S A s.heap H locs → ∀ (ls : Array Slot), lv_has ls 5 [(3, .int (nI (k9))), (2, .int ((wiM (fun k => sumI (crG σ (nI k)) 80) k9).2)), (1, .int ((wiM (fun k => sumI (crG σ (nI k)) 80) k9).1)), (0, .ref (md 0))] → W pP l eE ({ frames := 2, cells := 0, slots := 0, locals := 45 }) s mM ([.ref (md 0)] : List Value).toArray bW mE cC H locs 0 0 (MQ bW (QcI D [[((md 0), .inr (6, [.ref (md 1), .int (nI (n)), .ref (md 2), .int (nI (len)), .int (nI (p)), .int (nI (le)), .ref (md 3), .ref (md 4)]))], [((md 1), .inl (T 0, 1872, .inl (σ)))]] ((wiM (fun k => sumI (crG σ (nI k)) 80) (tn (σ 256))).1) A) ([.ref (md 0)] : List Value).toArray s 0 0 A) (F0 mM 7 ls []) := by
    intro n9
    induction n9 with
    | zero => intro k9 h1 h2; exact absurd h2 (by omega)
    | succ n9 ih =>
      intro k9 hk1 hk2 H locs hP hD hS ls hl
      refine lv_iload_n hx hb dX6_widest_7 rfl (lv_at hl 0 rfl) ?_
      refine lv_aload_n hx hb dX6_widest_8 rfl (lv_at hl 3 rfl) ?_
      refine va_get (D := D) (ci := 6) (v := .ref (md 1)) (C := RX6) (T := TX6) (N := 8) hx hb hts hinX6 hown hK (hP.at 0 rfl) 0 rfl rfl 0 (by decide) w_7 (fun _ h9 => h9) rfl dX6_widest_9 ?_
      refine lv_sipush (v := nI 256) hx hb dX6_widest_12 (by decide) ?_
      refine fr_iald hx hb hK hP 1 (256) rfl (by decide) (by decide) dX6_widest_15 ?_
      refine fr_val hi.1 ?_
      refine fr_icmp_ge (k9) (tn (σ 256)) (by omega) (by omega) (tgt := 57) hx hb dX6_widest_16 (by decide) (fun c_1 => ?_) (fun c_1 => ?_)
      · have c_1' := Nat.not_lt.mpr c_1
        obtain rfl : k9 = tn (σ 256) := by omega
        refine lv_iload_n hx hb dX6_widest_57 rfl (lv_at hl 2 rfl) ?_
        exact fr_iret hx hb hr hlk hP hS rfl rfl dX6_widest_58
      · have c_1' := Nat.not_le.mpr c_1
        refine lv_aload_n hx hb dX6_widest_19 rfl (lv_at hl 3 rfl) ?_
        refine lv_iload_n hx hb dX6_widest_20 rfl (lv_at hl 0 rfl) ?_
        refine fr_Vi (As := [.int (nI (k9))]) (rest := []) (fs' := [[((md 0), .inr (6, [.ref (md 1), .int (nI (n)), .ref (md 2), .int (nI (len)), .int (nI (p)), .int (nI (le)), .ref (md 3), .ref (md 4)]))], [((md 1), .inl (T 0, 1872, .inl (σ)))]]) (ci := 6) (q0 := (RX6, TX6, 8)) (i0 := 0) ⟨hx, hb, hml, hown, hts⟩ (kX6_carriersOf l D T Z md n len p le σ (nI (k9))) (cwV 1 hts gX6_widest_X6_carriersOf rfl rfl rfl (by decide +kernel) ⟨Nat.le_of_ble_eq_true rfl, Nat.le_of_ble_eq_true rfl⟩) hK hN hM hP hD hS hA [0, 1] rfl rfl rfl rfl rfl rfl hl.1 rfl (Nat.le_of_ble_eq_true rfl) dX6_widest_21 ⟨Nat.zero_le _, Nat.zero_le _⟩ (fun H locs hP hD hS => ?_)
        refine lv_istore (lv' := [(4, .int (sumI (crG σ (nI (k9))) 80)), (3, .int (nI (k9))), (2, .int ((wiM (fun k => sumI (crG σ (nI k)) 80) k9).2)), (1, .int ((wiM (fun k => sumI (crG σ (nI k)) 80) k9).1)), (0, .ref (md 0))]) hx hb dX6_widest_24 hl (by decide) rfl (fun ls hl => ?_)
        refine lv_iload hx hb dX6_widest_26 (lv_at hl 0 rfl) ?_
        refine lv_iload_n hx hb dX6_widest_28 rfl (lv_at hl 2 rfl) ?_
        refine lv_icmp_le (tgt := 36) hx hb dX6_widest_29 (by decide) (fun c_2 => ?_) (fun c_2 => ?_)
        · have c_2' := Int32.not_lt.mpr c_2
          refine lv_iload_n hx hb dX6_widest_36 rfl (lv_at hl 3 rfl) ?_
          refine lv_istore_n (lv' := [(1, .int ((wiM (fun k => sumI (crG σ (nI k)) 80) k9).1)), (4, .int (sumI (crG σ (nI (k9))) 80)), (3, .int (nI (k9))), (2, .int ((wiM (fun k => sumI (crG σ (nI k)) 80) k9).2)), (0, .ref (md 0))]) hx hb dX6_widest_37 rfl hl (by decide) rfl (fun ls hl => ?_)
          refine lv_iload hx hb dX6_widest_38 (lv_at hl 1 rfl) ?_
          refine lv_iload_n hx hb dX6_widest_40 rfl (lv_at hl 3 rfl) ?_
          refine lv_icmp_le (tgt := 49) hx hb dX6_widest_41 (by decide) (fun c_3 => ?_) (fun c_3 => ?_)
          · have c_3' := Int32.not_lt.mpr c_3
            refine lv_iload_n hx hb dX6_widest_49 rfl (lv_at hl 3 rfl) ?_
            refine lv_istore_n (lv' := [(2, .int ((wiM (fun k => sumI (crG σ (nI k)) 80) k9).2)), (1, .int ((wiM (fun k => sumI (crG σ (nI k)) 80) k9).1)), (4, .int (sumI (crG σ (nI (k9))) 80)), (3, .int (nI (k9))), (0, .ref (md 0))]) hx hb dX6_widest_50 rfl hl (by decide) rfl (fun ls hl => ?_)
            refine fr_iinc (k9) ((k9 + 1)) (nI_inc _) (lv' := [(3, .int (nI ((k9 + 1)))), (2, .int ((wiM (fun k => sumI (crG σ (nI k)) 80) k9).2)), (1, .int ((wiM (fun k => sumI (crG σ (nI k)) 80) k9).1)), (4, .int (sumI (crG σ (nI (k9))) 80)), (0, .ref (md 0))]) (k := 3) hx hb dX6_widest_51 hl rfl (by decide) rfl (fun ls hl => ?_)
            refine lv_goto (tgt := 7) hx hb dX6_widest_54 (by decide) ?_
            have q_4 : ((wiM (fun k => sumI (crG σ (nI k)) 80) k9).2 : Int32) = (wiM (fun k => sumI (crG σ (nI k)) 80) (k9 + 1)).2 := (by first | rfl | (simp only [wiM, c_1, c_1', c_2, c_2', c_3, c_3', ↓reduceIte, Bool.false_eq_true, bI_true, bI_false, Bool.true_and, Bool.and_true, Bool.and_false, Bool.false_and, Bool.not_true, Bool.not_false, Bool.or_true, Bool.true_or, Bool.or_false, Bool.false_or] <;> rfl) | (simp [wiM, c_1, c_1', c_2, c_2', c_3, c_3']; done))
            rw [q_4] at hl
            have q_5 : ((wiM (fun k => sumI (crG σ (nI k)) 80) k9).1 : Int32) = (wiM (fun k => sumI (crG σ (nI k)) 80) (k9 + 1)).1 := (by first | rfl | (simp only [wiM, c_1, c_1', c_2, c_2', c_3, c_3', ↓reduceIte, Bool.false_eq_true, bI_true, bI_false, Bool.true_and, Bool.and_true, Bool.and_false, Bool.false_and, Bool.not_true, Bool.not_false, Bool.or_true, Bool.true_or, Bool.or_false, Bool.false_or] <;> rfl) | (simp [wiM, c_1, c_1', c_2, c_2', c_3, c_3']; done))
            rw [q_5] at hl
            exact ih  ((k9 + 1)) (by omega) (by omega) H locs hP hD hS ls (lv_sub hl [0, 1, 2, 4] rfl)
          · have c_3' := Int32.not_le.mp c_3
            refine lv_iload hx hb dX6_widest_44 (lv_at hl 1 rfl) ?_
            refine lv_goto (tgt := 50) hx hb dX6_widest_46 (by decide) ?_
            refine lv_istore_n (lv' := [(2, .int (sumI (crG σ (nI (k9))) 80)), (1, .int ((wiM (fun k => sumI (crG σ (nI k)) 80) k9).1)), (4, .int (sumI (crG σ (nI (k9))) 80)), (3, .int (nI (k9))), (0, .ref (md 0))]) hx hb dX6_widest_50 rfl hl (by decide) rfl (fun ls hl => ?_)
            refine fr_iinc (k9) ((k9 + 1)) (nI_inc _) (lv' := [(3, .int (nI ((k9 + 1)))), (2, .int (sumI (crG σ (nI (k9))) 80)), (1, .int ((wiM (fun k => sumI (crG σ (nI k)) 80) k9).1)), (4, .int (sumI (crG σ (nI (k9))) 80)), (0, .ref (md 0))]) (k := 3) hx hb dX6_widest_51 hl rfl (by decide) rfl (fun ls hl => ?_)
            refine lv_goto (tgt := 7) hx hb dX6_widest_54 (by decide) ?_
            have q_6 : (sumI (crG σ (nI (k9))) 80 : Int32) = (wiM (fun k => sumI (crG σ (nI k)) 80) (k9 + 1)).2 := (by first | rfl | (simp only [wiM, c_1, c_1', c_2, c_2', c_3, c_3', ↓reduceIte, Bool.false_eq_true, bI_true, bI_false, Bool.true_and, Bool.and_true, Bool.and_false, Bool.false_and, Bool.not_true, Bool.not_false, Bool.or_true, Bool.true_or, Bool.or_false, Bool.false_or] <;> rfl) | (simp [wiM, c_1, c_1', c_2, c_2', c_3, c_3']; done))
            rw [q_6] at hl
            have q_7 : ((wiM (fun k => sumI (crG σ (nI k)) 80) k9).1 : Int32) = (wiM (fun k => sumI (crG σ (nI k)) 80) (k9 + 1)).1 := (by first | rfl | (simp only [wiM, c_1, c_1', c_2, c_2', c_3, c_3', ↓reduceIte, Bool.false_eq_true, bI_true, bI_false, Bool.true_and, Bool.and_true, Bool.and_false, Bool.false_and, Bool.not_true, Bool.not_false, Bool.or_true, Bool.true_or, Bool.or_false, Bool.false_or] <;> rfl) | (simp [wiM, c_1, c_1', c_2, c_2', c_3, c_3']; done))
            rw [q_7] at hl
            exact ih  ((k9 + 1)) (by omega) (by omega) H locs hP hD hS ls (lv_sub hl [0, 1, 2, 4] rfl)
        · have c_2' := Int32.not_le.mp c_2
          refine lv_iload_n hx hb dX6_widest_32 rfl (lv_at hl 1 rfl) ?_
          refine lv_goto (tgt := 37) hx hb dX6_widest_33 (by decide) ?_
          refine lv_istore_n (lv' := [(1, .int (nI (k9))), (4, .int (sumI (crG σ (nI (k9))) 80)), (3, .int (nI (k9))), (2, .int ((wiM (fun k => sumI (crG σ (nI k)) 80) k9).2)), (0, .ref (md 0))]) hx hb dX6_widest_37 rfl hl (by decide) rfl (fun ls hl => ?_)
          refine lv_iload hx hb dX6_widest_38 (lv_at hl 1 rfl) ?_
          refine lv_iload_n hx hb dX6_widest_40 rfl (lv_at hl 3 rfl) ?_
          refine lv_icmp_le (tgt := 49) hx hb dX6_widest_41 (by decide) (fun c_8 => ?_) (fun c_8 => ?_)
          · have c_8' := Int32.not_lt.mpr c_8
            refine lv_iload_n hx hb dX6_widest_49 rfl (lv_at hl 3 rfl) ?_
            refine lv_istore_n (lv' := [(2, .int ((wiM (fun k => sumI (crG σ (nI k)) 80) k9).2)), (1, .int (nI (k9))), (4, .int (sumI (crG σ (nI (k9))) 80)), (3, .int (nI (k9))), (0, .ref (md 0))]) hx hb dX6_widest_50 rfl hl (by decide) rfl (fun ls hl => ?_)
            refine fr_iinc (k9) ((k9 + 1)) (nI_inc _) (lv' := [(3, .int (nI ((k9 + 1)))), (2, .int ((wiM (fun k => sumI (crG σ (nI k)) 80) k9).2)), (1, .int (nI (k9))), (4, .int (sumI (crG σ (nI (k9))) 80)), (0, .ref (md 0))]) (k := 3) hx hb dX6_widest_51 hl rfl (by decide) rfl (fun ls hl => ?_)
            refine lv_goto (tgt := 7) hx hb dX6_widest_54 (by decide) ?_
            have q_9 : ((wiM (fun k => sumI (crG σ (nI k)) 80) k9).2 : Int32) = (wiM (fun k => sumI (crG σ (nI k)) 80) (k9 + 1)).2 := (by first | rfl | (simp only [wiM, c_1, c_1', c_2, c_2', c_8, c_8', ↓reduceIte, Bool.false_eq_true, bI_true, bI_false, Bool.true_and, Bool.and_true, Bool.and_false, Bool.false_and, Bool.not_true, Bool.not_false, Bool.or_true, Bool.true_or, Bool.or_false, Bool.false_or] <;> rfl) | (simp [wiM, c_1, c_1', c_2, c_2', c_8, c_8']; done))
            rw [q_9] at hl
            have q_10 : (nI (k9) : Int32) = (wiM (fun k => sumI (crG σ (nI k)) 80) (k9 + 1)).1 := (by first | rfl | (simp only [wiM, c_1, c_1', c_2, c_2', c_8, c_8', ↓reduceIte, Bool.false_eq_true, bI_true, bI_false, Bool.true_and, Bool.and_true, Bool.and_false, Bool.false_and, Bool.not_true, Bool.not_false, Bool.or_true, Bool.true_or, Bool.or_false, Bool.false_or] <;> rfl) | (simp [wiM, c_1, c_1', c_2, c_2', c_8, c_8']; done))
            rw [q_10] at hl
            exact ih  ((k9 + 1)) (by omega) (by omega) H locs hP hD hS ls (lv_sub hl [0, 1, 2, 4] rfl)
          · have c_8' := Int32.not_le.mp c_8
            refine lv_iload hx hb dX6_widest_44 (lv_at hl 1 rfl) ?_
            refine lv_goto (tgt := 50) hx hb dX6_widest_46 (by decide) ?_
            refine lv_istore_n (lv' := [(2, .int (sumI (crG σ (nI (k9))) 80)), (1, .int (nI (k9))), (4, .int (sumI (crG σ (nI (k9))) 80)), (3, .int (nI (k9))), (0, .ref (md 0))]) hx hb dX6_widest_50 rfl hl (by decide) rfl (fun ls hl => ?_)
            refine fr_iinc (k9) ((k9 + 1)) (nI_inc _) (lv' := [(3, .int (nI ((k9 + 1)))), (2, .int (sumI (crG σ (nI (k9))) 80)), (1, .int (nI (k9))), (4, .int (sumI (crG σ (nI (k9))) 80)), (0, .ref (md 0))]) (k := 3) hx hb dX6_widest_51 hl rfl (by decide) rfl (fun ls hl => ?_)
            refine lv_goto (tgt := 7) hx hb dX6_widest_54 (by decide) ?_
            have q_11 : (sumI (crG σ (nI (k9))) 80 : Int32) = (wiM (fun k => sumI (crG σ (nI k)) 80) (k9 + 1)).2 := (by first | rfl | (simp only [wiM, c_1, c_1', c_2, c_2', c_8, c_8', ↓reduceIte, Bool.false_eq_true, bI_true, bI_false, Bool.true_and, Bool.and_true, Bool.and_false, Bool.false_and, Bool.not_true, Bool.not_false, Bool.or_true, Bool.true_or, Bool.or_false, Bool.false_or] <;> rfl) | (simp [wiM, c_1, c_1', c_2, c_2', c_8, c_8']; done))
            rw [q_11] at hl
            have q_12 : (nI (k9) : Int32) = (wiM (fun k => sumI (crG σ (nI k)) 80) (k9 + 1)).1 := (by first | rfl | (simp only [wiM, c_1, c_1', c_2, c_2', c_8, c_8', ↓reduceIte, Bool.false_eq_true, bI_true, bI_false, Bool.true_and, Bool.and_true, Bool.and_false, Bool.false_and, Bool.not_true, Bool.not_false, Bool.or_true, Bool.true_or, Bool.or_false, Bool.false_or] <;> rfl) | (simp [wiM, c_1, c_1', c_2, c_2', c_8, c_8']; done))
            rw [q_12] at hl
            exact ih  ((k9 + 1)) (by omega) (by omega) H locs hP hD hS ls (lv_sub hl [0, 1, 2, 4] rfl)
  have q_13 : (nI 0 : Int32) = (wiM (fun k => sumI (crG σ (nI k)) 80) 0).2 := (by first | rfl | (simp only [wiM, ↓reduceIte, Bool.false_eq_true, bI_true, bI_false, Bool.true_and, Bool.and_true, Bool.and_false, Bool.false_and, Bool.not_true, Bool.not_false, Bool.or_true, Bool.true_or, Bool.or_false, Bool.false_or] <;> rfl) | (simp [wiM]; done))
  rw [q_13] at hl
  have q_14 : ((-6) : Int32) = (wiM (fun k => sumI (crG σ (nI k)) 80) 0).1 := (by first | rfl | (simp only [wiM, ↓reduceIte, Bool.false_eq_true, bI_true, bI_false, Bool.true_and, Bool.and_true, Bool.and_false, Bool.false_and, Bool.not_true, Bool.not_false, Bool.or_true, Bool.true_or, Bool.or_false, Bool.false_or] <;> rfl) | (simp [wiM]; done))
  rw [q_14] at hl
  exact loop7 (tn (σ 256) + 1) (0) (by omega) (by omega) _ _ hP hD hS ls (lv_sub hl [0, 1, 2, 3] rfl)

set_option maxHeartbeats 8000000 in
set_option maxRecDepth 100000 in
theorem kX6_bestScrub (l : Launch) (D : va_G) (T : Nat → ClassId) (Z : ZZ) (md : Nat → Nat) (n : Nat) (len : Nat) (p : Nat) (le : Nat) (σ : MS)  : CtI l D T Z yX6_bestScrub wsX6_bestScrub ({ frames := 3, cells := 0, slots := 0, locals := 68 }) [[((md 0), .inr (6, [.ref (md 1), .int (nI (n)), .ref (md 2), .int (nI (len)), .int (nI (p)), .int (nI (le)), .ref (md 3), .ref (md 4)]))], [((md 1), .inl (T 0, 1872, .inl (σ)))]] [.ref (md 0)] ((wiM (fun k => sumI (heM σ (4 * k)) (4 * k + 4 - 4 * k)) 8).1) [[((md 0), .inr (6, [.ref (md 1), .int (nI (n)), .ref (md 2), .int (nI (len)), .int (nI (p)), .int (nI (le)), .ref (md 3), .ref (md 4)]))], [((md 1), .inl (T 0, 1872, .inl (σ)))]] := by
  refine CtI.of (cc := cX6_bestScrub) (maxL := 5) (ret := (some .int)) (plainFor_of_name (by decide)) rfl rfl ?_
  intro pP eE s mM bW mE cC A hE hK hN hM hP hD hA
  obtain ⟨hx, hb, hr, hts, hown, hml, hlk⟩ := hE
  have hown : s.vm.findClass RX6 = some mM.cls := hown
  have hS : va_S A s.heap s.heap [] := va_S.rf
  have hl := lv_entry ([.ref (md 0)]) (n := 5) (Nat.le_of_ble_eq_true rfl)
  rw [lg_entry_eq]
  generalize (lg_sl ([.ref (md 0)]) ++ List.replicate (5 - (lg_sl ([.ref (md 0)])).length) Slot.unset).toArray = ls at hl ⊢
  have hl : lv_has ls 5 [(0, .ref (md 0))] := hl
  refine lv_bipush (v := (-6)) hx hb dX6_bestScrub_0 (by decide) ?_
  refine lv_istore_n (lv' := [(1, .int ((-6))), (0, .ref (md 0))]) hx hb dX6_bestScrub_2 rfl hl (by decide) rfl (fun ls hl => ?_)
  refine lv_iconst (v := nI 0) hx hb dX6_bestScrub_3 (by decide) ?_
  refine lv_istore_n (lv' := [(2, .int (nI 0)), (1, .int ((-6))), (0, .ref (md 0))]) hx hb dX6_bestScrub_4 rfl hl (by decide) rfl (fun ls hl => ?_)
  refine lv_iconst (v := nI 0) hx hb dX6_bestScrub_5 (by decide) ?_
  refine lv_istore_n (lv' := [(3, .int (nI 0)), (2, .int (nI 0)), (1, .int ((-6))), (0, .ref (md 0))]) hx hb dX6_bestScrub_6 rfl hl (by decide) rfl (fun ls hl => ?_)
  have loop7 : ∀ (n9 k9 : Nat), k9 ≤ 8 → 8 < k9 + n9 → ∀ (H : Heap) (locs : List Loc), frP D [[((md 0), .inr (6, [.ref (md 1), .int (nI (n)), .ref (md 2), .int (nI (len)), .int (nI (p)), .int (nI (le)), .ref (md 3), .ref (md 4)]))], [((md 1), .inl (T 0, 1872, .inl (σ)))]] H → va_D A ([[((md 0), .inr (6, [.ref (md 1), .int (nI (n)), .ref (md 2), .int (nI (len)), .int (nI (p)), .int (nI (le)), .ref (md 3), .ref (md 4)]))], [((md 1), .inl (T 0, 1872, .inl (σ)))]] : List va_W).flatten → va_S A s.heap H locs → ∀ (ls : Array Slot), lv_has ls 5 [(3, .int (nI (k9))), (2, .int ((wiM (fun k => sumI (heM σ (4 * k)) (4 * k + 4 - 4 * k)) k9).2)), (1, .int ((wiM (fun k => sumI (heM σ (4 * k)) (4 * k + 4 - 4 * k)) k9).1)), (0, .ref (md 0))] → W pP l eE ({ frames := 3, cells := 0, slots := 0, locals := 68 }) s mM ([.ref (md 0)] : List Value).toArray bW mE cC H locs 0 0 (MQ bW (QcI D [[((md 0), .inr (6, [.ref (md 1), .int (nI (n)), .ref (md 2), .int (nI (len)), .int (nI (p)), .int (nI (le)), .ref (md 3), .ref (md 4)]))], [((md 1), .inl (T 0, 1872, .inl (σ)))]] ((wiM (fun k => sumI (heM σ (4 * k)) (4 * k + 4 - 4 * k)) 8).1) A) ([.ref (md 0)] : List Value).toArray s 0 0 A) (F0 mM 7 ls []) := by
    intro n9
    induction n9 with
    | zero => intro k9 h1 h2; exact absurd h2 (by omega)
    | succ n9 ih =>
      intro k9 hk1 hk2 H locs hP hD hS ls hl
      refine lv_iload_n hx hb dX6_bestScrub_7 rfl (lv_at hl 0 rfl) ?_
      refine lv_bipush (v := nI 8) hx hb dX6_bestScrub_8 (by decide) ?_
      refine fr_icmp_ge (k9) (8) (by omega) (by decide) (tgt := 58) hx hb dX6_bestScrub_10 (by decide) (fun c_1 => ?_) (fun c_1 => ?_)
      · have c_1' := Nat.not_lt.mpr c_1
        obtain rfl : k9 = 8 := by omega
        refine lv_iload_n hx hb dX6_bestScrub_58 rfl (lv_at hl 2 rfl) ?_
        exact fr_iret hx hb hr hlk hP hS rfl rfl dX6_bestScrub_59
      · have c_1' := Nat.not_le.mpr c_1
        refine lv_aload_n hx hb dX6_bestScrub_13 rfl (lv_at hl 3 rfl) ?_
        refine lv_iconst (v := nI 4) hx hb dX6_bestScrub_14 (by decide) ?_
        refine lv_iload_n hx hb dX6_bestScrub_15 rfl (lv_at hl 0 rfl) ?_
        refine fr_imul (4) (k9) hx hb dX6_bestScrub_16 ?_
        refine lv_iconst (v := nI 4) hx hb dX6_bestScrub_17 (by decide) ?_
        refine lv_iload_n hx hb dX6_bestScrub_18 rfl (lv_at hl 0 rfl) ?_
        refine fr_imul (4) (k9) hx hb dX6_bestScrub_19 ?_
        refine lv_iconst (v := nI 4) hx hb dX6_bestScrub_20 (by decide) ?_
        refine fr_iadd ((4 * k9)) (4) hx hb dX6_bestScrub_21 ?_
        refine fr_Vi (As := [.int (nI ((4 * k9))), .int (nI (((4 * k9) + 4)))]) (rest := []) (fs' := [[((md 0), .inr (6, [.ref (md 1), .int (nI (n)), .ref (md 2), .int (nI (len)), .int (nI (p)), .int (nI (le)), .ref (md 3), .ref (md 4)]))], [((md 1), .inl (T 0, 1872, .inl (σ)))]]) (ci := 6) (q0 := (RX6, TX6, 8)) (i0 := 0) ⟨hx, hb, hml, hown, hts⟩ (kX6_healable l D T Z md n len p le σ (4 * k9) ((4 * k9) + 4) (by omega) (by omega)) (cwV 2 hts gX6_bestScrub_X6_healable rfl rfl rfl (by decide +kernel) ⟨Nat.le_of_ble_eq_true rfl, Nat.le_of_ble_eq_true rfl⟩) hK hN hM hP hD hS hA [0, 1] rfl rfl rfl rfl rfl rfl hl.1 rfl (Nat.le_of_ble_eq_true rfl) dX6_bestScrub_22 ⟨Nat.zero_le _, Nat.zero_le _⟩ (fun H locs hP hD hS => ?_)
        refine lv_istore (lv' := [(4, .int (sumI (heM σ (4 * k9)) (((4 * k9) + 4) - (4 * k9)))), (3, .int (nI (k9))), (2, .int ((wiM (fun k => sumI (heM σ (4 * k)) (4 * k + 4 - 4 * k)) k9).2)), (1, .int ((wiM (fun k => sumI (heM σ (4 * k)) (4 * k + 4 - 4 * k)) k9).1)), (0, .ref (md 0))]) hx hb dX6_bestScrub_25 hl (by decide) rfl (fun ls hl => ?_)
        refine lv_iload hx hb dX6_bestScrub_27 (lv_at hl 0 rfl) ?_
        refine lv_iload_n hx hb dX6_bestScrub_29 rfl (lv_at hl 2 rfl) ?_
        refine lv_icmp_le (tgt := 37) hx hb dX6_bestScrub_30 (by decide) (fun c_2 => ?_) (fun c_2 => ?_)
        · have c_2' := Int32.not_lt.mpr c_2
          refine lv_iload_n hx hb dX6_bestScrub_37 rfl (lv_at hl 3 rfl) ?_
          refine lv_istore_n (lv' := [(1, .int ((wiM (fun k => sumI (heM σ (4 * k)) (4 * k + 4 - 4 * k)) k9).1)), (4, .int (sumI (heM σ (4 * k9)) (((4 * k9) + 4) - (4 * k9)))), (3, .int (nI (k9))), (2, .int ((wiM (fun k => sumI (heM σ (4 * k)) (4 * k + 4 - 4 * k)) k9).2)), (0, .ref (md 0))]) hx hb dX6_bestScrub_38 rfl hl (by decide) rfl (fun ls hl => ?_)
          refine lv_iload hx hb dX6_bestScrub_39 (lv_at hl 1 rfl) ?_
          refine lv_iload_n hx hb dX6_bestScrub_41 rfl (lv_at hl 3 rfl) ?_
          refine lv_icmp_le (tgt := 50) hx hb dX6_bestScrub_42 (by decide) (fun c_3 => ?_) (fun c_3 => ?_)
          · have c_3' := Int32.not_lt.mpr c_3
            refine lv_iload_n hx hb dX6_bestScrub_50 rfl (lv_at hl 3 rfl) ?_
            refine lv_istore_n (lv' := [(2, .int ((wiM (fun k => sumI (heM σ (4 * k)) (4 * k + 4 - 4 * k)) k9).2)), (1, .int ((wiM (fun k => sumI (heM σ (4 * k)) (4 * k + 4 - 4 * k)) k9).1)), (4, .int (sumI (heM σ (4 * k9)) (((4 * k9) + 4) - (4 * k9)))), (3, .int (nI (k9))), (0, .ref (md 0))]) hx hb dX6_bestScrub_51 rfl hl (by decide) rfl (fun ls hl => ?_)
            refine fr_iinc (k9) ((k9 + 1)) (nI_inc _) (lv' := [(3, .int (nI ((k9 + 1)))), (2, .int ((wiM (fun k => sumI (heM σ (4 * k)) (4 * k + 4 - 4 * k)) k9).2)), (1, .int ((wiM (fun k => sumI (heM σ (4 * k)) (4 * k + 4 - 4 * k)) k9).1)), (4, .int (sumI (heM σ (4 * k9)) (((4 * k9) + 4) - (4 * k9)))), (0, .ref (md 0))]) (k := 3) hx hb dX6_bestScrub_52 hl rfl (by decide) rfl (fun ls hl => ?_)
            refine lv_goto (tgt := 7) hx hb dX6_bestScrub_55 (by decide) ?_
            have q_4 : ((wiM (fun k => sumI (heM σ (4 * k)) (4 * k + 4 - 4 * k)) k9).2 : Int32) = (wiM (fun k => sumI (heM σ (4 * k)) (4 * k + 4 - 4 * k)) (k9 + 1)).2 := (by first | rfl | (simp only [wiM, c_1, c_1', c_2, c_2', c_3, c_3', ↓reduceIte, Bool.false_eq_true, bI_true, bI_false, Bool.true_and, Bool.and_true, Bool.and_false, Bool.false_and, Bool.not_true, Bool.not_false, Bool.or_true, Bool.true_or, Bool.or_false, Bool.false_or] <;> rfl) | (simp [wiM, c_1, c_1', c_2, c_2', c_3, c_3']; done))
            rw [q_4] at hl
            have q_5 : ((wiM (fun k => sumI (heM σ (4 * k)) (4 * k + 4 - 4 * k)) k9).1 : Int32) = (wiM (fun k => sumI (heM σ (4 * k)) (4 * k + 4 - 4 * k)) (k9 + 1)).1 := (by first | rfl | (simp only [wiM, c_1, c_1', c_2, c_2', c_3, c_3', ↓reduceIte, Bool.false_eq_true, bI_true, bI_false, Bool.true_and, Bool.and_true, Bool.and_false, Bool.false_and, Bool.not_true, Bool.not_false, Bool.or_true, Bool.true_or, Bool.or_false, Bool.false_or] <;> rfl) | (simp [wiM, c_1, c_1', c_2, c_2', c_3, c_3']; done))
            rw [q_5] at hl
            exact ih  ((k9 + 1)) (by omega) (by omega) H locs hP hD hS ls (lv_sub hl [0, 1, 2, 4] rfl)
          · have c_3' := Int32.not_le.mp c_3
            refine lv_iload hx hb dX6_bestScrub_45 (lv_at hl 1 rfl) ?_
            refine lv_goto (tgt := 51) hx hb dX6_bestScrub_47 (by decide) ?_
            refine lv_istore_n (lv' := [(2, .int (sumI (heM σ (4 * k9)) (((4 * k9) + 4) - (4 * k9)))), (1, .int ((wiM (fun k => sumI (heM σ (4 * k)) (4 * k + 4 - 4 * k)) k9).1)), (4, .int (sumI (heM σ (4 * k9)) (((4 * k9) + 4) - (4 * k9)))), (3, .int (nI (k9))), (0, .ref (md 0))]) hx hb dX6_bestScrub_51 rfl hl (by decide) rfl (fun ls hl => ?_)
            refine fr_iinc (k9) ((k9 + 1)) (nI_inc _) (lv' := [(3, .int (nI ((k9 + 1)))), (2, .int (sumI (heM σ (4 * k9)) (((4 * k9) + 4) - (4 * k9)))), (1, .int ((wiM (fun k => sumI (heM σ (4 * k)) (4 * k + 4 - 4 * k)) k9).1)), (4, .int (sumI (heM σ (4 * k9)) (((4 * k9) + 4) - (4 * k9)))), (0, .ref (md 0))]) (k := 3) hx hb dX6_bestScrub_52 hl rfl (by decide) rfl (fun ls hl => ?_)
            refine lv_goto (tgt := 7) hx hb dX6_bestScrub_55 (by decide) ?_
            have q_6 : (sumI (heM σ (4 * k9)) (((4 * k9) + 4) - (4 * k9)) : Int32) = (wiM (fun k => sumI (heM σ (4 * k)) (4 * k + 4 - 4 * k)) (k9 + 1)).2 := (by first | rfl | (simp only [wiM, c_1, c_1', c_2, c_2', c_3, c_3', ↓reduceIte, Bool.false_eq_true, bI_true, bI_false, Bool.true_and, Bool.and_true, Bool.and_false, Bool.false_and, Bool.not_true, Bool.not_false, Bool.or_true, Bool.true_or, Bool.or_false, Bool.false_or] <;> rfl) | (simp [wiM, c_1, c_1', c_2, c_2', c_3, c_3']; done))
            rw [q_6] at hl
            have q_7 : ((wiM (fun k => sumI (heM σ (4 * k)) (4 * k + 4 - 4 * k)) k9).1 : Int32) = (wiM (fun k => sumI (heM σ (4 * k)) (4 * k + 4 - 4 * k)) (k9 + 1)).1 := (by first | rfl | (simp only [wiM, c_1, c_1', c_2, c_2', c_3, c_3', ↓reduceIte, Bool.false_eq_true, bI_true, bI_false, Bool.true_and, Bool.and_true, Bool.and_false, Bool.false_and, Bool.not_true, Bool.not_false, Bool.or_true, Bool.true_or, Bool.or_false, Bool.false_or] <;> rfl) | (simp [wiM, c_1, c_1', c_2, c_2', c_3, c_3']; done))
            rw [q_7] at hl
            exact ih  ((k9 + 1)) (by omega) (by omega) H locs hP hD hS ls (lv_sub hl [0, 1, 2, 4] rfl)
        · have c_2' := Int32.not_le.mp c_2
          refine lv_iload_n hx hb dX6_bestScrub_33 rfl (lv_at hl 1 rfl) ?_
          refine lv_goto (tgt := 38) hx hb dX6_bestScrub_34 (by decide) ?_
          refine lv_istore_n (lv' := [(1, .int (nI (k9))), (4, .int (sumI (heM σ (4 * k9)) (((4 * k9) + 4) - (4 * k9)))), (3, .int (nI (k9))), (2, .int ((wiM (fun k => sumI (heM σ (4 * k)) (4 * k + 4 - 4 * k)) k9).2)), (0, .ref (md 0))]) hx hb dX6_bestScrub_38 rfl hl (by decide) rfl (fun ls hl => ?_)
          refine lv_iload hx hb dX6_bestScrub_39 (lv_at hl 1 rfl) ?_
          refine lv_iload_n hx hb dX6_bestScrub_41 rfl (lv_at hl 3 rfl) ?_
          refine lv_icmp_le (tgt := 50) hx hb dX6_bestScrub_42 (by decide) (fun c_8 => ?_) (fun c_8 => ?_)
          · have c_8' := Int32.not_lt.mpr c_8
            refine lv_iload_n hx hb dX6_bestScrub_50 rfl (lv_at hl 3 rfl) ?_
            refine lv_istore_n (lv' := [(2, .int ((wiM (fun k => sumI (heM σ (4 * k)) (4 * k + 4 - 4 * k)) k9).2)), (1, .int (nI (k9))), (4, .int (sumI (heM σ (4 * k9)) (((4 * k9) + 4) - (4 * k9)))), (3, .int (nI (k9))), (0, .ref (md 0))]) hx hb dX6_bestScrub_51 rfl hl (by decide) rfl (fun ls hl => ?_)
            refine fr_iinc (k9) ((k9 + 1)) (nI_inc _) (lv' := [(3, .int (nI ((k9 + 1)))), (2, .int ((wiM (fun k => sumI (heM σ (4 * k)) (4 * k + 4 - 4 * k)) k9).2)), (1, .int (nI (k9))), (4, .int (sumI (heM σ (4 * k9)) (((4 * k9) + 4) - (4 * k9)))), (0, .ref (md 0))]) (k := 3) hx hb dX6_bestScrub_52 hl rfl (by decide) rfl (fun ls hl => ?_)
            refine lv_goto (tgt := 7) hx hb dX6_bestScrub_55 (by decide) ?_
            have q_9 : ((wiM (fun k => sumI (heM σ (4 * k)) (4 * k + 4 - 4 * k)) k9).2 : Int32) = (wiM (fun k => sumI (heM σ (4 * k)) (4 * k + 4 - 4 * k)) (k9 + 1)).2 := (by first | rfl | (simp only [wiM, c_1, c_1', c_2, c_2', c_8, c_8', ↓reduceIte, Bool.false_eq_true, bI_true, bI_false, Bool.true_and, Bool.and_true, Bool.and_false, Bool.false_and, Bool.not_true, Bool.not_false, Bool.or_true, Bool.true_or, Bool.or_false, Bool.false_or] <;> rfl) | (simp [wiM, c_1, c_1', c_2, c_2', c_8, c_8']; done))
            rw [q_9] at hl
            have q_10 : (nI (k9) : Int32) = (wiM (fun k => sumI (heM σ (4 * k)) (4 * k + 4 - 4 * k)) (k9 + 1)).1 := (by first | rfl | (simp only [wiM, c_1, c_1', c_2, c_2', c_8, c_8', ↓reduceIte, Bool.false_eq_true, bI_true, bI_false, Bool.true_and, Bool.and_true, Bool.and_false, Bool.false_and, Bool.not_true, Bool.not_false, Bool.or_true, Bool.true_or, Bool.or_false, Bool.false_or] <;> rfl) | (simp [wiM, c_1, c_1', c_2, c_2', c_8, c_8']; done))
            rw [q_10] at hl
            exact ih  ((k9 + 1)) (by omega) (by omega) H locs hP hD hS ls (lv_sub hl [0, 1, 2, 4] rfl)
          · have c_8' := Int32.not_le.mp c_8
            refine lv_iload hx hb dX6_bestScrub_45 (lv_at hl 1 rfl) ?_
            refine lv_goto (tgt := 51) hx hb dX6_bestScrub_47 (by decide) ?_
            refine lv_istore_n (lv' := [(2, .int (sumI (heM σ (4 * k9)) (((4 * k9) + 4) - (4 * k9)))), (1, .int (nI (k9))), (4, .int (sumI (heM σ (4 * k9)) (((4 * k9) + 4) - (4 * k9)))), (3, .int (nI (k9))), (0, .ref (md 0))]) hx hb dX6_bestScrub_51 rfl hl (by decide) rfl (fun ls hl => ?_)
            refine fr_iinc (k9) ((k9 + 1)) (nI_inc _) (lv' := [(3, .int (nI ((k9 + 1)))), (2, .int (sumI (heM σ (4 * k9)) (((4 * k9) + 4) - (4 * k9)))), (1, .int (nI (k9))), (4, .int (sumI (heM σ (4 * k9)) (((4 * k9) + 4) - (4 * k9)))), (0, .ref (md 0))]) (k := 3) hx hb dX6_bestScrub_52 hl rfl (by decide) rfl (fun ls hl => ?_)
            refine lv_goto (tgt := 7) hx hb dX6_bestScrub_55 (by decide) ?_
            have q_11 : (sumI (heM σ (4 * k9)) (((4 * k9) + 4) - (4 * k9)) : Int32) = (wiM (fun k => sumI (heM σ (4 * k)) (4 * k + 4 - 4 * k)) (k9 + 1)).2 := (by first | rfl | (simp only [wiM, c_1, c_1', c_2, c_2', c_8, c_8', ↓reduceIte, Bool.false_eq_true, bI_true, bI_false, Bool.true_and, Bool.and_true, Bool.and_false, Bool.false_and, Bool.not_true, Bool.not_false, Bool.or_true, Bool.true_or, Bool.or_false, Bool.false_or] <;> rfl) | (simp [wiM, c_1, c_1', c_2, c_2', c_8, c_8']; done))
            rw [q_11] at hl
            have q_12 : (nI (k9) : Int32) = (wiM (fun k => sumI (heM σ (4 * k)) (4 * k + 4 - 4 * k)) (k9 + 1)).1 := (by first | rfl | (simp only [wiM, c_1, c_1', c_2, c_2', c_8, c_8', ↓reduceIte, Bool.false_eq_true, bI_true, bI_false, Bool.true_and, Bool.and_true, Bool.and_false, Bool.false_and, Bool.not_true, Bool.not_false, Bool.or_true, Bool.true_or, Bool.or_false, Bool.false_or] <;> rfl) | (simp [wiM, c_1, c_1', c_2, c_2', c_8, c_8']; done))
            rw [q_12] at hl
            exact ih  ((k9 + 1)) (by omega) (by omega) H locs hP hD hS ls (lv_sub hl [0, 1, 2, 4] rfl)
  have q_13 : (nI 0 : Int32) = (wiM (fun k => sumI (heM σ (4 * k)) (4 * k + 4 - 4 * k)) 0).2 := (by first | rfl | (simp only [wiM, ↓reduceIte, Bool.false_eq_true, bI_true, bI_false, Bool.true_and, Bool.and_true, Bool.and_false, Bool.false_and, Bool.not_true, Bool.not_false, Bool.or_true, Bool.true_or, Bool.or_false, Bool.false_or] <;> rfl) | (simp [wiM]; done))
  rw [q_13] at hl
  have q_14 : ((-6) : Int32) = (wiM (fun k => sumI (heM σ (4 * k)) (4 * k + 4 - 4 * k)) 0).1 := (by first | rfl | (simp only [wiM, ↓reduceIte, Bool.false_eq_true, bI_true, bI_false, Bool.true_and, Bool.and_true, Bool.and_false, Bool.false_and, Bool.not_true, Bool.not_false, Bool.or_true, Bool.true_or, Bool.or_false, Bool.false_or] <;> rfl) | (simp [wiM]; done))
  rw [q_14] at hl
  exact loop7 (8 + 1) (0) (by omega) (by omega) _ _ hP hD hS ls (lv_sub hl [0, 1, 2, 3] rfl)

set_option maxHeartbeats 8000000 in
set_option maxRecDepth 100000 in
theorem kX6_atRisk (l : Launch) (D : va_G) (T : Nat → ClassId) (Z : ZZ) (md : Nat → Nat) (n : Nat) (len : Nat) (p : Nat) (le : Nat) (σ : MS)  : CtI l D T Z yX6_atRisk wsX6_atRisk ({ frames := 1, cells := 0, slots := 0, locals := 22 }) [[((md 0), .inr (6, [.ref (md 1), .int (nI (n)), .ref (md 2), .int (nI (len)), .int (nI (p)), .int (nI (le)), .ref (md 3), .ref (md 4)]))], [((md 1), .inl (T 0, 1872, .inl (σ)))]] [.ref (md 0)] (arM σ 16) [[((md 0), .inr (6, [.ref (md 1), .int (nI (n)), .ref (md 2), .int (nI (len)), .int (nI (p)), .int (nI (le)), .ref (md 3), .ref (md 4)]))], [((md 1), .inl (T 0, 1872, .inl (σ)))]] := by
  have hrr : ∀ t r : Nat, rgt 0 t r = 0 + 192 + 3 * (4 * t + r) := fun _ _ => rfl
  refine CtI.of (cc := cX6_atRisk) (maxL := 4) (ret := (some .int)) (plainFor_of_name (by decide)) rfl rfl ?_
  intro pP eE s mM bW mE cC A hE hK hN hM hP hD hA
  obtain ⟨hx, hb, hr, hts, hown, hml, hlk⟩ := hE
  have hown : s.vm.findClass RX6 = some mM.cls := hown
  have hS : va_S A s.heap s.heap [] := va_S.rf
  have hl := lv_entry ([.ref (md 0)]) (n := 4) (Nat.le_of_ble_eq_true rfl)
  rw [lg_entry_eq]
  generalize (lg_sl ([.ref (md 0)]) ++ List.replicate (4 - (lg_sl ([.ref (md 0)])).length) Slot.unset).toArray = ls at hl ⊢
  have hl : lv_has ls 4 [(0, .ref (md 0))] := hl
  have w_7 := hts (.fieldLink RX6 7 "PoisonedMemoryModel" "s" "[I") (by decide +kernel)
  have hinX6 : ∀ w ∈ wsX60, w ∈ wsX6_atRisk := by decide +kernel
  refine lv_iconst (v := nI 0) hx hb dX6_atRisk_0 (by decide) ?_
  refine lv_istore_n (lv' := [(1, .int (nI 0)), (0, .ref (md 0))]) hx hb dX6_atRisk_1 rfl hl (by decide) rfl (fun ls hl => ?_)
  refine lv_iconst (v := nI 0) hx hb dX6_atRisk_2 (by decide) ?_
  refine lv_istore_n (lv' := [(2, .int (nI 0)), (1, .int (nI 0)), (0, .ref (md 0))]) hx hb dX6_atRisk_3 rfl hl (by decide) rfl (fun ls hl => ?_)
  have loop4 : ∀ (n9 k9 : Nat), k9 ≤ 16 → 16 < k9 + n9 → ∀ (H : Heap) (locs : List Loc), frP D [[((md 0), .inr (6, [.ref (md 1), .int (nI (n)), .ref (md 2), .int (nI (len)), .int (nI (p)), .int (nI (le)), .ref (md 3), .ref (md 4)]))], [((md 1), .inl (T 0, 1872, .inl (σ)))]] H → va_D A ([[((md 0), .inr (6, [.ref (md 1), .int (nI (n)), .ref (md 2), .int (nI (len)), .int (nI (p)), .int (nI (le)), .ref (md 3), .ref (md 4)]))], [((md 1), .inl (T 0, 1872, .inl (σ)))]] : List va_W).flatten → va_S A s.heap H locs → ∀ (ls : Array Slot), lv_has ls 4 [(2, .int (nI (k9))), (1, .int (arM σ k9)), (0, .ref (md 0))] → W pP l eE ({ frames := 1, cells := 0, slots := 0, locals := 22 }) s mM ([.ref (md 0)] : List Value).toArray bW mE cC H locs 0 0 (MQ bW (QcI D [[((md 0), .inr (6, [.ref (md 1), .int (nI (n)), .ref (md 2), .int (nI (len)), .int (nI (p)), .int (nI (le)), .ref (md 3), .ref (md 4)]))], [((md 1), .inl (T 0, 1872, .inl (σ)))]] (arM σ 16) A) ([.ref (md 0)] : List Value).toArray s 0 0 A) (F0 mM 4 ls []) := by
    intro n9
    induction n9 with
    | zero => intro k9 h1 h2; exact absurd h2 (by omega)
    | succ n9 ih =>
      intro k9 hk1 hk2 H locs hP hD hS ls hl
      have hr9 := hrr (k9 / 4) (k9 % 4)
      refine lv_iload_n hx hb dX6_atRisk_4 rfl (lv_at hl 0 rfl) ?_
      refine lv_bipush (v := nI 16) hx hb dX6_atRisk_5 (by decide) ?_
      refine fr_icmp_ge (k9) (16) (by omega) (by decide) (tgt := 70) hx hb dX6_atRisk_7 (by decide) (fun c_1 => ?_) (fun c_1 => ?_)
      · have c_1' := Nat.not_lt.mpr c_1
        obtain rfl : k9 = 16 := by omega
        refine lv_iload_n hx hb dX6_atRisk_70 rfl (lv_at hl 1 rfl) ?_
        exact fr_iret hx hb hr hlk hP hS rfl rfl dX6_atRisk_71
      · have c_1' := Nat.not_le.mpr c_1
        refine lv_aload_n hx hb dX6_atRisk_10 rfl (lv_at hl 2 rfl) ?_
        refine va_get (D := D) (ci := 6) (v := .ref (md 1)) (C := RX6) (T := TX6) (N := 8) hx hb hts hinX6 hown hK (hP.at 0 rfl) 0 rfl rfl 0 (by decide) w_7 (fun _ h9 => h9) rfl dX6_atRisk_11 ?_
        refine lv_sipush (v := nI 252) hx hb dX6_atRisk_14 (by decide) ?_
        refine lv_iload_n hx hb dX6_atRisk_17 rfl (lv_at hl 0 rfl) ?_
        refine lv_iconst (v := nI 4) hx hb dX6_atRisk_18 (by decide) ?_
        refine fr_idiv (k9) (4) (by omega) (by omega) (by omega) hx hb dX6_atRisk_19 ?_
        refine fr_iadd (252) ((k9 / 4)) hx hb dX6_atRisk_20 ?_
        refine fr_iald hx hb hK hP 1 ((252 + (k9 / 4))) rfl (by omega) (by omega) dX6_atRisk_21 ?_
        refine lv_if_ne (tgt := 46) hx hb dX6_atRisk_22 (by decide) (fun c_2 => ?_) (fun c_2 => ?_)
        · refine lv_iconst (v := nI 0) hx hb dX6_atRisk_46 (by decide) ?_
          refine lv_istore_n (lv' := [(3, .int (nI 0)), (2, .int (nI (k9))), (1, .int (arM σ k9)), (0, .ref (md 0))]) hx hb dX6_atRisk_47 rfl hl (by decide) rfl (fun ls hl => ?_)
          refine lv_iload_n hx hb dX6_atRisk_48 rfl (lv_at hl 2 rfl) ?_
          refine lv_iload_n hx hb dX6_atRisk_49 rfl (lv_at hl 0 rfl) ?_
          refine lv_if_eq (tgt := 61) hx hb dX6_atRisk_50 (by decide) (fun _ => ?_) (fun z => absurd (by decide) z)
          refine lv_iconst (v := nI 0) hx hb dX6_atRisk_61 (by decide) ?_
          refine lv_ior hx hb dX6_atRisk_62 ?_
          refine lv_istore_n (lv' := [(1, .int ((arM σ k9) ||| (nI 0))), (3, .int (nI 0)), (2, .int (nI (k9))), (0, .ref (md 0))]) hx hb dX6_atRisk_63 rfl hl (by decide) rfl (fun ls hl => ?_)
          refine fr_iinc (k9) ((k9 + 1)) (nI_inc _) (lv' := [(2, .int (nI ((k9 + 1)))), (1, .int ((arM σ k9) ||| (nI 0))), (3, .int (nI 0)), (0, .ref (md 0))]) (k := 2) hx hb dX6_atRisk_64 hl rfl (by decide) rfl (fun ls hl => ?_)
          refine lv_goto (tgt := 4) hx hb dX6_atRisk_67 (by decide) ?_
          have q_3 : ((arM σ k9) ||| (nI 0) : Int32) = arM σ (k9 + 1) := (by first | rfl | (simp only [arM, arG, decide_true, decide_false, c_1, c_1', c_2, ↓reduceIte, Bool.false_eq_true, bI_true, bI_false, Bool.true_and, Bool.and_true, Bool.and_false, Bool.false_and, Bool.not_true, Bool.not_false, Bool.or_true, Bool.true_or, Bool.or_false, Bool.false_or] <;> rfl) | (simp [arM, arG, decide_true, decide_false, c_1, c_1', c_2]; done))
          rw [q_3] at hl
          exact ih  ((k9 + 1)) (by omega) (by omega) H locs hP hD hS ls (lv_sub hl [0, 1, 3] rfl)
        · refine lv_aload_n hx hb dX6_atRisk_25 rfl (lv_at hl 2 rfl) ?_
          refine lv_iconst (v := nI 0) hx hb dX6_atRisk_26 (by decide) ?_
          refine lv_iload_n hx hb dX6_atRisk_27 rfl (lv_at hl 0 rfl) ?_
          refine lv_iconst (v := nI 4) hx hb dX6_atRisk_28 (by decide) ?_
          refine fr_idiv (k9) (4) (by omega) (by omega) (by omega) hx hb dX6_atRisk_29 ?_
          refine lv_iload_n hx hb dX6_atRisk_30 rfl (lv_at hl 0 rfl) ?_
          refine lv_iconst (v := nI 4) hx hb dX6_atRisk_31 (by decide) ?_
          refine fr_irem (k9) (4) (by omega) (by omega) (by omega) hx hb dX6_atRisk_32 ?_
          refine fr_S0 (As := [.int (nI 0), .int (nI ((k9 / 4))), .int (nI ((k9 % 4)))]) (rest := [.ref (md 0)]) ⟨hx, hb, hml, hown, hts⟩ (kX6_registerAt l D T Z 0 (k9 / 4) (k9 % 4)) (va_cwS 3 hts gX6_atRisk_X6_registerAt rfl rfl rfl (by decide +kernel) ⟨Nat.le_of_ble_eq_true rfl, Nat.le_of_ble_eq_true rfl⟩) hK hN hM hP hD hS hA rfl hl.1 rfl (Nat.le_of_ble_eq_true rfl) dX6_atRisk_33 ⟨Nat.zero_le _, Nat.zero_le _⟩ (fun H locs hP hD hS => ?_)
          refine fr_Vi (As := [.int (nI (rgt 0 (k9 / 4) (k9 % 4)))]) (rest := []) (fs' := [[((md 0), .inr (6, [.ref (md 1), .int (nI (n)), .ref (md 2), .int (nI (len)), .int (nI (p)), .int (nI (le)), .ref (md 3), .ref (md 4)]))], [((md 1), .inl (T 0, 1872, .inl (σ)))]]) (ci := 6) (q0 := (RX6, TX6, 8)) (i0 := 0) ⟨hx, hb, hml, hown, hts⟩ (kX6_isPoisoned l D T Z md n len p le σ (rgt 0 (k9 / 4) (k9 % 4)) (by omega)) (cwV 1 hts gX6_atRisk_X6_isPoisoned rfl rfl rfl (by decide +kernel) ⟨Nat.le_of_ble_eq_true rfl, Nat.le_of_ble_eq_true rfl⟩) hK hN hM hP hD hS hA [0, 1] rfl rfl rfl rfl rfl rfl hl.1 rfl (Nat.le_of_ble_eq_true rfl) dX6_atRisk_36 ⟨Nat.zero_le _, Nat.zero_le _⟩ (fun H locs hP hD hS => ?_)
          refine fr_ifeq_b (tgt := 46) hx hb dX6_atRisk_39 (by decide) (fun c_4 => ?_) (fun c_4 => ?_)
          · refine lv_iconst (v := nI 0) hx hb dX6_atRisk_46 (by decide) ?_
            refine lv_istore_n (lv' := [(3, .int (nI 0)), (2, .int (nI (k9))), (1, .int (arM σ k9)), (0, .ref (md 0))]) hx hb dX6_atRisk_47 rfl hl (by decide) rfl (fun ls hl => ?_)
            refine lv_iload_n hx hb dX6_atRisk_48 rfl (lv_at hl 2 rfl) ?_
            refine lv_iload_n hx hb dX6_atRisk_49 rfl (lv_at hl 0 rfl) ?_
            refine lv_if_eq (tgt := 61) hx hb dX6_atRisk_50 (by decide) (fun _ => ?_) (fun z => absurd (by decide) z)
            refine lv_iconst (v := nI 0) hx hb dX6_atRisk_61 (by decide) ?_
            refine lv_ior hx hb dX6_atRisk_62 ?_
            refine lv_istore_n (lv' := [(1, .int ((arM σ k9) ||| (nI 0))), (3, .int (nI 0)), (2, .int (nI (k9))), (0, .ref (md 0))]) hx hb dX6_atRisk_63 rfl hl (by decide) rfl (fun ls hl => ?_)
            refine fr_iinc (k9) ((k9 + 1)) (nI_inc _) (lv' := [(2, .int (nI ((k9 + 1)))), (1, .int ((arM σ k9) ||| (nI 0))), (3, .int (nI 0)), (0, .ref (md 0))]) (k := 2) hx hb dX6_atRisk_64 hl rfl (by decide) rfl (fun ls hl => ?_)
            refine lv_goto (tgt := 4) hx hb dX6_atRisk_67 (by decide) ?_
            have q_5 : ((arM σ k9) ||| (nI 0) : Int32) = arM σ (k9 + 1) := (by first | rfl | (simp only [arM, arG, decide_true, decide_false, c_1, c_1', c_2, c_4, ↓reduceIte, Bool.false_eq_true, bI_true, bI_false, Bool.true_and, Bool.and_true, Bool.and_false, Bool.false_and, Bool.not_true, Bool.not_false, Bool.or_true, Bool.true_or, Bool.or_false, Bool.false_or] <;> rfl) | (simp [arM, arG, decide_true, decide_false, c_1, c_1', c_2, c_4]; done))
            rw [q_5] at hl
            exact ih  ((k9 + 1)) (by omega) (by omega) H locs hP hD hS ls (lv_sub hl [0, 1, 3] rfl)
          · refine lv_iconst (v := nI 1) hx hb dX6_atRisk_42 (by decide) ?_
            refine lv_goto (tgt := 47) hx hb dX6_atRisk_43 (by decide) ?_
            refine lv_istore_n (lv' := [(3, .int (nI 1)), (2, .int (nI (k9))), (1, .int (arM σ k9)), (0, .ref (md 0))]) hx hb dX6_atRisk_47 rfl hl (by decide) rfl (fun ls hl => ?_)
            refine lv_iload_n hx hb dX6_atRisk_48 rfl (lv_at hl 2 rfl) ?_
            refine lv_iload_n hx hb dX6_atRisk_49 rfl (lv_at hl 0 rfl) ?_
            refine lv_if_eq (tgt := 61) hx hb dX6_atRisk_50 (by decide) (fun z => absurd z (by decide)) (fun _ => ?_)
            refine lv_iconst (v := nI 1) hx hb dX6_atRisk_53 (by decide) ?_
            refine lv_iload_n hx hb dX6_atRisk_54 rfl (lv_at hl 1 rfl) ?_
            refine lv_iconst (v := nI 4) hx hb dX6_atRisk_55 (by decide) ?_
            refine fr_idiv (k9) (4) (by omega) (by omega) (by omega) hx hb dX6_atRisk_56 ?_
            refine lv_ishl hx hb dX6_atRisk_57 ?_
            refine lv_goto (tgt := 62) hx hb dX6_atRisk_58 (by decide) ?_
            refine lv_ior hx hb dX6_atRisk_62 ?_
            refine lv_istore_n (lv' := [(1, .int ((arM σ k9) ||| ((nI 1) <<< ((nI ((k9 / 4))) &&& 31)))), (3, .int (nI 1)), (2, .int (nI (k9))), (0, .ref (md 0))]) hx hb dX6_atRisk_63 rfl hl (by decide) rfl (fun ls hl => ?_)
            refine fr_iinc (k9) ((k9 + 1)) (nI_inc _) (lv' := [(2, .int (nI ((k9 + 1)))), (1, .int ((arM σ k9) ||| ((nI 1) <<< ((nI ((k9 / 4))) &&& 31)))), (3, .int (nI 1)), (0, .ref (md 0))]) (k := 2) hx hb dX6_atRisk_64 hl rfl (by decide) rfl (fun ls hl => ?_)
            refine lv_goto (tgt := 4) hx hb dX6_atRisk_67 (by decide) ?_
            have q_6 : ((arM σ k9) ||| ((nI 1) <<< ((nI ((k9 / 4))) &&& 31)) : Int32) = arM σ (k9 + 1) := (by first | rfl | (simp only [arM, arG, decide_true, decide_false, c_1, c_1', c_2, c_4, ↓reduceIte, Bool.false_eq_true, bI_true, bI_false, Bool.true_and, Bool.and_true, Bool.and_false, Bool.false_and, Bool.not_true, Bool.not_false, Bool.or_true, Bool.true_or, Bool.or_false, Bool.false_or] <;> rfl) | (simp [arM, arG, decide_true, decide_false, c_1, c_1', c_2, c_4]; done))
            rw [q_6] at hl
            exact ih  ((k9 + 1)) (by omega) (by omega) H locs hP hD hS ls (lv_sub hl [0, 1, 3] rfl)
  have q_7 : (nI 0 : Int32) = arM σ 0 := (by first | rfl | (simp only [arM, arG, decide_true, decide_false, ↓reduceIte, Bool.false_eq_true, bI_true, bI_false, Bool.true_and, Bool.and_true, Bool.and_false, Bool.false_and, Bool.not_true, Bool.not_false, Bool.or_true, Bool.true_or, Bool.or_false, Bool.false_or] <;> rfl) | (simp [arM, arG, decide_true, decide_false]; done))
  rw [q_7] at hl
  exact loop4 (16 + 1) (0) (by omega) (by omega) _ _ hP hD hS ls (lv_sub hl [0, 1, 2] rfl)

set_option maxHeartbeats 8000000 in
set_option maxRecDepth 100000 in
theorem kX6_poisonedIfScrubbed (l : Launch) (D : va_G) (T : Nat → ClassId) (Z : ZZ) (md : Nat → Nat) (n : Nat) (len : Nat) (p : Nat) (le : Nat) (σ : MS)  : CtI l D T Z yX6_poisonedIfScrubbed wsX6_poisonedIfScrubbed ({ frames := 3, cells := 0, slots := 0, locals := 68 }) [[((md 0), .inr (6, [.ref (md 1), .int (nI (n)), .ref (md 2), .int (nI (len)), .int (nI (p)), .int (nI (le)), .ref (md 3), .ref (md 4)]))], [((md 1), .inl (T 0, 1872, .inl (σ)))]] [.ref (md 0)] (sumI (pwM σ 0) (32 - 0) - sumI (heM σ 0) (32 - 0)) [[((md 0), .inr (6, [.ref (md 1), .int (nI (n)), .ref (md 2), .int (nI (len)), .int (nI (p)), .int (nI (le)), .ref (md 3), .ref (md 4)]))], [((md 1), .inl (T 0, 1872, .inl (σ)))]] := by
  refine CtI.of (cc := cX6_poisonedIfScrubbed) (maxL := 1) (ret := (some .int)) (plainFor_of_name (by decide)) rfl rfl ?_
  intro pP eE s mM bW mE cC A hE hK hN hM hP hD hA
  obtain ⟨hx, hb, hr, hts, hown, hml, hlk⟩ := hE
  have hown : s.vm.findClass RX6 = some mM.cls := hown
  have hS : va_S A s.heap s.heap [] := va_S.rf
  have hl := lv_entry ([.ref (md 0)]) (n := 1) (Nat.le_of_ble_eq_true rfl)
  rw [lg_entry_eq]
  generalize (lg_sl ([.ref (md 0)]) ++ List.replicate (1 - (lg_sl ([.ref (md 0)])).length) Slot.unset).toArray = ls at hl ⊢
  have hl : lv_has ls 1 [(0, .ref (md 0))] := hl
  refine lv_aload_n hx hb dX6_poisonedIfScrubbed_0 rfl (lv_at hl 0 rfl) ?_
  refine lv_iconst (v := nI 0) hx hb dX6_poisonedIfScrubbed_1 (by decide) ?_
  refine lv_bipush (v := nI 32) hx hb dX6_poisonedIfScrubbed_2 (by decide) ?_
  refine fr_Vi (As := [.int (nI 0), .int (nI 32)]) (rest := []) (fs' := [[((md 0), .inr (6, [.ref (md 1), .int (nI (n)), .ref (md 2), .int (nI (len)), .int (nI (p)), .int (nI (le)), .ref (md 3), .ref (md 4)]))], [((md 1), .inl (T 0, 1872, .inl (σ)))]]) (ci := 6) (q0 := (RX6, TX6, 8)) (i0 := 0) ⟨hx, hb, hml, hown, hts⟩ (kX6_poisonedWords l D T Z md n len p le σ 0 32 (by decide) (by decide)) (cwV 2 hts gX6_poisonedIfScrubbed_X6_poisonedWords rfl rfl rfl (by decide +kernel) ⟨Nat.le_of_ble_eq_true rfl, Nat.le_of_ble_eq_true rfl⟩) hK hN hM hP hD hS hA [0, 1] rfl rfl rfl rfl rfl rfl hl.1 rfl (Nat.le_of_ble_eq_true rfl) dX6_poisonedIfScrubbed_4 ⟨Nat.zero_le _, Nat.zero_le _⟩ (fun H locs hP hD hS => ?_)
  refine lv_aload_n hx hb dX6_poisonedIfScrubbed_7 rfl (lv_at hl 0 rfl) ?_
  refine lv_iconst (v := nI 0) hx hb dX6_poisonedIfScrubbed_8 (by decide) ?_
  refine lv_bipush (v := nI 32) hx hb dX6_poisonedIfScrubbed_9 (by decide) ?_
  refine fr_Vi (As := [.int (nI 0), .int (nI 32)]) (rest := [.int (sumI (pwM σ 0) (32 - 0))]) (fs' := [[((md 0), .inr (6, [.ref (md 1), .int (nI (n)), .ref (md 2), .int (nI (len)), .int (nI (p)), .int (nI (le)), .ref (md 3), .ref (md 4)]))], [((md 1), .inl (T 0, 1872, .inl (σ)))]]) (ci := 6) (q0 := (RX6, TX6, 8)) (i0 := 0) ⟨hx, hb, hml, hown, hts⟩ (kX6_healable l D T Z md n len p le σ 0 32 (by decide) (by decide)) (cwV 2 hts gX6_poisonedIfScrubbed_X6_healable rfl rfl rfl (by decide +kernel) ⟨Nat.le_of_ble_eq_true rfl, Nat.le_of_ble_eq_true rfl⟩) hK hN hM hP hD hS hA [0, 1] rfl rfl rfl rfl rfl rfl hl.1 rfl (Nat.le_of_ble_eq_true rfl) dX6_poisonedIfScrubbed_11 ⟨Nat.zero_le _, Nat.zero_le _⟩ (fun H locs hP hD hS => ?_)
  refine lv_isub hx hb dX6_poisonedIfScrubbed_14 ?_
  exact fr_iret hx hb hr hlk hP hS (by first | rfl | (simp only [↓reduceIte, Bool.false_eq_true, bI_true, bI_false, Bool.true_and, Bool.and_true, Bool.and_false, Bool.false_and, Bool.not_true, Bool.not_false, Bool.or_true, Bool.true_or, Bool.or_false, Bool.false_or] <;> rfl) | (simp [bI]; done)) rfl dX6_poisonedIfScrubbed_15

set_option maxHeartbeats 8000000 in
set_option maxRecDepth 100000 in
theorem kX6_carriersWithout (l : Launch) (D : va_G) (T : Nat → ClassId) (Z : ZZ) (md : Nat → Nat) (n : Nat) (len : Nat) (p : Nat) (le : Nat) (σ : MS) (x : Int32) (w : Int32) (hi : WH (σ 256) 20) : CtI l D T Z yX6_carriersWithout wsX6_carriersWithout ({ frames := 2, cells := 0, slots := 0, locals := 45 }) [[((md 0), .inr (6, [.ref (md 1), .int (nI (n)), .ref (md 2), .int (nI (len)), .int (nI (p)), .int (nI (le)), .ref (md 3), .ref (md 4)]))], [((md 1), .inl (T 0, 1872, .inl (σ)))]] [.ref (md 0), .int (x), .int (w)] (if iN x (tn (σ 256)) && iN w 32 then sumI (crG σ x) 80 - (if σ (wdt 0 (tn w) + 1) = x then nI 1 else nI 0) else -1) [[((md 0), .inr (6, [.ref (md 1), .int (nI (n)), .ref (md 2), .int (nI (len)), .int (nI (p)), .int (nI (le)), .ref (md 3), .ref (md 4)]))], [((md 1), .inl (T 0, 1872, .inl (σ)))]] := by
  have hwd : wdt 0 (tn w) = 0 + 3 * tn w := rfl
  have hcp : cpt 0 (tn w) = 0 + 96 + 3 * tn w := rfl
  refine CtI.of (cc := cX6_carriersWithout) (maxL := 3) (ret := (some .int)) (plainFor_of_name (by decide)) rfl rfl ?_
  intro pP eE s mM bW mE cC A hE hK hN hM hP hD hA
  obtain ⟨hx, hb, hr, hts, hown, hml, hlk⟩ := hE
  have hown : s.vm.findClass RX6 = some mM.cls := hown
  have hS : va_S A s.heap s.heap [] := va_S.rf
  have hl := lv_entry ([.ref (md 0), .int (x), .int (w)]) (n := 3) (Nat.le_of_ble_eq_true rfl)
  rw [lg_entry_eq]
  generalize (lg_sl ([.ref (md 0), .int (x), .int (w)]) ++ List.replicate (3 - (lg_sl ([.ref (md 0), .int (x), .int (w)])).length) Slot.unset).toArray = ls at hl ⊢
  have hl : lv_has ls 3 [(0, .ref (md 0)), (1, .int (x)), (2, .int (w))] := hl
  have w_7 := hts (.fieldLink RX6 7 "PoisonedMemoryModel" "s" "[I") (by decide +kernel)
  have hinX6 : ∀ w ∈ wsX60, w ∈ wsX6_carriersWithout := by decide +kernel
  refine lv_aload_n hx hb dX6_carriersWithout_0 rfl (lv_at hl 0 rfl) ?_
  refine lv_iload_n hx hb dX6_carriersWithout_1 rfl (lv_at hl 1 rfl) ?_
  refine fr_Vi (As := [.int (x)]) (rest := []) (fs' := [[((md 0), .inr (6, [.ref (md 1), .int (nI (n)), .ref (md 2), .int (nI (len)), .int (nI (p)), .int (nI (le)), .ref (md 3), .ref (md 4)]))], [((md 1), .inl (T 0, 1872, .inl (σ)))]]) (ci := 6) (q0 := (RX6, TX6, 8)) (i0 := 0) ⟨hx, hb, hml, hown, hts⟩ (kX6_isOrigin l D T Z md n len p le σ x hi) (cwV 1 hts gX6_carriersWithout_X6_isOrigin rfl rfl rfl (by decide +kernel) ⟨Nat.le_of_ble_eq_true rfl, Nat.le_of_ble_eq_true rfl⟩) hK hN hM hP hD hS hA [0, 1] rfl rfl rfl rfl rfl rfl hl.1 rfl (Nat.le_of_ble_eq_true rfl) dX6_carriersWithout_2 ⟨Nat.zero_le _, Nat.zero_le _⟩ (fun H locs hP hD hS => ?_)
  refine fr_ifeq_b (tgt := 15) hx hb dX6_carriersWithout_5 (by decide) (fun c_1 => ?_) (fun c_1 => ?_)
  · refine lv_iconst (v := (-1)) hx hb dX6_carriersWithout_15 (by decide) ?_
    exact fr_iret hx hb hr hlk hP hS (by first | rfl | (simp only [c_1, ↓reduceIte, Bool.false_eq_true, bI_true, bI_false, Bool.true_and, Bool.and_true, Bool.and_false, Bool.false_and, Bool.not_true, Bool.not_false, Bool.or_true, Bool.true_or, Bool.or_false, Bool.false_or] <;> rfl) | (simp [c_1, bI]; done)) rfl dX6_carriersWithout_16
  · have e_2 := iN_eq c_1
    have e_2b := iN_lt c_1 (by omega)
    refine lv_iload_n hx hb dX6_carriersWithout_8 rfl (lv_at hl 2 rfl) ?_
    refine fr_S0 (As := [.int (w)]) (rest := []) ⟨hx, hb, hml, hown, hts⟩ (kX6_isWord l D T Z w) (va_cwS 1 hts gX6_carriersWithout_X6_isWord rfl rfl rfl (by decide +kernel) ⟨Nat.le_of_ble_eq_true rfl, Nat.le_of_ble_eq_true rfl⟩) hK hN hM hP hD hS hA rfl hl.1 rfl (Nat.le_of_ble_eq_true rfl) dX6_carriersWithout_9 ⟨Nat.zero_le _, Nat.zero_le _⟩ (fun H locs hP hD hS => ?_)
    refine fr_ifne_b (tgt := 17) hx hb dX6_carriersWithout_12 (by decide) (fun c_3 => ?_) (fun c_3 => ?_)
    · have e_4 := iN_eq c_3
      have e_4b := iN_lt c_3 (by decide)
      refine lv_aload_n hx hb dX6_carriersWithout_17 rfl (lv_at hl 0 rfl) ?_
      refine lv_iload_n hx hb dX6_carriersWithout_18 rfl (lv_at hl 1 rfl) ?_
      refine fr_val e_2 ?_
      refine fr_Vi (As := [.int (nI (tn x))]) (rest := []) (fs' := [[((md 0), .inr (6, [.ref (md 1), .int (nI (n)), .ref (md 2), .int (nI (len)), .int (nI (p)), .int (nI (le)), .ref (md 3), .ref (md 4)]))], [((md 1), .inl (T 0, 1872, .inl (σ)))]]) (ci := 6) (q0 := (RX6, TX6, 8)) (i0 := 0) ⟨hx, hb, hml, hown, hts⟩ (kX6_carriersOf l D T Z md n len p le σ (nI (tn x))) (cwV 1 hts gX6_carriersWithout_X6_carriersOf rfl rfl rfl (by decide +kernel) ⟨Nat.le_of_ble_eq_true rfl, Nat.le_of_ble_eq_true rfl⟩) hK hN hM hP hD hS hA [0, 1] rfl rfl rfl rfl rfl rfl hl.1 rfl (Nat.le_of_ble_eq_true rfl) dX6_carriersWithout_19 ⟨Nat.zero_le _, Nat.zero_le _⟩ (fun H locs hP hD hS => ?_)
      refine lv_aload_n hx hb dX6_carriersWithout_22 rfl (lv_at hl 0 rfl) ?_
      refine va_get (D := D) (ci := 6) (v := .ref (md 1)) (C := RX6) (T := TX6) (N := 8) hx hb hts hinX6 hown hK (hP.at 0 rfl) 0 rfl rfl 0 (by decide) w_7 (fun _ h9 => h9) rfl dX6_carriersWithout_23 ?_
      refine lv_iconst (v := nI 0) hx hb dX6_carriersWithout_26 (by decide) ?_
      refine lv_iload_n hx hb dX6_carriersWithout_27 rfl (lv_at hl 2 rfl) ?_
      refine fr_val e_4 ?_
      refine fr_S0 (As := [.int (nI 0), .int (nI (tn w))]) (rest := [.ref (md 1), .int (sumI (crG σ (nI (tn x))) 80)]) ⟨hx, hb, hml, hown, hts⟩ (kX6_wordAt l D T Z 0 (tn w)) (va_cwS 2 hts gX6_carriersWithout_X6_wordAt rfl rfl rfl (by decide +kernel) ⟨Nat.le_of_ble_eq_true rfl, Nat.le_of_ble_eq_true rfl⟩) hK hN hM hP hD hS hA rfl hl.1 rfl (Nat.le_of_ble_eq_true rfl) dX6_carriersWithout_28 ⟨Nat.zero_le _, Nat.zero_le _⟩ (fun H locs hP hD hS => ?_)
      refine lv_iconst (v := nI 1) hx hb dX6_carriersWithout_31 (by decide) ?_
      refine fr_iadd (wdt 0 (tn w)) (1) hx hb dX6_carriersWithout_32 ?_
      refine fr_iald hx hb hK hP 1 ((wdt 0 (tn w) + 1)) rfl (by omega) (by omega) dX6_carriersWithout_33 ?_
      refine lv_iload_n hx hb dX6_carriersWithout_34 rfl (lv_at hl 1 rfl) ?_
      refine fr_val e_2 ?_
      refine lv_icmp_ne (tgt := 42) hx hb dX6_carriersWithout_35 (by decide) (fun c_5 => ?_) (fun c_5 => ?_)
      · refine lv_iconst (v := nI 0) hx hb dX6_carriersWithout_42 (by decide) ?_
        refine lv_isub hx hb dX6_carriersWithout_43 ?_
        exact fr_iret hx hb hr hlk hP hS (by first | rfl | (simp only [c_1, c_3, c_5, ↓reduceIte, Bool.false_eq_true, bI_true, bI_false, Bool.true_and, Bool.and_true, Bool.and_false, Bool.false_and, Bool.not_true, Bool.not_false, Bool.or_true, Bool.true_or, Bool.or_false, Bool.false_or] <;> rfl) | (simp [c_1, c_3, c_5, bI]; done)) rfl dX6_carriersWithout_44
      · refine lv_iconst (v := nI 1) hx hb dX6_carriersWithout_38 (by decide) ?_
        refine lv_goto (tgt := 43) hx hb dX6_carriersWithout_39 (by decide) ?_
        refine lv_isub hx hb dX6_carriersWithout_43 ?_
        exact fr_iret hx hb hr hlk hP hS (by first | rfl | (simp only [c_1, c_3, c_5, ↓reduceIte, Bool.false_eq_true, bI_true, bI_false, Bool.true_and, Bool.and_true, Bool.and_false, Bool.false_and, Bool.not_true, Bool.not_false, Bool.or_true, Bool.true_or, Bool.or_false, Bool.false_or] <;> rfl) | (simp [c_1, c_3, c_5, bI]; done)) rfl dX6_carriersWithout_44
    · refine lv_iconst (v := (-1)) hx hb dX6_carriersWithout_15 (by decide) ?_
      exact fr_iret hx hb hr hlk hP hS (by first | rfl | (simp only [c_1, c_3, ↓reduceIte, Bool.false_eq_true, bI_true, bI_false, Bool.true_and, Bool.and_true, Bool.and_false, Bool.false_and, Bool.not_true, Bool.not_false, Bool.or_true, Bool.true_or, Bool.or_false, Bool.false_or] <;> rfl) | (simp [c_1, c_3, bI]; done)) rfl dX6_carriersWithout_16

set_option maxHeartbeats 8000000 in
set_option maxRecDepth 100000 in
theorem kX6_stoppedTasks (l : Launch) (D : va_G) (T : Nat → ClassId) (Z : ZZ) (md : Nat → Nat) (n : Nat) (len : Nat) (p : Nat) (le : Nat) (σ : MS) (b : Nat) (hb9 : b ≤ 1560) : CtI l D T Z yX6_stoppedTasks wsX6_stoppedTasks ({ frames := 0, cells := 0, slots := 0, locals := 0 }) [[((md 0), .inr (6, [.ref (md 1), .int (nI (n)), .ref (md 2), .int (nI (len)), .int (nI (p)), .int (nI (le)), .ref (md 3), .ref (md 4)]))], [((md 1), .inl (T 0, 1872, .inl (σ)))]] [.ref (md 0), .int (nI (b))] (sumI (stT σ b) 4) [[((md 0), .inr (6, [.ref (md 1), .int (nI (n)), .ref (md 2), .int (nI (len)), .int (nI (p)), .int (nI (le)), .ref (md 3), .ref (md 4)]))], [((md 1), .inl (T 0, 1872, .inl (σ)))]] := by
  refine CtI.of (cc := cX6_stoppedTasks) (maxL := 4) (ret := (some .int)) (plainFor_of_name (by decide)) rfl rfl ?_
  intro pP eE s mM bW mE cC A hE hK hN hM hP hD hA
  obtain ⟨hx, hb, hr, hts, hown, hml, hlk⟩ := hE
  have hown : s.vm.findClass RX6 = some mM.cls := hown
  have hS : va_S A s.heap s.heap [] := va_S.rf
  have hl := lv_entry ([.ref (md 0), .int (nI (b))]) (n := 4) (Nat.le_of_ble_eq_true rfl)
  rw [lg_entry_eq]
  generalize (lg_sl ([.ref (md 0), .int (nI (b))]) ++ List.replicate (4 - (lg_sl ([.ref (md 0), .int (nI (b))])).length) Slot.unset).toArray = ls at hl ⊢
  have hl : lv_has ls 4 [(0, .ref (md 0)), (1, .int (nI (b)))] := hl
  have w_7 := hts (.fieldLink RX6 7 "PoisonedMemoryModel" "s" "[I") (by decide +kernel)
  have hinX6 : ∀ w ∈ wsX60, w ∈ wsX6_stoppedTasks := by decide +kernel
  refine lv_iconst (v := nI 0) hx hb dX6_stoppedTasks_0 (by decide) ?_
  refine lv_istore_n (lv' := [(2, .int (nI 0)), (0, .ref (md 0)), (1, .int (nI (b)))]) hx hb dX6_stoppedTasks_1 rfl hl (by decide) rfl (fun ls hl => ?_)
  refine lv_iconst (v := nI 0) hx hb dX6_stoppedTasks_2 (by decide) ?_
  refine lv_istore_n (lv' := [(3, .int (nI 0)), (2, .int (nI 0)), (0, .ref (md 0)), (1, .int (nI (b)))]) hx hb dX6_stoppedTasks_3 rfl hl (by decide) rfl (fun ls hl => ?_)
  have loop4 : ∀ (n9 k9 : Nat), k9 ≤ 4 → 4 < k9 + n9 → ∀ (H : Heap) (locs : List Loc), frP D [[((md 0), .inr (6, [.ref (md 1), .int (nI (n)), .ref (md 2), .int (nI (len)), .int (nI (p)), .int (nI (le)), .ref (md 3), .ref (md 4)]))], [((md 1), .inl (T 0, 1872, .inl (σ)))]] H → va_D A ([[((md 0), .inr (6, [.ref (md 1), .int (nI (n)), .ref (md 2), .int (nI (len)), .int (nI (p)), .int (nI (le)), .ref (md 3), .ref (md 4)]))], [((md 1), .inl (T 0, 1872, .inl (σ)))]] : List va_W).flatten → va_S A s.heap H locs → ∀ (ls : Array Slot), lv_has ls 4 [(3, .int (nI (k9))), (2, .int (sumI (stT σ b) k9)), (0, .ref (md 0)), (1, .int (nI (b)))] → W pP l eE ({ frames := 0, cells := 0, slots := 0, locals := 0 }) s mM ([.ref (md 0), .int (nI (b))] : List Value).toArray bW mE cC H locs 0 0 (MQ bW (QcI D [[((md 0), .inr (6, [.ref (md 1), .int (nI (n)), .ref (md 2), .int (nI (len)), .int (nI (p)), .int (nI (le)), .ref (md 3), .ref (md 4)]))], [((md 1), .inl (T 0, 1872, .inl (σ)))]] (sumI (stT σ b) 4) A) ([.ref (md 0), .int (nI (b))] : List Value).toArray s 0 0 A) (F0 mM 4 ls []) := by
    intro n9
    induction n9 with
    | zero => intro k9 h1 h2; exact absurd h2 (by omega)
    | succ n9 ih =>
      intro k9 hk1 hk2 H locs hP hD hS ls hl
      refine lv_iload_n hx hb dX6_stoppedTasks_4 rfl (lv_at hl 0 rfl) ?_
      refine lv_iconst (v := nI 4) hx hb dX6_stoppedTasks_5 (by decide) ?_
      refine fr_icmp_ge (k9) (4) (by omega) (by decide) (tgt := 30) hx hb dX6_stoppedTasks_6 (by decide) (fun c_1 => ?_) (fun c_1 => ?_)
      · have c_1' := Nat.not_lt.mpr c_1
        obtain rfl : k9 = 4 := by omega
        refine lv_iload_n hx hb dX6_stoppedTasks_30 rfl (lv_at hl 1 rfl) ?_
        exact fr_iret hx hb hr hlk hP hS rfl rfl dX6_stoppedTasks_31
      · have c_1' := Nat.not_le.mpr c_1
        refine lv_iload_n hx hb dX6_stoppedTasks_9 rfl (lv_at hl 1 rfl) ?_
        refine lv_aload_n hx hb dX6_stoppedTasks_10 rfl (lv_at hl 2 rfl) ?_
        refine va_get (D := D) (ci := 6) (v := .ref (md 1)) (C := RX6) (T := TX6) (N := 8) hx hb hts hinX6 hown hK (hP.at 0 rfl) 0 rfl rfl 0 (by decide) w_7 (fun _ h9 => h9) rfl dX6_stoppedTasks_11 ?_
        refine lv_iload_n hx hb dX6_stoppedTasks_14 rfl (lv_at hl 3 rfl) ?_
        refine lv_sipush (v := nI 252) hx hb dX6_stoppedTasks_15 (by decide) ?_
        refine fr_iadd (b) (252) hx hb dX6_stoppedTasks_18 ?_
        refine lv_iload_n hx hb dX6_stoppedTasks_19 rfl (lv_at hl 0 rfl) ?_
        refine fr_iadd ((b + 252)) (k9) hx hb dX6_stoppedTasks_20 ?_
        refine fr_iald hx hb hK hP 1 (((b + 252) + k9)) rfl (by omega) (by omega) dX6_stoppedTasks_21 ?_
        refine lv_iadd hx hb dX6_stoppedTasks_22 ?_
        refine lv_istore_n (lv' := [(2, .int ((sumI (stT σ b) k9) + (σ ((b + 252) + k9)))), (3, .int (nI (k9))), (0, .ref (md 0)), (1, .int (nI (b)))]) hx hb dX6_stoppedTasks_23 rfl hl (by decide) rfl (fun ls hl => ?_)
        refine fr_iinc (k9) ((k9 + 1)) (nI_inc _) (lv' := [(3, .int (nI ((k9 + 1)))), (2, .int ((sumI (stT σ b) k9) + (σ ((b + 252) + k9)))), (0, .ref (md 0)), (1, .int (nI (b)))]) (k := 1) hx hb dX6_stoppedTasks_24 hl rfl (by decide) rfl (fun ls hl => ?_)
        refine lv_goto (tgt := 4) hx hb dX6_stoppedTasks_27 (by decide) ?_
        have q_2 : ((sumI (stT σ b) k9) + (σ ((b + 252) + k9)) : Int32) = sumI (stT σ b) (k9 + 1) := (by first | rfl | (simp only [sumI, stT, c_1, c_1', ↓reduceIte, Bool.false_eq_true, bI_true, bI_false, Bool.true_and, Bool.and_true, Bool.and_false, Bool.false_and, Bool.not_true, Bool.not_false, Bool.or_true, Bool.true_or, Bool.or_false, Bool.false_or] <;> rfl) | (simp [sumI, stT, c_1, c_1']; done))
        rw [q_2] at hl
        exact ih  ((k9 + 1)) (by omega) (by omega) H locs hP hD hS ls (lv_sub hl [0, 1, 2, 3] rfl)
  have q_3 : (nI 0 : Int32) = sumI (stT σ b) 0 := (by first | rfl | (simp only [sumI, stT, ↓reduceIte, Bool.false_eq_true, bI_true, bI_false, Bool.true_and, Bool.and_true, Bool.and_false, Bool.false_and, Bool.not_true, Bool.not_false, Bool.or_true, Bool.true_or, Bool.or_false, Bool.false_or] <;> rfl) | (simp [sumI, stT]; done))
  rw [q_3] at hl
  exact loop4 (4 + 1) (0) (by omega) (by omega) _ _ hP hD hS ls (lv_sub hl [0, 1, 2, 3] rfl)

set_option maxHeartbeats 8000000 in
set_option maxRecDepth 100000 in
theorem kX6_undo (l : Launch) (D : va_G) (T : Nat → ClassId) (Z : ZZ) (md : Nat → Nat) (n : Nat) (len : Nat) (p : Nat) (le : Nat) (σ : MS) (hn4 : n ≤ 4) : CtI l D T Z yX6_undo wsX6_undo ({ frames := 1, cells := 0, slots := 0, locals := 23 }) [[((md 0), .inr (6, [.ref (md 1), .int (nI (n)), .ref (md 2), .int (nI (len)), .int (nI (p)), .int (nI (le)), .ref (md 3), .ref (md 4)]))], [((md 1), .inl (T 0, 1872, .inl (σ)))]] [.ref (md 0)] (if n = 0 then -6 else nI (n - 1)) [[((md 0), .inr (6, [.ref (md 1), .int (nI (n - 1)), .ref (md 2), .int (nI (len)), .int (nI (p)), .int (nI (le)), .ref (md 3), .ref (md 4)]))], [((md 1), .inl (T 0, 1872, .inl (if n = 0 then σ else mCp σ n 0)))]] := by
  refine CtI.of (cc := cX6_undo) (maxL := 1) (ret := (some .int)) (plainFor_of_name (by decide)) rfl rfl ?_
  intro pP eE s mM bW mE cC A hE hK hN hM hP hD hA
  obtain ⟨hx, hb, hr, hts, hown, hml, hlk⟩ := hE
  have hown : s.vm.findClass RX6 = some mM.cls := hown
  have hS : va_S A s.heap s.heap [] := va_S.rf
  have hl := lv_entry ([.ref (md 0)]) (n := 1) (Nat.le_of_ble_eq_true rfl)
  rw [lg_entry_eq]
  generalize (lg_sl ([.ref (md 0)]) ++ List.replicate (1 - (lg_sl ([.ref (md 0)])).length) Slot.unset).toArray = ls at hl ⊢
  have hl : lv_has ls 1 [(0, .ref (md 0))] := hl
  have w_89 := hts (.fieldLink RX6 89 "PoisonedMemoryModel" "states" "I") (by decide +kernel)
  have hinX6 : ∀ w ∈ wsX60, w ∈ wsX6_undo := by decide +kernel
  refine lv_aload_n hx hb dX6_undo_0 rfl (lv_at hl 0 rfl) ?_
  refine va_get (D := D) (ci := 6) (v := .int (nI (n))) (C := RX6) (T := TX6) (N := 8) hx hb hts hinX6 hown hK (hP.at 0 rfl) 0 rfl rfl 1 (by decide) w_89 (fun _ h9 => h9) rfl dX6_undo_1 ?_
  refine fr_if_ne (n) (by omega) (tgt := 10) hx hb dX6_undo_4 (by decide) (fun c_1 => ?_) (fun c_1 => ?_)
  · refine lv_aload_n hx hb dX6_undo_10 rfl (lv_at hl 0 rfl) ?_
    refine lv_aload_n hx hb dX6_undo_11 rfl (lv_at hl 0 rfl) ?_
    refine va_get (D := D) (ci := 6) (v := .int (nI (n))) (C := RX6) (T := TX6) (N := 8) hx hb hts hinX6 hown hK (hP.at 0 rfl) 0 rfl rfl 1 (by decide) w_89 (fun _ h9 => h9) rfl dX6_undo_12 ?_
    refine lv_iconst (v := nI 0) hx hb dX6_undo_15 (by decide) ?_
    refine fr_Vv (As := [.int (nI (n)), .int (nI 0)]) (rest := []) (fs' := [[((md 0), .inr (6, [.ref (md 1), .int (nI (n)), .ref (md 2), .int (nI (len)), .int (nI (p)), .int (nI (le)), .ref (md 3), .ref (md 4)]))], [((md 1), .inl (T 0, 1872, .inl (mCp σ n 0)))]]) (ci := 6) (q0 := (RX6, TX6, 8)) (i0 := 0) ⟨hx, hb, hml, hown, hts⟩ (kX6_copies l D T Z md n len p le σ n 0 (by omega) (by decide)) (cwV 2 hts gX6_undo_X6_copies rfl rfl rfl (by decide +kernel) ⟨Nat.le_of_ble_eq_true rfl, Nat.le_of_ble_eq_true rfl⟩) hK hN hM hP hD hS hA [0, 1] rfl rfl rfl rfl rfl rfl hl.1 rfl (Nat.le_of_ble_eq_true rfl) dX6_undo_16 ⟨Nat.zero_le _, Nat.zero_le _⟩ (fun H locs hP hD hS => ?_)
    refine lv_aload_n hx hb dX6_undo_19 rfl (lv_at hl 0 rfl) ?_
    refine lv_dup hx hb dX6_undo_20 rfl ?_
    refine va_get (D := D) (ci := 6) (v := .int (nI (n))) (C := RX6) (T := TX6) (N := 8) hx hb hts hinX6 hown hK (hP.at 0 rfl) 0 rfl rfl 1 (by decide) w_89 (fun _ h9 => h9) rfl dX6_undo_21 ?_
    refine lv_iconst (v := nI 1) hx hb dX6_undo_24 (by decide) ?_
    refine fr_isub (n) (1) (by omega) hx hb dX6_undo_25 ?_
    refine fr_put (T := T) (C := RX6) (TT := TX6) (N := 8) (ci := 6) (v := .int (nI ((n - 1)))) (fs' := [[((md 0), .inr (6, [.ref (md 1), .int (nI ((n - 1))), .ref (md 2), .int (nI (len)), .int (nI (p)), .int (nI (le)), .ref (md 3), .ref (md 4)]))], [((md 1), .inl (T 0, 1872, .inl (mCp σ n 0)))]]) (ty := .int) hx hb hts hinX6 tyX6 tyX6_ok nmX6 hown hK hP hD hS 0 rfl rfl 1 (by decide) rfl w_89 rfl rfl (by decide +kernel) rfl rfl (Nat.le_of_ble_eq_true rfl) dX6_undo_26 (fun H locs hP hD hS => ?_)
    refine lv_aload_n hx hb dX6_undo_29 rfl (lv_at hl 0 rfl) ?_
    refine va_get (D := D) (ci := 6) (v := .int (nI ((n - 1)))) (C := RX6) (T := TX6) (N := 8) hx hb hts hinX6 hown hK (hP.at 0 rfl) 0 rfl rfl 1 (by decide) w_89 (fun _ h9 => h9) rfl dX6_undo_30 ?_
    exact fr_iret hx hb hr hlk hP hS (by first | rfl | (simp only [c_1, ↓reduceIte, Bool.false_eq_true, bI_true, bI_false, Bool.true_and, Bool.and_true, Bool.and_false, Bool.false_and, Bool.not_true, Bool.not_false, Bool.or_true, Bool.true_or, Bool.or_false, Bool.false_or] <;> rfl) | (simp [c_1, bI]; done)) (by simp only [c_1, ↓reduceIte, Bool.false_eq_true, bI_true, bI_false, Bool.true_and, Bool.and_true, Bool.and_false, Bool.false_and, Bool.not_true, Bool.not_false, Bool.or_true, Bool.true_or, Bool.or_false, Bool.false_or] <;> rfl) dX6_undo_33
  · refine lv_bipush (v := (-6)) hx hb dX6_undo_7 (by decide) ?_
    exact fr_iret hx hb hr hlk hP hS (by first | rfl | (simp only [c_1, ↓reduceIte, Bool.false_eq_true, bI_true, bI_false, Bool.true_and, Bool.and_true, Bool.and_false, Bool.false_and, Bool.not_true, Bool.not_false, Bool.or_true, Bool.true_or, Bool.or_false, Bool.false_or] <;> rfl) | (simp [c_1, bI]; done)) (by simp only [c_1, ↓reduceIte, Bool.false_eq_true, bI_true, bI_false, Bool.true_and, Bool.and_true, Bool.and_false, Bool.false_and, Bool.not_true, Bool.not_false, Bool.or_true, Bool.true_or, Bool.or_false, Bool.false_or] <;> rfl) dX6_undo_9
