
set_option maxHeartbeats 8000000 in
set_option maxRecDepth 100000 in
theorem kX5_poisonShare (l : Launch) (D : va_G) (T : Nat → ClassId) (Z : ZZ) (AD : Nat → Nat → Nat) (ν : NS)  : CtF l D T Z yX5_poisonShare wsX5_poisonShare ({ frames := 2, cells := 0, slots := 0, locals := 45 }) (stF T (AD 0) ν ++ [maF AD]) [.ref ((AD 8) 0)] (shr (cntP (ν 1) 0 (32 - 0))) (stF T (AD 0) ν ++ [maF AD]) := by
  have hsh : cntP (ν 1) 0 (32 - 0) < 33 := by have h9 := cnt_le (fun k => ps (ν 1 (0 + k))) (32 - 0); unfold cntP; omega
  refine CtF.of (cc := cX5_poisonShare) (maxL := 1) (ret := (some .float)) (plainFor_of_name (by decide)) rfl rfl ?_
  intro pP eE s mM bW mE cC A hE hK hN hM hP hD hA
  obtain ⟨hx, hb, hr, hts, hown, hml, hlk⟩ := hE
  have hown : s.vm.findClass RX5 = some mM.cls := hown
  have hP : frP D [[(((AD 0) 0), .inr (3, [.ref ((AD 0) 1), .ref ((AD 0) 5), .ref ((AD 0) 9), .ref ((AD 0) 13), .ref ((AD 0) 14), .ref ((AD 0) 15), .ref ((AD 0) 16), .ref ((AD 0) 17), .int (ν 15 0), .int (ν 15 1)]))], [(((AD 0) 1), .inr (0, [.ref ((AD 0) 2), .ref ((AD 0) 3), .ref ((AD 0) 4)]))], [(((AD 0) 2), .inl (T 0, 32, .inl (ν 0)))], [(((AD 0) 3), .inl (T 0, 32, .inl (ν 1)))], [(((AD 0) 4), .inl (T 0, 32, .inl (ν 2)))], [(((AD 0) 5), .inr (0, [.ref ((AD 0) 6), .ref ((AD 0) 7), .ref ((AD 0) 8)]))], [(((AD 0) 6), .inl (T 0, 32, .inl (ν 3)))], [(((AD 0) 7), .inl (T 0, 32, .inl (ν 4)))], [(((AD 0) 8), .inl (T 0, 32, .inl (ν 5)))], [(((AD 0) 9), .inr (0, [.ref ((AD 0) 10), .ref ((AD 0) 11), .ref ((AD 0) 12)]))], [(((AD 0) 10), .inl (T 0, 16, .inl (ν 6)))], [(((AD 0) 11), .inl (T 0, 16, .inl (ν 7)))], [(((AD 0) 12), .inl (T 0, 16, .inl (ν 8)))], [(((AD 0) 13), .inl (T 1, 8, .inl (bf (ν 9))))], [(((AD 0) 14), .inl (T 0, 4, .inl (ν 10)))], [(((AD 0) 15), .inl (T 1, 4, .inl (bf (ν 11))))], [(((AD 0) 16), .inl (T 0, 20, .inl (ν 12)))], [(((AD 0) 17), .inr (1, [.ref ((AD 0) 18), .int (ν 14 0), .int (ν 14 1)]))], [(((AD 0) 18), .inl (T 0, 32, .inl (ν 13)))], [(((AD 8) 0), .inr (5, [.ref ((AD 0) 0), .ref ((AD 1) 0), .ref ((AD 8) 1), .ref ((AD 9) 0), .ref ((AD 7) 0)]))]] s.heap := hP
  have hD : va_D A ([[(((AD 0) 0), .inr (3, [.ref ((AD 0) 1), .ref ((AD 0) 5), .ref ((AD 0) 9), .ref ((AD 0) 13), .ref ((AD 0) 14), .ref ((AD 0) 15), .ref ((AD 0) 16), .ref ((AD 0) 17), .int (ν 15 0), .int (ν 15 1)]))], [(((AD 0) 1), .inr (0, [.ref ((AD 0) 2), .ref ((AD 0) 3), .ref ((AD 0) 4)]))], [(((AD 0) 2), .inl (T 0, 32, .inl (ν 0)))], [(((AD 0) 3), .inl (T 0, 32, .inl (ν 1)))], [(((AD 0) 4), .inl (T 0, 32, .inl (ν 2)))], [(((AD 0) 5), .inr (0, [.ref ((AD 0) 6), .ref ((AD 0) 7), .ref ((AD 0) 8)]))], [(((AD 0) 6), .inl (T 0, 32, .inl (ν 3)))], [(((AD 0) 7), .inl (T 0, 32, .inl (ν 4)))], [(((AD 0) 8), .inl (T 0, 32, .inl (ν 5)))], [(((AD 0) 9), .inr (0, [.ref ((AD 0) 10), .ref ((AD 0) 11), .ref ((AD 0) 12)]))], [(((AD 0) 10), .inl (T 0, 16, .inl (ν 6)))], [(((AD 0) 11), .inl (T 0, 16, .inl (ν 7)))], [(((AD 0) 12), .inl (T 0, 16, .inl (ν 8)))], [(((AD 0) 13), .inl (T 1, 8, .inl (bf (ν 9))))], [(((AD 0) 14), .inl (T 0, 4, .inl (ν 10)))], [(((AD 0) 15), .inl (T 1, 4, .inl (bf (ν 11))))], [(((AD 0) 16), .inl (T 0, 20, .inl (ν 12)))], [(((AD 0) 17), .inr (1, [.ref ((AD 0) 18), .int (ν 14 0), .int (ν 14 1)]))], [(((AD 0) 18), .inl (T 0, 32, .inl (ν 13)))], [(((AD 8) 0), .inr (5, [.ref ((AD 0) 0), .ref ((AD 1) 0), .ref ((AD 8) 1), .ref ((AD 9) 0), .ref ((AD 7) 0)]))]] : List va_W).flatten := hD
  have hS : va_S A s.heap s.heap [] := va_S.rf
  have hl := lv_entry ([.ref ((AD 8) 0)]) (n := 1) (Nat.le_of_ble_eq_true rfl)
  rw [lg_entry_eq]
  generalize (lg_sl ([.ref ((AD 8) 0)]) ++ List.replicate (1 - (lg_sl ([.ref ((AD 8) 0)])).length) Slot.unset).toArray = ls at hl ⊢
  have hl : lv_has ls 1 [(0, .ref ((AD 8) 0))] := hl
  have w_10 := hts (.fieldLink RX5 10 "PoisonedMemory" "state" "LPoisonedMemory$State;") (by decide +kernel)
  have hinX5 : ∀ w ∈ wsX50, w ∈ wsX5_poisonShare := by decide +kernel
  have n_136 := va_Nw.use (A := ([.ref ((AD 8) 0)] : List Value).toArray) rfl (hN.1 _ (List.mem_of_getElem? (i := 0) rfl))
  have hinX3 : ∀ w ∈ wsX30, w ∈ wsX5_poisonShare := by decide +kernel
  have w_219 := hts (.constantFloat RX5 219 (1107296256)) (by decide +kernel)
  refine lv_aload_n hx hb dX5_poisonShare_0 rfl (lv_at hl 0 rfl) ?_
  refine va_get (D := D) (ci := 5) (v := .ref ((AD 0) 0)) (C := RX5) (T := TX5) (N := 5) hx hb hts hinX5 hown hK (hP.at 19 rfl) 0 rfl rfl 0 (by decide) w_10 (fun _ h9 => h9) rfl dX5_poisonShare_1 ?_
  refine va_getN (D := D) (ci := 3) (v := .ref ((AD 0) 1)) (C := RX3) (T := TX3) (N := 10) hx hb hts hinX3 hown hK (hP.at 0 rfl) 0 rfl rfl 0 (by decide) n_136 (fun _ h9 => h9) rfl dX5_poisonShare_4 ?_
  refine lv_iconst (v := nI 0) hx hb dX5_poisonShare_7 (by decide) ?_
  refine lv_bipush (v := nI 32) hx hb dX5_poisonShare_8 (by decide) ?_
  refine fr_Vi (As := [.int (nI 0), .int (nI 32)]) (rest := []) (fs' := [[(((AD 0) 0), .inr (3, [.ref ((AD 0) 1), .ref ((AD 0) 5), .ref ((AD 0) 9), .ref ((AD 0) 13), .ref ((AD 0) 14), .ref ((AD 0) 15), .ref ((AD 0) 16), .ref ((AD 0) 17), .int (ν 15 0), .int (ν 15 1)]))], [(((AD 0) 1), .inr (0, [.ref ((AD 0) 2), .ref ((AD 0) 3), .ref ((AD 0) 4)]))], [(((AD 0) 2), .inl (T 0, 32, .inl (ν 0)))], [(((AD 0) 3), .inl (T 0, 32, .inl (ν 1)))], [(((AD 0) 4), .inl (T 0, 32, .inl (ν 2)))], [(((AD 0) 5), .inr (0, [.ref ((AD 0) 6), .ref ((AD 0) 7), .ref ((AD 0) 8)]))], [(((AD 0) 6), .inl (T 0, 32, .inl (ν 3)))], [(((AD 0) 7), .inl (T 0, 32, .inl (ν 4)))], [(((AD 0) 8), .inl (T 0, 32, .inl (ν 5)))], [(((AD 0) 9), .inr (0, [.ref ((AD 0) 10), .ref ((AD 0) 11), .ref ((AD 0) 12)]))], [(((AD 0) 10), .inl (T 0, 16, .inl (ν 6)))], [(((AD 0) 11), .inl (T 0, 16, .inl (ν 7)))], [(((AD 0) 12), .inl (T 0, 16, .inl (ν 8)))], [(((AD 0) 13), .inl (T 1, 8, .inl (bf (ν 9))))], [(((AD 0) 14), .inl (T 0, 4, .inl (ν 10)))], [(((AD 0) 15), .inl (T 1, 4, .inl (bf (ν 11))))], [(((AD 0) 16), .inl (T 0, 20, .inl (ν 12)))], [(((AD 0) 17), .inr (1, [.ref ((AD 0) 18), .int (ν 14 0), .int (ν 14 1)]))], [(((AD 0) 18), .inl (T 0, 32, .inl (ν 13)))], [(((AD 8) 0), .inr (5, [.ref ((AD 0) 0), .ref ((AD 1) 0), .ref ((AD 8) 1), .ref ((AD 9) 0), .ref ((AD 7) 0)]))]]) (ci := 0) (q0 := (RX0, TX0, 3)) (i0 := 1) ⟨hx, hb, hml, hown, hts⟩ (kX0_countPoisoned l D T Z ((AD 0) 1) ((AD 0) 2) ((AD 0) 3) ((AD 0) 4) 32 (ν 0) (ν 1) (ν 2) 0 32 (by decide) (by decide) (by decide)) (cwV 2 hts gX5_poisonShare_X0_countPoisoned rfl rfl rfl (by decide +kernel) ⟨Nat.le_of_ble_eq_true rfl, Nat.le_of_ble_eq_true rfl⟩) hK hN hM hP hD hS hA [1, 2, 3, 4] rfl rfl rfl rfl rfl rfl hl.1 rfl (Nat.le_of_ble_eq_true rfl) dX5_poisonShare_10 ⟨Nat.zero_le _, Nat.zero_le _⟩ (fun H locs hP hD hS => ?_)
  refine lv_i2f hx hb dX5_poisonShare_13 ?_
  refine lv_ldcf hx hb hown w_219 dX5_poisonShare_14 ?_
  refine lv_fdiv hx hb dX5_poisonShare_16 (shr_n (cntP (ν 1) 0 (32 - 0)) hsh) ?_
  exact fr_fret hx hb hr hlk hP hS rfl rfl dX5_poisonShare_17

set_option maxHeartbeats 8000000 in
set_option maxRecDepth 100000 in
theorem kX6_poisonShare (l : Launch) (D : va_G) (T : Nat → ClassId) (Z : ZZ) (md : Nat → Nat) (n : Nat) (len : Nat) (p : Nat) (le : Nat) (σ : MS)  : CtF l D T Z yX6_poisonShare wsX6_poisonShare ({ frames := 2, cells := 0, slots := 0, locals := 45 }) [[((md 0), .inr (6, [.ref (md 1), .int (nI (n)), .ref (md 2), .int (nI (len)), .int (nI (p)), .int (nI (le)), .ref (md 3), .ref (md 4)]))], [((md 1), .inl (T 0, 1872, .inl (σ)))]] [.ref (md 0)] (shr (cnt (fun k => ps (σ (wdt 0 (0 + k) + 1))) (32 - 0))) [[((md 0), .inr (6, [.ref (md 1), .int (nI (n)), .ref (md 2), .int (nI (len)), .int (nI (p)), .int (nI (le)), .ref (md 3), .ref (md 4)]))], [((md 1), .inl (T 0, 1872, .inl (σ)))]] := by
  have hsh : cnt (fun k => ps (σ (wdt 0 (0 + k) + 1))) (32 - 0) < 33 := by have h9 := cnt_le (fun k => ps (σ (wdt 0 (0 + k) + 1))) (32 - 0); omega
  refine CtF.of (cc := cX6_poisonShare) (maxL := 1) (ret := (some .float)) (plainFor_of_name (by decide)) rfl rfl ?_
  intro pP eE s mM bW mE cC A hE hK hN hM hP hD hA
  obtain ⟨hx, hb, hr, hts, hown, hml, hlk⟩ := hE
  have hown : s.vm.findClass RX6 = some mM.cls := hown
  have hS : va_S A s.heap s.heap [] := va_S.rf
  have hl := lv_entry ([.ref (md 0)]) (n := 1) (Nat.le_of_ble_eq_true rfl)
  rw [lg_entry_eq]
  generalize (lg_sl ([.ref (md 0)]) ++ List.replicate (1 - (lg_sl ([.ref (md 0)])).length) Slot.unset).toArray = ls at hl ⊢
  have hl : lv_has ls 1 [(0, .ref (md 0))] := hl
  have w_192 := hts (.constantFloat RX6 192 (1107296256)) (by decide +kernel)
  refine lv_aload_n hx hb dX6_poisonShare_0 rfl (lv_at hl 0 rfl) ?_
  refine lv_iconst (v := nI 0) hx hb dX6_poisonShare_1 (by decide) ?_
  refine lv_bipush (v := nI 32) hx hb dX6_poisonShare_2 (by decide) ?_
  refine fr_Vi (As := [.int (nI 0), .int (nI 32)]) (rest := []) (fs' := [[((md 0), .inr (6, [.ref (md 1), .int (nI (n)), .ref (md 2), .int (nI (len)), .int (nI (p)), .int (nI (le)), .ref (md 3), .ref (md 4)]))], [((md 1), .inl (T 0, 1872, .inl (σ)))]]) (ci := 6) (q0 := (RX6, TX6, 8)) (i0 := 0) ⟨hx, hb, hml, hown, hts⟩ (kX6_poisonedWords l D T Z md n len p le σ 0 32 (by decide) (by decide)) (cwV 2 hts gX6_poisonShare_X6_poisonedWords rfl rfl rfl (by decide +kernel) ⟨Nat.le_of_ble_eq_true rfl, Nat.le_of_ble_eq_true rfl⟩) hK hN hM hP hD hS hA [0, 1] rfl rfl rfl rfl rfl rfl hl.1 rfl (Nat.le_of_ble_eq_true rfl) dX6_poisonShare_4 ⟨Nat.zero_le _, Nat.zero_le _⟩ (fun H locs hP hD hS => ?_)
  refine fr_val (show sumI (pwM σ 0) (32 - 0) = nI (cnt (fun k => ps (σ (wdt 0 (0 + k) + 1))) (32 - 0)) from sumI_b (fun k => ps (σ (wdt 0 (0 + k) + 1))) (32 - 0)) ?_
  refine lv_i2f hx hb dX6_poisonShare_7 ?_
  refine lv_ldcf hx hb hown w_192 dX6_poisonShare_8 ?_
  refine lv_fdiv hx hb dX6_poisonShare_10 (shr_n (cnt (fun k => ps (σ (wdt 0 (0 + k) + 1))) (32 - 0)) hsh) ?_
  exact fr_fret hx hb hr hlk hP hS rfl rfl dX6_poisonShare_11
