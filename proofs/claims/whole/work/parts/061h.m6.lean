
set_option maxHeartbeats 8000000 in
set_option maxRecDepth 100000 in
theorem kX6_scrub (l : Launch) (D : va_G) (T : Nat → ClassId) (Z : ZZ) (md : Nat → Nat) (n : Nat) (len : Nat) (p : Nat) (le : Nat) (σ : MS) (x : Int32) (hn4 : n ≤ 4) : CtI l D T Z yX6_scrub wsX6_scrub ({ frames := 3, cells := 0, slots := 0, locals := 67 }) [[((md 0), .inr (6, [.ref (md 1), .int (nI (n)), .ref (md 2), .int (nI (len)), .int (nI (p)), .int (nI (le)), .ref (md 3), .ref (md 4)]))], [((md 1), .inl (T 0, 1872, .inl (σ)))]] [.ref (md 0), .int (x)] (if iN x 8 then mScrC (mCp σ 0 5) 1560 (tn x) else -1) [[((md 0), .inr (6, [.ref (md 1), .int (nI (mAN (iN x 8) n (mScrC (mCp σ 0 5) 1560 (tn x)))), .ref (md 2), .int (nI (len)), .int (nI (p)), .int (nI (le)), .ref (md 3), .ref (md 4)]))], [((md 1), .inl (T 0, 1872, .inl (mAS (iN x 8) (mScr (mCp σ 0 5) 1560 (tn x)) n (mScrC (mCp σ 0 5) 1560 (tn x)) σ)))]] := by
  refine CtI.of (cc := cX6_scrub) (maxL := 5) (ret := (some .int)) (plainFor_of_name (by decide)) rfl rfl ?_
  intro pP eE s mM bW mE cC A hE hK hN hM hP hD hA
  obtain ⟨hx, hb, hr, hts, hown, hml, hlk⟩ := hE
  have hown : s.vm.findClass RX6 = some mM.cls := hown
  have hS : va_S A s.heap s.heap [] := va_S.rf
  have hl := lv_entry ([.ref (md 0), .int (x)]) (n := 5) (Nat.le_of_ble_eq_true rfl)
  rw [lg_entry_eq]
  generalize (lg_sl ([.ref (md 0), .int (x)]) ++ List.replicate (5 - (lg_sl ([.ref (md 0), .int (x)])).length) Slot.unset).toArray = ls at hl ⊢
  have hl : lv_has ls 5 [(0, .ref (md 0)), (1, .int (x))] := hl
  refine lv_iload_n hx hb dX6_scrub_0 rfl (lv_at hl 1 rfl) ?_
  refine fr_S0 (As := [.int (x)]) (rest := []) ⟨hx, hb, hml, hown, hts⟩ (kX6_isPage l D T Z x) (va_cwS 1 hts gX6_scrub_X6_isPage rfl rfl rfl (by decide +kernel) ⟨Nat.le_of_ble_eq_true rfl, Nat.le_of_ble_eq_true rfl⟩) hK hN hM hP hD hS hA rfl hl.1 rfl (Nat.le_of_ble_eq_true rfl) dX6_scrub_1 ⟨Nat.zero_le _, Nat.zero_le _⟩ (fun H locs hP hD hS => ?_)
  refine fr_ifne_b (tgt := 9) hx hb dX6_scrub_4 (by decide) (fun c_1 => ?_) (fun c_1 => ?_)
  · have e_2 := iN_eq c_1
    have e_2b := iN_lt c_1 (by decide)
    refine lv_aload_n hx hb dX6_scrub_9 rfl (lv_at hl 0 rfl) ?_
    refine fr_Vi (As := []) (rest := []) (fs' := [[((md 0), .inr (6, [.ref (md 1), .int (nI (n)), .ref (md 2), .int (nI (len)), .int (nI (p)), .int (nI (le)), .ref (md 3), .ref (md 4)]))], [((md 1), .inl (T 0, 1872, .inl (mCp σ 0 5)))]]) (ci := 6) (q0 := (RX6, TX6, 8)) (i0 := 0) ⟨hx, hb, hml, hown, hts⟩ (kX6_begins l D T Z md n len p le σ) (cwV 0 hts gX6_scrub_X6_begins rfl rfl rfl (by decide +kernel) ⟨Nat.le_of_ble_eq_true rfl, Nat.le_of_ble_eq_true rfl⟩) hK hN hM hP hD hS hA [0, 1] rfl rfl rfl rfl rfl rfl hl.1 rfl (Nat.le_of_ble_eq_true rfl) dX6_scrub_10 ⟨Nat.zero_le _, Nat.zero_le _⟩ (fun H locs hP hD hS => ?_)
    refine lv_istore_n (lv' := [(2, .int (nI 1560)), (0, .ref (md 0)), (1, .int (x))]) hx hb dX6_scrub_13 rfl hl (by decide) rfl (fun ls hl => ?_)
    refine lv_iconst (v := nI 0) hx hb dX6_scrub_14 (by decide) ?_
    refine lv_istore_n (lv' := [(3, .int (nI 0)), (2, .int (nI 1560)), (0, .ref (md 0)), (1, .int (x))]) hx hb dX6_scrub_15 rfl hl (by decide) rfl (fun ls hl => ?_)
    refine lv_iconst (v := nI 4) hx hb dX6_scrub_16 (by decide) ?_
    refine lv_iload_n hx hb dX6_scrub_17 rfl (lv_at hl 3 rfl) ?_
    refine fr_val e_2 ?_
    refine fr_imul (4) (tn x) hx hb dX6_scrub_18 ?_
    refine lv_istore (lv' := [(4, .int (nI ((4 * tn x)))), (3, .int (nI 0)), (2, .int (nI 1560)), (0, .ref (md 0)), (1, .int (x))]) hx hb dX6_scrub_19 hl (by decide) rfl (fun ls hl => ?_)
    refine lv_iload hx hb dX6_scrub_21 (lv_at hl 0 rfl) ?_
    refine lv_iconst (v := nI 4) hx hb dX6_scrub_23 (by decide) ?_
    refine lv_iload_n hx hb dX6_scrub_24 rfl (lv_at hl 4 rfl) ?_
    refine fr_val e_2 ?_
    refine fr_imul (4) (tn x) hx hb dX6_scrub_25 ?_
    refine lv_iconst (v := nI 4) hx hb dX6_scrub_26 (by decide) ?_
    refine fr_iadd ((4 * tn x)) (4) hx hb dX6_scrub_27 ?_
    refine fr_icmp_ge ((4 * tn x)) (((4 * tn x) + 4)) (by omega) (by omega) (tgt := 47) hx hb dX6_scrub_28 (by decide) (fun z => absurd z (by omega)) (fun _ => ?_)
    refine lv_iload_n hx hb dX6_scrub_31 rfl (lv_at hl 1 rfl) ?_
    refine lv_aload_n hx hb dX6_scrub_32 rfl (lv_at hl 3 rfl) ?_
    refine lv_iload_n hx hb dX6_scrub_33 rfl (lv_at hl 2 rfl) ?_
    refine lv_iload hx hb dX6_scrub_34 (lv_at hl 0 rfl) ?_
    refine fr_Vi (As := [.int (nI 1560), .int (nI ((4 * tn x)))]) (rest := [.int (nI 0)]) (fs' := [[((md 0), .inr (6, [.ref (md 1), .int (nI (n)), .ref (md 2), .int (nI (len)), .int (nI (p)), .int (nI (le)), .ref (md 3), .ref (md 4)]))], [((md 1), .inl (T 0, 1872, .inl (mFe (mCp σ 0 5) 1560 (4 * tn x))))]]) (ci := 6) (q0 := (RX6, TX6, 8)) (i0 := 0) ⟨hx, hb, hml, hown, hts⟩ (kX6_fetches l D T Z md n len p le (mCp σ 0 5) 1560 (4 * tn x) (by decide) (by omega)) (cwV 2 hts gX6_scrub_X6_fetches rfl rfl rfl (by decide +kernel) ⟨Nat.le_of_ble_eq_true rfl, Nat.le_of_ble_eq_true rfl⟩) hK hN hM hP hD hS hA [0, 1] rfl rfl rfl rfl rfl rfl hl.1 rfl (Nat.le_of_ble_eq_true rfl) dX6_scrub_36 ⟨Nat.zero_le _, Nat.zero_le _⟩ (fun H locs hP hD hS => ?_)
    refine lv_iadd hx hb dX6_scrub_39 ?_
    refine lv_istore_n (lv' := [(3, .int ((nI 0) + (bI (mCH (mCp σ 0 5) 1560 (4 * tn x))))), (4, .int (nI ((4 * tn x)))), (2, .int (nI 1560)), (0, .ref (md 0)), (1, .int (x))]) hx hb dX6_scrub_40 rfl hl (by decide) rfl (fun ls hl => ?_)
    refine fr_iinc ((4 * tn x)) (((4 * tn x) + 1)) (nI_inc _) (lv' := [(4, .int (nI (((4 * tn x) + 1)))), (3, .int ((nI 0) + (bI (mCH (mCp σ 0 5) 1560 (4 * tn x))))), (2, .int (nI 1560)), (0, .ref (md 0)), (1, .int (x))]) (k := 1) hx hb dX6_scrub_41 hl rfl (by decide) rfl (fun ls hl => ?_)
    refine lv_goto (tgt := 21) hx hb dX6_scrub_44 (by decide) ?_
    refine lv_iload hx hb dX6_scrub_21 (lv_at hl 0 rfl) ?_
    refine lv_iconst (v := nI 4) hx hb dX6_scrub_23 (by decide) ?_
    refine lv_iload_n hx hb dX6_scrub_24 rfl (lv_at hl 4 rfl) ?_
    refine fr_val e_2 ?_
    refine fr_imul (4) (tn x) hx hb dX6_scrub_25 ?_
    refine lv_iconst (v := nI 4) hx hb dX6_scrub_26 (by decide) ?_
    refine fr_iadd ((4 * tn x)) (4) hx hb dX6_scrub_27 ?_
    refine fr_icmp_ge (((4 * tn x) + 1)) (((4 * tn x) + 4)) (by omega) (by omega) (tgt := 47) hx hb dX6_scrub_28 (by decide) (fun z => absurd z (by omega)) (fun _ => ?_)
    refine lv_iload_n hx hb dX6_scrub_31 rfl (lv_at hl 1 rfl) ?_
    refine lv_aload_n hx hb dX6_scrub_32 rfl (lv_at hl 3 rfl) ?_
    refine lv_iload_n hx hb dX6_scrub_33 rfl (lv_at hl 2 rfl) ?_
    refine lv_iload hx hb dX6_scrub_34 (lv_at hl 0 rfl) ?_
    refine fr_Vi (As := [.int (nI 1560), .int (nI (((4 * tn x) + 1)))]) (rest := [.int ((nI 0) + (bI (mCH (mCp σ 0 5) 1560 (4 * tn x))))]) (fs' := [[((md 0), .inr (6, [.ref (md 1), .int (nI (n)), .ref (md 2), .int (nI (len)), .int (nI (p)), .int (nI (le)), .ref (md 3), .ref (md 4)]))], [((md 1), .inl (T 0, 1872, .inl (mFe (mFe (mCp σ 0 5) 1560 (4 * tn x)) 1560 ((4 * tn x) + 1))))]]) (ci := 6) (q0 := (RX6, TX6, 8)) (i0 := 0) ⟨hx, hb, hml, hown, hts⟩ (kX6_fetches l D T Z md n len p le (mFe (mCp σ 0 5) 1560 (4 * tn x)) 1560 ((4 * tn x) + 1) (by decide) (by omega)) (cwV 2 hts gX6_scrub_X6_fetches rfl rfl rfl (by decide +kernel) ⟨Nat.le_of_ble_eq_true rfl, Nat.le_of_ble_eq_true rfl⟩) hK hN hM hP hD hS hA [0, 1] rfl rfl rfl rfl rfl rfl hl.1 rfl (Nat.le_of_ble_eq_true rfl) dX6_scrub_36 ⟨Nat.zero_le _, Nat.zero_le _⟩ (fun H locs hP hD hS => ?_)
    refine lv_iadd hx hb dX6_scrub_39 ?_
    refine lv_istore_n (lv' := [(3, .int (((nI 0) + (bI (mCH (mCp σ 0 5) 1560 (4 * tn x)))) + (bI (mCH (mFe (mCp σ 0 5) 1560 (4 * tn x)) 1560 ((4 * tn x) + 1))))), (4, .int (nI (((4 * tn x) + 1)))), (2, .int (nI 1560)), (0, .ref (md 0)), (1, .int (x))]) hx hb dX6_scrub_40 rfl hl (by decide) rfl (fun ls hl => ?_)
    refine fr_iinc (((4 * tn x) + 1)) ((((4 * tn x) + 1) + 1)) (nI_inc _) (lv' := [(4, .int (nI ((((4 * tn x) + 1) + 1)))), (3, .int (((nI 0) + (bI (mCH (mCp σ 0 5) 1560 (4 * tn x)))) + (bI (mCH (mFe (mCp σ 0 5) 1560 (4 * tn x)) 1560 ((4 * tn x) + 1))))), (2, .int (nI 1560)), (0, .ref (md 0)), (1, .int (x))]) (k := 1) hx hb dX6_scrub_41 hl rfl (by decide) rfl (fun ls hl => ?_)
    refine lv_goto (tgt := 21) hx hb dX6_scrub_44 (by decide) ?_
    refine lv_iload hx hb dX6_scrub_21 (lv_at hl 0 rfl) ?_
    refine lv_iconst (v := nI 4) hx hb dX6_scrub_23 (by decide) ?_
    refine lv_iload_n hx hb dX6_scrub_24 rfl (lv_at hl 4 rfl) ?_
    refine fr_val e_2 ?_
    refine fr_imul (4) (tn x) hx hb dX6_scrub_25 ?_
    refine lv_iconst (v := nI 4) hx hb dX6_scrub_26 (by decide) ?_
    refine fr_iadd ((4 * tn x)) (4) hx hb dX6_scrub_27 ?_
    refine fr_icmp_ge ((((4 * tn x) + 1) + 1)) (((4 * tn x) + 4)) (by omega) (by omega) (tgt := 47) hx hb dX6_scrub_28 (by decide) (fun z => absurd z (by omega)) (fun _ => ?_)
    refine lv_iload_n hx hb dX6_scrub_31 rfl (lv_at hl 1 rfl) ?_
    refine lv_aload_n hx hb dX6_scrub_32 rfl (lv_at hl 3 rfl) ?_
    refine lv_iload_n hx hb dX6_scrub_33 rfl (lv_at hl 2 rfl) ?_
    refine lv_iload hx hb dX6_scrub_34 (lv_at hl 0 rfl) ?_
    refine fr_Vi (As := [.int (nI 1560), .int (nI ((((4 * tn x) + 1) + 1)))]) (rest := [.int (((nI 0) + (bI (mCH (mCp σ 0 5) 1560 (4 * tn x)))) + (bI (mCH (mFe (mCp σ 0 5) 1560 (4 * tn x)) 1560 ((4 * tn x) + 1))))]) (fs' := [[((md 0), .inr (6, [.ref (md 1), .int (nI (n)), .ref (md 2), .int (nI (len)), .int (nI (p)), .int (nI (le)), .ref (md 3), .ref (md 4)]))], [((md 1), .inl (T 0, 1872, .inl (mFe (mFe (mFe (mCp σ 0 5) 1560 (4 * tn x)) 1560 ((4 * tn x) + 1)) 1560 (((4 * tn x) + 1) + 1))))]]) (ci := 6) (q0 := (RX6, TX6, 8)) (i0 := 0) ⟨hx, hb, hml, hown, hts⟩ (kX6_fetches l D T Z md n len p le (mFe (mFe (mCp σ 0 5) 1560 (4 * tn x)) 1560 ((4 * tn x) + 1)) 1560 (((4 * tn x) + 1) + 1) (by decide) (by omega)) (cwV 2 hts gX6_scrub_X6_fetches rfl rfl rfl (by decide +kernel) ⟨Nat.le_of_ble_eq_true rfl, Nat.le_of_ble_eq_true rfl⟩) hK hN hM hP hD hS hA [0, 1] rfl rfl rfl rfl rfl rfl hl.1 rfl (Nat.le_of_ble_eq_true rfl) dX6_scrub_36 ⟨Nat.zero_le _, Nat.zero_le _⟩ (fun H locs hP hD hS => ?_)
    refine lv_iadd hx hb dX6_scrub_39 ?_
    refine lv_istore_n (lv' := [(3, .int ((((nI 0) + (bI (mCH (mCp σ 0 5) 1560 (4 * tn x)))) + (bI (mCH (mFe (mCp σ 0 5) 1560 (4 * tn x)) 1560 ((4 * tn x) + 1)))) + (bI (mCH (mFe (mFe (mCp σ 0 5) 1560 (4 * tn x)) 1560 ((4 * tn x) + 1)) 1560 (((4 * tn x) + 1) + 1))))), (4, .int (nI ((((4 * tn x) + 1) + 1)))), (2, .int (nI 1560)), (0, .ref (md 0)), (1, .int (x))]) hx hb dX6_scrub_40 rfl hl (by decide) rfl (fun ls hl => ?_)
    refine fr_iinc ((((4 * tn x) + 1) + 1)) (((((4 * tn x) + 1) + 1) + 1)) (nI_inc _) (lv' := [(4, .int (nI (((((4 * tn x) + 1) + 1) + 1)))), (3, .int ((((nI 0) + (bI (mCH (mCp σ 0 5) 1560 (4 * tn x)))) + (bI (mCH (mFe (mCp σ 0 5) 1560 (4 * tn x)) 1560 ((4 * tn x) + 1)))) + (bI (mCH (mFe (mFe (mCp σ 0 5) 1560 (4 * tn x)) 1560 ((4 * tn x) + 1)) 1560 (((4 * tn x) + 1) + 1))))), (2, .int (nI 1560)), (0, .ref (md 0)), (1, .int (x))]) (k := 1) hx hb dX6_scrub_41 hl rfl (by decide) rfl (fun ls hl => ?_)
    refine lv_goto (tgt := 21) hx hb dX6_scrub_44 (by decide) ?_
    refine lv_iload hx hb dX6_scrub_21 (lv_at hl 0 rfl) ?_
    refine lv_iconst (v := nI 4) hx hb dX6_scrub_23 (by decide) ?_
    refine lv_iload_n hx hb dX6_scrub_24 rfl (lv_at hl 4 rfl) ?_
    refine fr_val e_2 ?_
    refine fr_imul (4) (tn x) hx hb dX6_scrub_25 ?_
    refine lv_iconst (v := nI 4) hx hb dX6_scrub_26 (by decide) ?_
    refine fr_iadd ((4 * tn x)) (4) hx hb dX6_scrub_27 ?_
    refine fr_icmp_ge (((((4 * tn x) + 1) + 1) + 1)) (((4 * tn x) + 4)) (by omega) (by omega) (tgt := 47) hx hb dX6_scrub_28 (by decide) (fun z => absurd z (by omega)) (fun _ => ?_)
    refine lv_iload_n hx hb dX6_scrub_31 rfl (lv_at hl 1 rfl) ?_
    refine lv_aload_n hx hb dX6_scrub_32 rfl (lv_at hl 3 rfl) ?_
    refine lv_iload_n hx hb dX6_scrub_33 rfl (lv_at hl 2 rfl) ?_
    refine lv_iload hx hb dX6_scrub_34 (lv_at hl 0 rfl) ?_
    refine fr_Vi (As := [.int (nI 1560), .int (nI (((((4 * tn x) + 1) + 1) + 1)))]) (rest := [.int ((((nI 0) + (bI (mCH (mCp σ 0 5) 1560 (4 * tn x)))) + (bI (mCH (mFe (mCp σ 0 5) 1560 (4 * tn x)) 1560 ((4 * tn x) + 1)))) + (bI (mCH (mFe (mFe (mCp σ 0 5) 1560 (4 * tn x)) 1560 ((4 * tn x) + 1)) 1560 (((4 * tn x) + 1) + 1))))]) (fs' := [[((md 0), .inr (6, [.ref (md 1), .int (nI (n)), .ref (md 2), .int (nI (len)), .int (nI (p)), .int (nI (le)), .ref (md 3), .ref (md 4)]))], [((md 1), .inl (T 0, 1872, .inl (mFe (mFe (mFe (mFe (mCp σ 0 5) 1560 (4 * tn x)) 1560 ((4 * tn x) + 1)) 1560 (((4 * tn x) + 1) + 1)) 1560 ((((4 * tn x) + 1) + 1) + 1))))]]) (ci := 6) (q0 := (RX6, TX6, 8)) (i0 := 0) ⟨hx, hb, hml, hown, hts⟩ (kX6_fetches l D T Z md n len p le (mFe (mFe (mFe (mCp σ 0 5) 1560 (4 * tn x)) 1560 ((4 * tn x) + 1)) 1560 (((4 * tn x) + 1) + 1)) 1560 ((((4 * tn x) + 1) + 1) + 1) (by decide) (by omega)) (cwV 2 hts gX6_scrub_X6_fetches rfl rfl rfl (by decide +kernel) ⟨Nat.le_of_ble_eq_true rfl, Nat.le_of_ble_eq_true rfl⟩) hK hN hM hP hD hS hA [0, 1] rfl rfl rfl rfl rfl rfl hl.1 rfl (Nat.le_of_ble_eq_true rfl) dX6_scrub_36 ⟨Nat.zero_le _, Nat.zero_le _⟩ (fun H locs hP hD hS => ?_)
    refine lv_iadd hx hb dX6_scrub_39 ?_
    refine lv_istore_n (lv' := [(3, .int (((((nI 0) + (bI (mCH (mCp σ 0 5) 1560 (4 * tn x)))) + (bI (mCH (mFe (mCp σ 0 5) 1560 (4 * tn x)) 1560 ((4 * tn x) + 1)))) + (bI (mCH (mFe (mFe (mCp σ 0 5) 1560 (4 * tn x)) 1560 ((4 * tn x) + 1)) 1560 (((4 * tn x) + 1) + 1)))) + (bI (mCH (mFe (mFe (mFe (mCp σ 0 5) 1560 (4 * tn x)) 1560 ((4 * tn x) + 1)) 1560 (((4 * tn x) + 1) + 1)) 1560 ((((4 * tn x) + 1) + 1) + 1))))), (4, .int (nI (((((4 * tn x) + 1) + 1) + 1)))), (2, .int (nI 1560)), (0, .ref (md 0)), (1, .int (x))]) hx hb dX6_scrub_40 rfl hl (by decide) rfl (fun ls hl => ?_)
    refine fr_iinc (((((4 * tn x) + 1) + 1) + 1)) ((((((4 * tn x) + 1) + 1) + 1) + 1)) (nI_inc _) (lv' := [(4, .int (nI ((((((4 * tn x) + 1) + 1) + 1) + 1)))), (3, .int (((((nI 0) + (bI (mCH (mCp σ 0 5) 1560 (4 * tn x)))) + (bI (mCH (mFe (mCp σ 0 5) 1560 (4 * tn x)) 1560 ((4 * tn x) + 1)))) + (bI (mCH (mFe (mFe (mCp σ 0 5) 1560 (4 * tn x)) 1560 ((4 * tn x) + 1)) 1560 (((4 * tn x) + 1) + 1)))) + (bI (mCH (mFe (mFe (mFe (mCp σ 0 5) 1560 (4 * tn x)) 1560 ((4 * tn x) + 1)) 1560 (((4 * tn x) + 1) + 1)) 1560 ((((4 * tn x) + 1) + 1) + 1))))), (2, .int (nI 1560)), (0, .ref (md 0)), (1, .int (x))]) (k := 1) hx hb dX6_scrub_41 hl rfl (by decide) rfl (fun ls hl => ?_)
    refine lv_goto (tgt := 21) hx hb dX6_scrub_44 (by decide) ?_
    refine lv_iload hx hb dX6_scrub_21 (lv_at hl 0 rfl) ?_
    refine lv_iconst (v := nI 4) hx hb dX6_scrub_23 (by decide) ?_
    refine lv_iload_n hx hb dX6_scrub_24 rfl (lv_at hl 4 rfl) ?_
    refine fr_val e_2 ?_
    refine fr_imul (4) (tn x) hx hb dX6_scrub_25 ?_
    refine lv_iconst (v := nI 4) hx hb dX6_scrub_26 (by decide) ?_
    refine fr_iadd ((4 * tn x)) (4) hx hb dX6_scrub_27 ?_
    refine fr_icmp_ge ((((((4 * tn x) + 1) + 1) + 1) + 1)) (((4 * tn x) + 4)) (by omega) (by omega) (tgt := 47) hx hb dX6_scrub_28 (by decide) (fun _ => ?_) (fun z => absurd z (by omega))
    refine lv_aload_n hx hb dX6_scrub_47 rfl (lv_at hl 3 rfl) ?_
    refine lv_iload_n hx hb dX6_scrub_48 rfl (lv_at hl 1 rfl) ?_
    refine fr_Vi (As := [.int (((((nI 0) + (bI (mCH (mCp σ 0 5) 1560 (4 * tn x)))) + (bI (mCH (mFe (mCp σ 0 5) 1560 (4 * tn x)) 1560 ((4 * tn x) + 1)))) + (bI (mCH (mFe (mFe (mCp σ 0 5) 1560 (4 * tn x)) 1560 ((4 * tn x) + 1)) 1560 (((4 * tn x) + 1) + 1)))) + (bI (mCH (mFe (mFe (mFe (mCp σ 0 5) 1560 (4 * tn x)) 1560 ((4 * tn x) + 1)) 1560 (((4 * tn x) + 1) + 1)) 1560 ((((4 * tn x) + 1) + 1) + 1))))]) (rest := []) (fs' := [[((md 0), .inr (6, [.ref (md 1), .int (nI (nAcc n (((((nI 0) + (bI (mCH (mCp σ 0 5) 1560 (4 * tn x)))) + (bI (mCH (mFe (mCp σ 0 5) 1560 (4 * tn x)) 1560 ((4 * tn x) + 1)))) + (bI (mCH (mFe (mFe (mCp σ 0 5) 1560 (4 * tn x)) 1560 ((4 * tn x) + 1)) 1560 (((4 * tn x) + 1) + 1)))) + (bI (mCH (mFe (mFe (mFe (mCp σ 0 5) 1560 (4 * tn x)) 1560 ((4 * tn x) + 1)) 1560 (((4 * tn x) + 1) + 1)) 1560 ((((4 * tn x) + 1) + 1) + 1)))))), .ref (md 2), .int (nI (len)), .int (nI (p)), .int (nI (le)), .ref (md 3), .ref (md 4)]))], [((md 1), .inl (T 0, 1872, .inl (mAcc (mFe (mFe (mFe (mFe (mCp σ 0 5) 1560 (4 * tn x)) 1560 ((4 * tn x) + 1)) 1560 (((4 * tn x) + 1) + 1)) 1560 ((((4 * tn x) + 1) + 1) + 1)) n (((((nI 0) + (bI (mCH (mCp σ 0 5) 1560 (4 * tn x)))) + (bI (mCH (mFe (mCp σ 0 5) 1560 (4 * tn x)) 1560 ((4 * tn x) + 1)))) + (bI (mCH (mFe (mFe (mCp σ 0 5) 1560 (4 * tn x)) 1560 ((4 * tn x) + 1)) 1560 (((4 * tn x) + 1) + 1)))) + (bI (mCH (mFe (mFe (mFe (mCp σ 0 5) 1560 (4 * tn x)) 1560 ((4 * tn x) + 1)) 1560 (((4 * tn x) + 1) + 1)) 1560 ((((4 * tn x) + 1) + 1) + 1)))))))]]) (ci := 6) (q0 := (RX6, TX6, 8)) (i0 := 0) ⟨hx, hb, hml, hown, hts⟩ (kX6_accepts l D T Z md n len p le (mFe (mFe (mFe (mFe (mCp σ 0 5) 1560 (4 * tn x)) 1560 ((4 * tn x) + 1)) 1560 (((4 * tn x) + 1) + 1)) 1560 ((((4 * tn x) + 1) + 1) + 1)) (((((nI 0) + (bI (mCH (mCp σ 0 5) 1560 (4 * tn x)))) + (bI (mCH (mFe (mCp σ 0 5) 1560 (4 * tn x)) 1560 ((4 * tn x) + 1)))) + (bI (mCH (mFe (mFe (mCp σ 0 5) 1560 (4 * tn x)) 1560 ((4 * tn x) + 1)) 1560 (((4 * tn x) + 1) + 1)))) + (bI (mCH (mFe (mFe (mFe (mCp σ 0 5) 1560 (4 * tn x)) 1560 ((4 * tn x) + 1)) 1560 (((4 * tn x) + 1) + 1)) 1560 ((((4 * tn x) + 1) + 1) + 1)))) (by omega)) (cwV 1 hts gX6_scrub_X6_accepts rfl rfl rfl (by decide +kernel) ⟨Nat.le_of_ble_eq_true rfl, Nat.le_of_ble_eq_true rfl⟩) hK hN hM hP hD hS hA [0, 1] rfl rfl rfl rfl rfl rfl hl.1 rfl (Nat.le_of_ble_eq_true rfl) dX6_scrub_49 ⟨Nat.zero_le _, Nat.zero_le _⟩ (fun H locs hP hD hS => ?_)
    exact fr_iret hx hb hr hlk hP hS (by first | rfl | (simp only [mScrC, mScr, mAS, mAN, c_1, ↓reduceIte, Bool.false_eq_true, bI_true, bI_false, Bool.true_and, Bool.and_true, Bool.and_false, Bool.false_and, Bool.not_true, Bool.not_false, Bool.or_true, Bool.true_or, Bool.or_false, Bool.false_or] <;> rfl) | (simp [mScrC, mScr, mAS, mAN, c_1, bI]; done)) (by first | rfl | (simp only [mScrC, mScr, mAS, mAN, c_1, ↓reduceIte, Bool.false_eq_true, bI_true, bI_false, Bool.true_and, Bool.and_true, Bool.and_false, Bool.false_and, Bool.not_true, Bool.not_false, Bool.or_true, Bool.true_or, Bool.or_false, Bool.false_or] <;> rfl) | (simp [mScrC, mScr, mAS, mAN, c_1, bI]; done)) dX6_scrub_52
  · refine lv_iconst (v := (-1)) hx hb dX6_scrub_7 (by decide) ?_
    exact fr_iret hx hb hr hlk hP hS (by first | rfl | (simp only [mScrC, mScr, mAS, mAN, c_1, ↓reduceIte, Bool.false_eq_true, bI_true, bI_false, Bool.true_and, Bool.and_true, Bool.and_false, Bool.false_and, Bool.not_true, Bool.not_false, Bool.or_true, Bool.true_or, Bool.or_false, Bool.false_or] <;> rfl) | (simp [mScrC, mScr, mAS, mAN, c_1, bI]; done)) (by first | rfl | (simp only [mScrC, mScr, mAS, mAN, c_1, ↓reduceIte, Bool.false_eq_true, bI_true, bI_false, Bool.true_and, Bool.and_true, Bool.and_false, Bool.false_and, Bool.not_true, Bool.not_false, Bool.or_true, Bool.true_or, Bool.or_false, Bool.false_or] <;> rfl) | (simp [mScrC, mScr, mAS, mAN, c_1, bI]; done)) dX6_scrub_8

set_option maxHeartbeats 8000000 in
set_option maxRecDepth 100000 in
theorem kX6_restart (l : Launch) (D : va_G) (T : Nat → ClassId) (Z : ZZ) (md : Nat → Nat) (n : Nat) (len : Nat) (p : Nat) (le : Nat) (σ : MS) (t : Int32) (hn4 : n ≤ 4) : CtI l D T Z yX6_restart wsX6_restart ({ frames := 2, cells := 0, slots := 0, locals := 45 }) [[((md 0), .inr (6, [.ref (md 1), .int (nI (n)), .ref (md 2), .int (nI (len)), .int (nI (p)), .int (nI (le)), .ref (md 3), .ref (md 4)]))], [((md 1), .inl (T 0, 1872, .inl (σ)))]] [.ref (md 0), .int (t)] (if iN t 4 then sumI (resG (mCp σ 0 5) 1560 (tn t)) 4 else -1) [[((md 0), .inr (6, [.ref (md 1), .int (nI (mAN (iN t 4) n (sumI (resG (mCp σ 0 5) 1560 (tn t)) 4))), .ref (md 2), .int (nI (len)), .int (nI (p)), .int (nI (le)), .ref (md 3), .ref (md 4)]))], [((md 1), .inl (T 0, 1872, .inl (mAS (iN t 4) (upd (resM (mCp σ 0 5) 1560 (tn t) 4) (1560 + 252 + tn t) (nI 0)) n (sumI (resG (mCp σ 0 5) 1560 (tn t)) 4) σ)))]] := by
  have hrr : ∀ r : Nat, rgt 1560 (tn t) r = 1560 + 192 + 3 * (4 * tn t + r) := fun _ => rfl
  refine CtI.of (cc := cX6_restart) (maxL := 5) (ret := (some .int)) (plainFor_of_name (by decide)) rfl rfl ?_
  intro pP eE s mM bW mE cC A hE hK hN hM hP hD hA
  obtain ⟨hx, hb, hr, hts, hown, hml, hlk⟩ := hE
  have hown : s.vm.findClass RX6 = some mM.cls := hown
  have hS : va_S A s.heap s.heap [] := va_S.rf
  have hl := lv_entry ([.ref (md 0), .int (t)]) (n := 5) (Nat.le_of_ble_eq_true rfl)
  rw [lg_entry_eq]
  generalize (lg_sl ([.ref (md 0), .int (t)]) ++ List.replicate (5 - (lg_sl ([.ref (md 0), .int (t)])).length) Slot.unset).toArray = ls at hl ⊢
  have hl : lv_has ls 5 [(0, .ref (md 0)), (1, .int (t))] := hl
  have w_7 := hts (.fieldLink RX6 7 "PoisonedMemoryModel" "s" "[I") (by decide +kernel)
  have hinX6 : ∀ w ∈ wsX60, w ∈ wsX6_restart := by decide +kernel
  refine lv_iload_n hx hb dX6_restart_0 rfl (lv_at hl 1 rfl) ?_
  refine fr_S0 (As := [.int (t)]) (rest := []) ⟨hx, hb, hml, hown, hts⟩ (kX6_isOne l D T Z t) (va_cwS 1 hts gX6_restart_X6_isOne rfl rfl rfl (by decide +kernel) ⟨Nat.le_of_ble_eq_true rfl, Nat.le_of_ble_eq_true rfl⟩) hK hN hM hP hD hS hA rfl hl.1 rfl (Nat.le_of_ble_eq_true rfl) dX6_restart_1 ⟨Nat.zero_le _, Nat.zero_le _⟩ (fun H locs hP hD hS => ?_)
  refine fr_ifne_b (tgt := 9) hx hb dX6_restart_4 (by decide) (fun c_1 => ?_) (fun c_1 => ?_)
  · have e_2 := iN_eq c_1
    have e_2b := iN_lt c_1 (by decide)
    refine lv_aload_n hx hb dX6_restart_9 rfl (lv_at hl 0 rfl) ?_
    refine fr_Vi (As := []) (rest := []) (fs' := [[((md 0), .inr (6, [.ref (md 1), .int (nI (n)), .ref (md 2), .int (nI (len)), .int (nI (p)), .int (nI (le)), .ref (md 3), .ref (md 4)]))], [((md 1), .inl (T 0, 1872, .inl (mCp σ 0 5)))]]) (ci := 6) (q0 := (RX6, TX6, 8)) (i0 := 0) ⟨hx, hb, hml, hown, hts⟩ (kX6_begins l D T Z md n len p le σ) (cwV 0 hts gX6_restart_X6_begins rfl rfl rfl (by decide +kernel) ⟨Nat.le_of_ble_eq_true rfl, Nat.le_of_ble_eq_true rfl⟩) hK hN hM hP hD hS hA [0, 1] rfl rfl rfl rfl rfl rfl hl.1 rfl (Nat.le_of_ble_eq_true rfl) dX6_restart_10 ⟨Nat.zero_le _, Nat.zero_le _⟩ (fun H locs hP hD hS => ?_)
    refine lv_istore_n (lv' := [(2, .int (nI 1560)), (0, .ref (md 0)), (1, .int (t))]) hx hb dX6_restart_13 rfl hl (by decide) rfl (fun ls hl => ?_)
    refine lv_iconst (v := nI 0) hx hb dX6_restart_14 (by decide) ?_
    refine lv_istore_n (lv' := [(3, .int (nI 0)), (2, .int (nI 1560)), (0, .ref (md 0)), (1, .int (t))]) hx hb dX6_restart_15 rfl hl (by decide) rfl (fun ls hl => ?_)
    refine lv_iconst (v := nI 0) hx hb dX6_restart_16 (by decide) ?_
    refine lv_istore (lv' := [(4, .int (nI 0)), (3, .int (nI 0)), (2, .int (nI 1560)), (0, .ref (md 0)), (1, .int (t))]) hx hb dX6_restart_17 hl (by decide) rfl (fun ls hl => ?_)
    have loop19 : ∀ (n9 k9 : Nat), k9 ≤ 4 → 4 < k9 + n9 → ∀ (H : Heap) (locs : List Loc), frP D [[((md 0), .inr (6, [.ref (md 1), .int (nI (n)), .ref (md 2), .int (nI (len)), .int (nI (p)), .int (nI (le)), .ref (md 3), .ref (md 4)]))], [((md 1), .inl (T 0, 1872, .inl (resM (mCp σ 0 5) 1560 (tn t) k9)))]] H → va_D A ([[((md 0), .inr (6, [.ref (md 1), .int (nI (n)), .ref (md 2), .int (nI (len)), .int (nI (p)), .int (nI (le)), .ref (md 3), .ref (md 4)]))], [((md 1), .inl (T 0, 1872, .inl (resM (mCp σ 0 5) 1560 (tn t) k9)))]] : List va_W).flatten → va_S A s.heap H locs → ∀ (ls : Array Slot), lv_has ls 5 [(4, .int (nI (k9))), (3, .int (sumI (resG (mCp σ 0 5) 1560 (tn t)) k9)), (2, .int (nI 1560)), (0, .ref (md 0)), (1, .int (t))] → W pP l eE ({ frames := 2, cells := 0, slots := 0, locals := 45 }) s mM ([.ref (md 0), .int (t)] : List Value).toArray bW mE cC H locs 0 0 (MQ bW (QcI D [[((md 0), .inr (6, [.ref (md 1), .int (nI (mAN (iN t 4) n (sumI (resG (mCp σ 0 5) 1560 (tn t)) 4))), .ref (md 2), .int (nI (len)), .int (nI (p)), .int (nI (le)), .ref (md 3), .ref (md 4)]))], [((md 1), .inl (T 0, 1872, .inl (mAS (iN t 4) (upd (resM (mCp σ 0 5) 1560 (tn t) 4) (1560 + 252 + tn t) (nI 0)) n (sumI (resG (mCp σ 0 5) 1560 (tn t)) 4) σ)))]] (if iN t 4 then sumI (resG (mCp σ 0 5) 1560 (tn t)) 4 else -1) A) ([.ref (md 0), .int (t)] : List Value).toArray s 0 0 A) (F0 mM 19 ls []) := by
      intro n9
      induction n9 with
      | zero => intro k9 h1 h2; exact absurd h2 (by omega)
      | succ n9 ih =>
        intro k9 hk1 hk2 H locs hP hD hS ls hl
        have hr9 := hrr k9
        refine lv_iload hx hb dX6_restart_19 (lv_at hl 0 rfl) ?_
        refine lv_iconst (v := nI 4) hx hb dX6_restart_21 (by decide) ?_
        refine fr_icmp_ge (k9) (4) (by omega) (by decide) (tgt := 68) hx hb dX6_restart_22 (by decide) (fun c_3 => ?_) (fun c_3 => ?_)
        · have c_3' := Nat.not_lt.mpr c_3
          obtain rfl : k9 = 4 := by omega
          refine lv_aload_n hx hb dX6_restart_68 rfl (lv_at hl 3 rfl) ?_
          refine va_get (D := D) (ci := 6) (v := .ref (md 1)) (C := RX6) (T := TX6) (N := 8) hx hb hts hinX6 hown hK (hP.at 0 rfl) 0 rfl rfl 0 (by decide) w_7 (fun _ h9 => h9) rfl dX6_restart_69 ?_
          refine lv_iload_n hx hb dX6_restart_72 rfl (lv_at hl 2 rfl) ?_
          refine lv_sipush (v := nI 252) hx hb dX6_restart_73 (by decide) ?_
          refine fr_iadd (1560) (252) hx hb dX6_restart_76 ?_
          refine lv_iload_n hx hb dX6_restart_77 rfl (lv_at hl 4 rfl) ?_
          refine fr_val e_2 ?_
          refine fr_iadd (1812) (tn t) hx hb dX6_restart_78 ?_
          refine lv_iconst (v := nI 0) hx hb dX6_restart_79 (by decide) ?_
          refine fr_iast (fs' := [[((md 0), .inr (6, [.ref (md 1), .int (nI (n)), .ref (md 2), .int (nI (len)), .int (nI (p)), .int (nI (le)), .ref (md 3), .ref (md 4)]))], [((md 1), .inl (T 0, 1872, .inl (upd (resM (mCp σ 0 5) 1560 (tn t) 4) (1812 + tn t) (nI 0))))]]) hx hb hK hP hD hS 1 ((1812 + tn t)) rfl rfl (by omega) (by omega) dX6_restart_80 (fun H locs hP hD hS => ?_)
          refine lv_aload_n hx hb dX6_restart_81 rfl (lv_at hl 3 rfl) ?_
          refine lv_iload_n hx hb dX6_restart_82 rfl (lv_at hl 1 rfl) ?_
          refine fr_Vi (As := [.int (sumI (resG (mCp σ 0 5) 1560 (tn t)) 4)]) (rest := []) (fs' := [[((md 0), .inr (6, [.ref (md 1), .int (nI (nAcc n (sumI (resG (mCp σ 0 5) 1560 (tn t)) 4))), .ref (md 2), .int (nI (len)), .int (nI (p)), .int (nI (le)), .ref (md 3), .ref (md 4)]))], [((md 1), .inl (T 0, 1872, .inl (mAcc (upd (resM (mCp σ 0 5) 1560 (tn t) 4) (1812 + tn t) (nI 0)) n (sumI (resG (mCp σ 0 5) 1560 (tn t)) 4))))]]) (ci := 6) (q0 := (RX6, TX6, 8)) (i0 := 0) ⟨hx, hb, hml, hown, hts⟩ (kX6_accepts l D T Z md n len p le (upd (resM (mCp σ 0 5) 1560 (tn t) 4) (1812 + tn t) (nI 0)) (sumI (resG (mCp σ 0 5) 1560 (tn t)) 4) (by omega)) (cwV 1 hts gX6_restart_X6_accepts rfl rfl rfl (by decide +kernel) ⟨Nat.le_of_ble_eq_true rfl, Nat.le_of_ble_eq_true rfl⟩) hK hN hM hP hD hS hA [0, 1] rfl rfl rfl rfl rfl rfl hl.1 rfl (Nat.le_of_ble_eq_true rfl) dX6_restart_83 ⟨Nat.zero_le _, Nat.zero_le _⟩ (fun H locs hP hD hS => ?_)
          exact fr_iret hx hb hr hlk hP hS (by first | rfl | (simp only [sumI, resG, resM, mLay0, mAS, mAN, c_1, c_3, c_3', ↓reduceIte, Bool.false_eq_true, bI_true, bI_false, Bool.true_and, Bool.and_true, Bool.and_false, Bool.false_and, Bool.not_true, Bool.not_false, Bool.or_true, Bool.true_or, Bool.or_false, Bool.false_or] <;> rfl) | (simp [sumI, resG, resM, mLay0, mAS, mAN, c_1, c_3, c_3', bI]; done)) (by first | rfl | (simp only [sumI, resG, resM, mLay0, mAS, mAN, c_1, c_3, c_3', ↓reduceIte, Bool.false_eq_true, bI_true, bI_false, Bool.true_and, Bool.and_true, Bool.and_false, Bool.false_and, Bool.not_true, Bool.not_false, Bool.or_true, Bool.true_or, Bool.or_false, Bool.false_or] <;> rfl) | (simp [sumI, resG, resM, mLay0, mAS, mAN, c_1, c_3, c_3', bI]; done)) dX6_restart_86
        · have c_3' := Nat.not_le.mpr c_3
          refine lv_iload_n hx hb dX6_restart_25 rfl (lv_at hl 1 rfl) ?_
          refine lv_aload_n hx hb dX6_restart_26 rfl (lv_at hl 3 rfl) ?_
          refine lv_iload_n hx hb dX6_restart_27 rfl (lv_at hl 2 rfl) ?_
          refine lv_iload_n hx hb dX6_restart_28 rfl (lv_at hl 4 rfl) ?_
          refine fr_val e_2 ?_
          refine lv_iload hx hb dX6_restart_29 (lv_at hl 0 rfl) ?_
          refine fr_S0 (As := [.int (nI 1560), .int (nI (tn t)), .int (nI (k9))]) (rest := [.ref (md 0), .int (sumI (resG (mCp σ 0 5) 1560 (tn t)) k9)]) ⟨hx, hb, hml, hown, hts⟩ (kX6_registerAt l D T Z 1560 (tn t) k9) (va_cwS 3 hts gX6_restart_X6_registerAt rfl rfl rfl (by decide +kernel) ⟨Nat.le_of_ble_eq_true rfl, Nat.le_of_ble_eq_true rfl⟩) hK hN hM hP hD hS hA rfl hl.1 rfl (Nat.le_of_ble_eq_true rfl) dX6_restart_31 ⟨Nat.zero_le _, Nat.zero_le _⟩ (fun H locs hP hD hS => ?_)
          refine fr_Vi (As := [.int (nI (rgt 1560 (tn t) k9))]) (rest := [.int (sumI (resG (mCp σ 0 5) 1560 (tn t)) k9)]) (fs' := [[((md 0), .inr (6, [.ref (md 1), .int (nI (n)), .ref (md 2), .int (nI (len)), .int (nI (p)), .int (nI (le)), .ref (md 3), .ref (md 4)]))], [((md 1), .inl (T 0, 1872, .inl (resM (mCp σ 0 5) 1560 (tn t) k9)))]]) (ci := 6) (q0 := (RX6, TX6, 8)) (i0 := 0) ⟨hx, hb, hml, hown, hts⟩ (kX6_isPoisoned l D T Z md n len p le (resM (mCp σ 0 5) 1560 (tn t) k9) (rgt 1560 (tn t) k9) (by omega)) (cwV 1 hts gX6_restart_X6_isPoisoned rfl rfl rfl (by decide +kernel) ⟨Nat.le_of_ble_eq_true rfl, Nat.le_of_ble_eq_true rfl⟩) hK hN hM hP hD hS hA [0, 1] rfl rfl rfl rfl rfl rfl hl.1 rfl (Nat.le_of_ble_eq_true rfl) dX6_restart_34 ⟨Nat.zero_le _, Nat.zero_le _⟩ (fun H locs hP hD hS => ?_)
          refine fr_ifeq_b (tgt := 44) hx hb dX6_restart_37 (by decide) (fun c_4 => ?_) (fun c_4 => ?_)
          · refine lv_iconst (v := nI 0) hx hb dX6_restart_44 (by decide) ?_
            refine lv_iadd hx hb dX6_restart_45 ?_
            refine lv_istore_n (lv' := [(3, .int ((sumI (resG (mCp σ 0 5) 1560 (tn t)) k9) + (nI 0))), (4, .int (nI (k9))), (2, .int (nI 1560)), (0, .ref (md 0)), (1, .int (t))]) hx hb dX6_restart_46 rfl hl (by decide) rfl (fun ls hl => ?_)
            refine lv_aload_n hx hb dX6_restart_47 rfl (lv_at hl 3 rfl) ?_
            refine lv_iload_n hx hb dX6_restart_48 rfl (lv_at hl 2 rfl) ?_
            refine lv_iload_n hx hb dX6_restart_49 rfl (lv_at hl 4 rfl) ?_
            refine fr_val e_2 ?_
            refine lv_iload hx hb dX6_restart_50 (lv_at hl 1 rfl) ?_
            refine fr_S0 (As := [.int (nI 1560), .int (nI (tn t)), .int (nI (k9))]) (rest := [.ref (md 0)]) ⟨hx, hb, hml, hown, hts⟩ (kX6_registerAt l D T Z 1560 (tn t) k9) (va_cwS 3 hts gX6_restart_X6_registerAt rfl rfl rfl (by decide +kernel) ⟨Nat.le_of_ble_eq_true rfl, Nat.le_of_ble_eq_true rfl⟩) hK hN hM hP hD hS hA rfl hl.1 rfl (Nat.le_of_ble_eq_true rfl) dX6_restart_52 ⟨Nat.zero_le _, Nat.zero_le _⟩ (fun H locs hP hD hS => ?_)
            refine lv_iconst (v := nI 0) hx hb dX6_restart_55 (by decide) ?_
            refine lv_bipush (v := (-6)) hx hb dX6_restart_56 (by decide) ?_
            refine lv_iconst (v := nI 0) hx hb dX6_restart_58 (by decide) ?_
            refine fr_Vv (As := [.int (nI (rgt 1560 (tn t) k9)), .int (nI 0), .int ((-6)), .int (nI 0)]) (rest := []) (fs' := [[((md 0), .inr (6, [.ref (md 1), .int (nI (n)), .ref (md 2), .int (nI (len)), .int (nI (p)), .int (nI (le)), .ref (md 3), .ref (md 4)]))], [((md 1), .inl (T 0, 1872, .inl (lay (resM (mCp σ 0 5) 1560 (tn t) k9) (rgt 1560 (tn t) k9) (nI 0) (-6) (nI 0))))]]) (ci := 6) (q0 := (RX6, TX6, 8)) (i0 := 0) ⟨hx, hb, hml, hown, hts⟩ (kX6_lays l D T Z md n len p le (resM (mCp σ 0 5) 1560 (tn t) k9) (rgt 1560 (tn t) k9) (nI 0) (-6) (nI 0) (by omega)) (cwV 4 hts gX6_restart_X6_lays rfl rfl rfl (by decide +kernel) ⟨Nat.le_of_ble_eq_true rfl, Nat.le_of_ble_eq_true rfl⟩) hK hN hM hP hD hS hA [0, 1] rfl rfl rfl rfl rfl rfl hl.1 rfl (Nat.le_of_ble_eq_true rfl) dX6_restart_59 ⟨Nat.zero_le _, Nat.zero_le _⟩ (fun H locs hP hD hS => ?_)
            refine fr_iinc (k9) ((k9 + 1)) (nI_inc _) (lv' := [(4, .int (nI ((k9 + 1)))), (3, .int ((sumI (resG (mCp σ 0 5) 1560 (tn t)) k9) + (nI 0))), (2, .int (nI 1560)), (0, .ref (md 0)), (1, .int (t))]) (k := 1) hx hb dX6_restart_62 hl rfl (by decide) rfl (fun ls hl => ?_)
            refine lv_goto (tgt := 19) hx hb dX6_restart_65 (by decide) ?_
            have q_5 : ((sumI (resG (mCp σ 0 5) 1560 (tn t)) k9) + (nI 0) : Int32) = sumI (resG (mCp σ 0 5) 1560 (tn t)) (k9 + 1) := (by first | rfl | (simp only [sumI, resG, resM, mLay0, mAS, mAN, c_1, c_3, c_3', c_4, ↓reduceIte, Bool.false_eq_true, bI_true, bI_false, Bool.true_and, Bool.and_true, Bool.and_false, Bool.false_and, Bool.not_true, Bool.not_false, Bool.or_true, Bool.true_or, Bool.or_false, Bool.false_or] <;> rfl) | (simp [sumI, resG, resM, mLay0, mAS, mAN, c_1, c_3, c_3', c_4]; done))
            rw [q_5] at hl
            have q_6 : ([[((md 0), .inr (6, [.ref (md 1), .int (nI (n)), .ref (md 2), .int (nI (len)), .int (nI (p)), .int (nI (le)), .ref (md 3), .ref (md 4)]))], [((md 1), .inl (T 0, 1872, .inl (lay (resM (mCp σ 0 5) 1560 (tn t) k9) (rgt 1560 (tn t) k9) (nI 0) (-6) (nI 0))))]] : List va_W) = [[((md 0), .inr (6, [.ref (md 1), .int (nI (n)), .ref (md 2), .int (nI (len)), .int (nI (p)), .int (nI (le)), .ref (md 3), .ref (md 4)]))], [((md 1), .inl (T 0, 1872, .inl (resM (mCp σ 0 5) 1560 (tn t) (k9 + 1))))]] := (by first | rfl | (simp only [sumI, resG, resM, mLay0, mAS, mAN, c_1, c_3, c_3', c_4, ↓reduceIte, Bool.false_eq_true, bI_true, bI_false, Bool.true_and, Bool.and_true, Bool.and_false, Bool.false_and, Bool.not_true, Bool.not_false, Bool.or_true, Bool.true_or, Bool.or_false, Bool.false_or] <;> rfl) | (simp [sumI, resG, resM, mLay0, mAS, mAN, c_1, c_3, c_3', c_4]; done))
            rw [q_6] at hP hD
            exact ih  ((k9 + 1)) (by omega) (by omega) H locs hP hD hS ls (lv_sub hl [0, 1, 2, 3, 4] rfl)
          · refine lv_iconst (v := nI 1) hx hb dX6_restart_40 (by decide) ?_
            refine lv_goto (tgt := 45) hx hb dX6_restart_41 (by decide) ?_
            refine lv_iadd hx hb dX6_restart_45 ?_
            refine lv_istore_n (lv' := [(3, .int ((sumI (resG (mCp σ 0 5) 1560 (tn t)) k9) + (nI 1))), (4, .int (nI (k9))), (2, .int (nI 1560)), (0, .ref (md 0)), (1, .int (t))]) hx hb dX6_restart_46 rfl hl (by decide) rfl (fun ls hl => ?_)
            refine lv_aload_n hx hb dX6_restart_47 rfl (lv_at hl 3 rfl) ?_
            refine lv_iload_n hx hb dX6_restart_48 rfl (lv_at hl 2 rfl) ?_
            refine lv_iload_n hx hb dX6_restart_49 rfl (lv_at hl 4 rfl) ?_
            refine fr_val e_2 ?_
            refine lv_iload hx hb dX6_restart_50 (lv_at hl 1 rfl) ?_
            refine fr_S0 (As := [.int (nI 1560), .int (nI (tn t)), .int (nI (k9))]) (rest := [.ref (md 0)]) ⟨hx, hb, hml, hown, hts⟩ (kX6_registerAt l D T Z 1560 (tn t) k9) (va_cwS 3 hts gX6_restart_X6_registerAt rfl rfl rfl (by decide +kernel) ⟨Nat.le_of_ble_eq_true rfl, Nat.le_of_ble_eq_true rfl⟩) hK hN hM hP hD hS hA rfl hl.1 rfl (Nat.le_of_ble_eq_true rfl) dX6_restart_52 ⟨Nat.zero_le _, Nat.zero_le _⟩ (fun H locs hP hD hS => ?_)
            refine lv_iconst (v := nI 0) hx hb dX6_restart_55 (by decide) ?_
            refine lv_bipush (v := (-6)) hx hb dX6_restart_56 (by decide) ?_
            refine lv_iconst (v := nI 0) hx hb dX6_restart_58 (by decide) ?_
            refine fr_Vv (As := [.int (nI (rgt 1560 (tn t) k9)), .int (nI 0), .int ((-6)), .int (nI 0)]) (rest := []) (fs' := [[((md 0), .inr (6, [.ref (md 1), .int (nI (n)), .ref (md 2), .int (nI (len)), .int (nI (p)), .int (nI (le)), .ref (md 3), .ref (md 4)]))], [((md 1), .inl (T 0, 1872, .inl (lay (resM (mCp σ 0 5) 1560 (tn t) k9) (rgt 1560 (tn t) k9) (nI 0) (-6) (nI 0))))]]) (ci := 6) (q0 := (RX6, TX6, 8)) (i0 := 0) ⟨hx, hb, hml, hown, hts⟩ (kX6_lays l D T Z md n len p le (resM (mCp σ 0 5) 1560 (tn t) k9) (rgt 1560 (tn t) k9) (nI 0) (-6) (nI 0) (by omega)) (cwV 4 hts gX6_restart_X6_lays rfl rfl rfl (by decide +kernel) ⟨Nat.le_of_ble_eq_true rfl, Nat.le_of_ble_eq_true rfl⟩) hK hN hM hP hD hS hA [0, 1] rfl rfl rfl rfl rfl rfl hl.1 rfl (Nat.le_of_ble_eq_true rfl) dX6_restart_59 ⟨Nat.zero_le _, Nat.zero_le _⟩ (fun H locs hP hD hS => ?_)
            refine fr_iinc (k9) ((k9 + 1)) (nI_inc _) (lv' := [(4, .int (nI ((k9 + 1)))), (3, .int ((sumI (resG (mCp σ 0 5) 1560 (tn t)) k9) + (nI 1))), (2, .int (nI 1560)), (0, .ref (md 0)), (1, .int (t))]) (k := 1) hx hb dX6_restart_62 hl rfl (by decide) rfl (fun ls hl => ?_)
            refine lv_goto (tgt := 19) hx hb dX6_restart_65 (by decide) ?_
            have q_7 : ((sumI (resG (mCp σ 0 5) 1560 (tn t)) k9) + (nI 1) : Int32) = sumI (resG (mCp σ 0 5) 1560 (tn t)) (k9 + 1) := (by first | rfl | (simp only [sumI, resG, resM, mLay0, mAS, mAN, c_1, c_3, c_3', c_4, ↓reduceIte, Bool.false_eq_true, bI_true, bI_false, Bool.true_and, Bool.and_true, Bool.and_false, Bool.false_and, Bool.not_true, Bool.not_false, Bool.or_true, Bool.true_or, Bool.or_false, Bool.false_or] <;> rfl) | (simp [sumI, resG, resM, mLay0, mAS, mAN, c_1, c_3, c_3', c_4]; done))
            rw [q_7] at hl
            have q_8 : ([[((md 0), .inr (6, [.ref (md 1), .int (nI (n)), .ref (md 2), .int (nI (len)), .int (nI (p)), .int (nI (le)), .ref (md 3), .ref (md 4)]))], [((md 1), .inl (T 0, 1872, .inl (lay (resM (mCp σ 0 5) 1560 (tn t) k9) (rgt 1560 (tn t) k9) (nI 0) (-6) (nI 0))))]] : List va_W) = [[((md 0), .inr (6, [.ref (md 1), .int (nI (n)), .ref (md 2), .int (nI (len)), .int (nI (p)), .int (nI (le)), .ref (md 3), .ref (md 4)]))], [((md 1), .inl (T 0, 1872, .inl (resM (mCp σ 0 5) 1560 (tn t) (k9 + 1))))]] := (by first | rfl | (simp only [sumI, resG, resM, mLay0, mAS, mAN, c_1, c_3, c_3', c_4, ↓reduceIte, Bool.false_eq_true, bI_true, bI_false, Bool.true_and, Bool.and_true, Bool.and_false, Bool.false_and, Bool.not_true, Bool.not_false, Bool.or_true, Bool.true_or, Bool.or_false, Bool.false_or] <;> rfl) | (simp [sumI, resG, resM, mLay0, mAS, mAN, c_1, c_3, c_3', c_4]; done))
            rw [q_8] at hP hD
            exact ih  ((k9 + 1)) (by omega) (by omega) H locs hP hD hS ls (lv_sub hl [0, 1, 2, 3, 4] rfl)
    have q_9 : (nI 0 : Int32) = sumI (resG (mCp σ 0 5) 1560 (tn t)) 0 := (by first | rfl | (simp only [sumI, resG, resM, mLay0, mAS, mAN, c_1, ↓reduceIte, Bool.false_eq_true, bI_true, bI_false, Bool.true_and, Bool.and_true, Bool.and_false, Bool.false_and, Bool.not_true, Bool.not_false, Bool.or_true, Bool.true_or, Bool.or_false, Bool.false_or] <;> rfl) | (simp [sumI, resG, resM, mLay0, mAS, mAN, c_1]; done))
    rw [q_9] at hl
    have q_10 : ([[((md 0), .inr (6, [.ref (md 1), .int (nI (n)), .ref (md 2), .int (nI (len)), .int (nI (p)), .int (nI (le)), .ref (md 3), .ref (md 4)]))], [((md 1), .inl (T 0, 1872, .inl (mCp σ 0 5)))]] : List va_W) = [[((md 0), .inr (6, [.ref (md 1), .int (nI (n)), .ref (md 2), .int (nI (len)), .int (nI (p)), .int (nI (le)), .ref (md 3), .ref (md 4)]))], [((md 1), .inl (T 0, 1872, .inl (resM (mCp σ 0 5) 1560 (tn t) 0)))]] := (by first | rfl | (simp only [sumI, resG, resM, mLay0, mAS, mAN, c_1, ↓reduceIte, Bool.false_eq_true, bI_true, bI_false, Bool.true_and, Bool.and_true, Bool.and_false, Bool.false_and, Bool.not_true, Bool.not_false, Bool.or_true, Bool.true_or, Bool.or_false, Bool.false_or] <;> rfl) | (simp [sumI, resG, resM, mLay0, mAS, mAN, c_1]; done))
    rw [q_10] at hP hD
    exact loop19 (4 + 1) (0) (by omega) (by omega) _ _ hP hD hS ls (lv_sub hl [0, 1, 2, 3, 4] rfl)
  · refine lv_iconst (v := (-1)) hx hb dX6_restart_7 (by decide) ?_
    exact fr_iret hx hb hr hlk hP hS (by first | rfl | (simp only [sumI, resG, resM, mLay0, mAS, mAN, c_1, ↓reduceIte, Bool.false_eq_true, bI_true, bI_false, Bool.true_and, Bool.and_true, Bool.and_false, Bool.false_and, Bool.not_true, Bool.not_false, Bool.or_true, Bool.true_or, Bool.or_false, Bool.false_or] <;> rfl) | (simp [sumI, resG, resM, mLay0, mAS, mAN, c_1, bI]; done)) (by first | rfl | (simp only [sumI, resG, resM, mLay0, mAS, mAN, c_1, ↓reduceIte, Bool.false_eq_true, bI_true, bI_false, Bool.true_and, Bool.and_true, Bool.and_false, Bool.false_and, Bool.not_true, Bool.not_false, Bool.or_true, Bool.true_or, Bool.or_false, Bool.false_or] <;> rfl) | (simp [sumI, resG, resM, mLay0, mAS, mAN, c_1, bI]; done)) dX6_restart_8

set_option maxHeartbeats 8000000 in
set_option maxRecDepth 100000 in
theorem kX6_fill (l : Launch) (D : va_G) (T : Nat → ClassId) (Z : ZZ) (md : Nat → Nat) (n : Nat) (len : Nat) (p : Nat) (le : Nat) (σ : MS) (x : Int32) (c : Int32) (y : Int32) (hn4 : n ≤ 4) : CtI l D T Z yX6_fill wsX6_fill ({ frames := 2, cells := 0, slots := 0, locals := 47 }) [[((md 0), .inr (6, [.ref (md 1), .int (nI (n)), .ref (md 2), .int (nI (len)), .int (nI (p)), .int (nI (le)), .ref (md 3), .ref (md 4)]))], [((md 1), .inl (T 0, 1872, .inl (σ)))]] [.ref (md 0), .int (x), .int (c), .int (y)] (if iN x 32 then (if iB c && iN y 65536 then (if tn x + tn c ≤ 32 then sumI (filC (mCp σ 0 5) (tn x) (nI (tn y))) (tn c) else -1) else -2) else -1) [[((md 0), .inr (6, [.ref (md 1), .int (nI (mAN (filOkM x c y) n (sumI (filC (mCp σ 0 5) (tn x) (nI (tn y))) (tn c)))), .ref (md 2), .int (nI (len)), .int (nI (p)), .int (nI (le)), .ref (md 3), .ref (md 4)]))], [((md 1), .inl (T 0, 1872, .inl (mAS (filOkM x c y) (filM (mCp σ 0 5) (tn x) (nI (tn y)) (tn c)) n (sumI (filC (mCp σ 0 5) (tn x) (nI (tn y))) (tn c)) σ)))]] := by
  have hww : ∀ w : Nat, wdt 1560 w = 1560 + 3 * w := fun _ => rfl
  refine CtI.of (cc := cX6_fill) (maxL := 7) (ret := (some .int)) (plainFor_of_name (by decide)) rfl rfl ?_
  intro pP eE s mM bW mE cC A hE hK hN hM hP hD hA
  obtain ⟨hx, hb, hr, hts, hown, hml, hlk⟩ := hE
  have hown : s.vm.findClass RX6 = some mM.cls := hown
  have hS : va_S A s.heap s.heap [] := va_S.rf
  have hl := lv_entry ([.ref (md 0), .int (x), .int (c), .int (y)]) (n := 7) (Nat.le_of_ble_eq_true rfl)
  rw [lg_entry_eq]
  generalize (lg_sl ([.ref (md 0), .int (x), .int (c), .int (y)]) ++ List.replicate (7 - (lg_sl ([.ref (md 0), .int (x), .int (c), .int (y)])).length) Slot.unset).toArray = ls at hl ⊢
  have hl : lv_has ls 7 [(0, .ref (md 0)), (1, .int (x)), (2, .int (c)), (3, .int (y))] := hl
  have w_109 := hts (.constant RX6 109 (65535)) (by decide +kernel)
  refine lv_iload_n hx hb dX6_fill_0 rfl (lv_at hl 1 rfl) ?_
  refine fr_S0 (As := [.int (x)]) (rest := []) ⟨hx, hb, hml, hown, hts⟩ (kX6_isWord l D T Z x) (va_cwS 1 hts gX6_fill_X6_isWord rfl rfl rfl (by decide +kernel) ⟨Nat.le_of_ble_eq_true rfl, Nat.le_of_ble_eq_true rfl⟩) hK hN hM hP hD hS hA rfl hl.1 rfl (Nat.le_of_ble_eq_true rfl) dX6_fill_1 ⟨Nat.zero_le _, Nat.zero_le _⟩ (fun H locs hP hD hS => ?_)
  refine fr_ifne_b (tgt := 9) hx hb dX6_fill_4 (by decide) (fun c_1 => ?_) (fun c_1 => ?_)
  · have e_2 := iN_eq c_1
    have e_2b := iN_lt c_1 (by decide)
    refine lv_iload_n hx hb dX6_fill_9 rfl (lv_at hl 2 rfl) ?_
    refine lv_iconst (v := nI 1) hx hb dX6_fill_10 (by decide) ?_
    refine lv_bipush (v := nI 16) hx hb dX6_fill_11 (by decide) ?_
    refine fr_S0 (As := [.int (c), .int (nI 1), .int (nI 16)]) (rest := []) ⟨hx, hb, hml, hown, hts⟩ (kX6_in l D T Z c (nI 1) (nI 16)) (va_cwS 3 hts gX6_fill_X6_in rfl rfl rfl (by decide +kernel) ⟨Nat.le_of_ble_eq_true rfl, Nat.le_of_ble_eq_true rfl⟩) hK hN hM hP hD hS hA rfl hl.1 rfl (Nat.le_of_ble_eq_true rfl) dX6_fill_13 ⟨Nat.zero_le _, Nat.zero_le _⟩ (fun H locs hP hD hS => ?_)
    refine fr_ifeq_b (tgt := 29) hx hb dX6_fill_16 (by decide) (fun c_3 => ?_) (fun c_3 => ?_)
    · have r_4 : iB c = false := c_3
      refine lv_bipush (v := (-2)) hx hb dX6_fill_29 (by decide) ?_
      exact fr_iret hx hb hr hlk hP hS (by first | rfl | (simp only [filOkM, decide_true, decide_false, decide_eq_true_eq, mAS, mAN, c_1, c_3, r_4, ↓reduceIte, Bool.false_eq_true, bI_true, bI_false, Bool.true_and, Bool.and_true, Bool.and_false, Bool.false_and, Bool.not_true, Bool.not_false, Bool.or_true, Bool.true_or, Bool.or_false, Bool.false_or] <;> rfl) | (simp [filOkM, decide_true, decide_false, decide_eq_true_eq, mAS, mAN, c_1, c_3, r_4, bI]; done)) (by first | rfl | (simp only [filOkM, decide_true, decide_false, decide_eq_true_eq, mAS, mAN, c_1, c_3, r_4, ↓reduceIte, Bool.false_eq_true, bI_true, bI_false, Bool.true_and, Bool.and_true, Bool.and_false, Bool.false_and, Bool.not_true, Bool.not_false, Bool.or_true, Bool.true_or, Bool.or_false, Bool.false_or] <;> rfl) | (simp [filOkM, decide_true, decide_false, decide_eq_true_eq, mAS, mAN, c_1, c_3, r_4, bI]; done)) dX6_fill_31
    · have r_5 : iB c = true := c_3
      obtain ⟨e_6, e_6a, e_6b⟩ := iB_eq r_5
      refine lv_iload_n hx hb dX6_fill_19 rfl (lv_at hl 3 rfl) ?_
      refine lv_iconst (v := nI 0) hx hb dX6_fill_20 (by decide) ?_
      refine lv_ldc hx hb hown w_109 dX6_fill_21 ?_
      refine fr_val (show (65535 : Int32) = nI 65535 from rfl) ?_
      refine fr_S0 (As := [.int (y), .int (nI 0), .int (nI 65535)]) (rest := []) ⟨hx, hb, hml, hown, hts⟩ (kX6_in l D T Z y (nI 0) (nI 65535)) (va_cwS 3 hts gX6_fill_X6_in rfl rfl rfl (by decide +kernel) ⟨Nat.le_of_ble_eq_true rfl, Nat.le_of_ble_eq_true rfl⟩) hK hN hM hP hD hS hA rfl hl.1 rfl (Nat.le_of_ble_eq_true rfl) dX6_fill_23 ⟨Nat.zero_le _, Nat.zero_le _⟩ (fun H locs hP hD hS => ?_)
      refine fr_ifne_b (tgt := 32) hx hb dX6_fill_26 (by decide) (fun c_7 => ?_) (fun c_7 => ?_)
      · have r_8 : iN y 65536 = true := (inn_iN (by decide)).symm.trans c_7
        have e_9 := iN_eq r_8
        have e_9b := iN_lt r_8 (by decide)
        refine lv_iload_n hx hb dX6_fill_32 rfl (lv_at hl 1 rfl) ?_
        refine fr_val e_2 ?_
        refine lv_iload_n hx hb dX6_fill_33 rfl (lv_at hl 2 rfl) ?_
        refine fr_val e_6 ?_
        refine fr_iadd (tn x) (tn c) hx hb dX6_fill_34 ?_
        refine lv_bipush (v := nI 32) hx hb dX6_fill_35 (by decide) ?_
        refine fr_icmp_le ((tn x + tn c)) (32) (by omega) (by decide) (tgt := 42) hx hb dX6_fill_37 (by decide) (fun c_10 => ?_) (fun c_10 => ?_)
        · have c_10' := Nat.not_lt.mpr c_10
          refine lv_aload_n hx hb dX6_fill_42 rfl (lv_at hl 0 rfl) ?_
          refine fr_Vi (As := []) (rest := []) (fs' := [[((md 0), .inr (6, [.ref (md 1), .int (nI (n)), .ref (md 2), .int (nI (len)), .int (nI (p)), .int (nI (le)), .ref (md 3), .ref (md 4)]))], [((md 1), .inl (T 0, 1872, .inl (mCp σ 0 5)))]]) (ci := 6) (q0 := (RX6, TX6, 8)) (i0 := 0) ⟨hx, hb, hml, hown, hts⟩ (kX6_begins l D T Z md n len p le σ) (cwV 0 hts gX6_fill_X6_begins rfl rfl rfl (by decide +kernel) ⟨Nat.le_of_ble_eq_true rfl, Nat.le_of_ble_eq_true rfl⟩) hK hN hM hP hD hS hA [0, 1] rfl rfl rfl rfl rfl rfl hl.1 rfl (Nat.le_of_ble_eq_true rfl) dX6_fill_43 ⟨Nat.zero_le _, Nat.zero_le _⟩ (fun H locs hP hD hS => ?_)
          refine lv_istore (lv' := [(4, .int (nI 1560)), (0, .ref (md 0)), (1, .int (x)), (2, .int (c)), (3, .int (y))]) hx hb dX6_fill_46 hl (by decide) rfl (fun ls hl => ?_)
          refine lv_iconst (v := nI 0) hx hb dX6_fill_48 (by decide) ?_
          refine lv_istore (lv' := [(5, .int (nI 0)), (4, .int (nI 1560)), (0, .ref (md 0)), (1, .int (x)), (2, .int (c)), (3, .int (y))]) hx hb dX6_fill_49 hl (by decide) rfl (fun ls hl => ?_)
          refine lv_iload_n hx hb dX6_fill_51 rfl (lv_at hl 3 rfl) ?_
          refine fr_val e_2 ?_
          refine lv_istore (lv' := [(6, .int (nI (tn x))), (5, .int (nI 0)), (4, .int (nI 1560)), (0, .ref (md 0)), (1, .int (x)), (2, .int (c)), (3, .int (y))]) hx hb dX6_fill_52 hl (by decide) rfl (fun ls hl => ?_)
          have loop54 : ∀ (n9 k9 : Nat), k9 ≤ tn c → tn c < k9 + n9 → ∀ (H : Heap) (locs : List Loc), frP D [[((md 0), .inr (6, [.ref (md 1), .int (nI (n)), .ref (md 2), .int (nI (len)), .int (nI (p)), .int (nI (le)), .ref (md 3), .ref (md 4)]))], [((md 1), .inl (T 0, 1872, .inl (filM (mCp σ 0 5) (tn x) (nI (tn y)) k9)))]] H → va_D A ([[((md 0), .inr (6, [.ref (md 1), .int (nI (n)), .ref (md 2), .int (nI (len)), .int (nI (p)), .int (nI (le)), .ref (md 3), .ref (md 4)]))], [((md 1), .inl (T 0, 1872, .inl (filM (mCp σ 0 5) (tn x) (nI (tn y)) k9)))]] : List va_W).flatten → va_S A s.heap H locs → ∀ (ls : Array Slot), lv_has ls 7 [(6, .int (nI ((tn x + k9)))), (5, .int (sumI (filC (mCp σ 0 5) (tn x) (nI (tn y))) k9)), (4, .int (nI 1560)), (0, .ref (md 0)), (1, .int (x)), (2, .int (c)), (3, .int (y))] → W pP l eE ({ frames := 2, cells := 0, slots := 0, locals := 47 }) s mM ([.ref (md 0), .int (x), .int (c), .int (y)] : List Value).toArray bW mE cC H locs 0 0 (MQ bW (QcI D [[((md 0), .inr (6, [.ref (md 1), .int (nI (mAN (filOkM x c y) n (sumI (filC (mCp σ 0 5) (tn x) (nI (tn y))) (tn c)))), .ref (md 2), .int (nI (len)), .int (nI (p)), .int (nI (le)), .ref (md 3), .ref (md 4)]))], [((md 1), .inl (T 0, 1872, .inl (mAS (filOkM x c y) (filM (mCp σ 0 5) (tn x) (nI (tn y)) (tn c)) n (sumI (filC (mCp σ 0 5) (tn x) (nI (tn y))) (tn c)) σ)))]] (if iN x 32 then (if iB c && iN y 65536 then (if tn x + tn c ≤ 32 then sumI (filC (mCp σ 0 5) (tn x) (nI (tn y))) (tn c) else -1) else -2) else -1) A) ([.ref (md 0), .int (x), .int (c), .int (y)] : List Value).toArray s 0 0 A) (F0 mM 54 ls []) := by
            intro n9
            induction n9 with
            | zero => intro k9 h1 h2; exact absurd h2 (by omega)
            | succ n9 ih =>
              intro k9 hk1 hk2 H locs hP hD hS ls hl
              have hw9 := hww (tn x + k9)
              refine lv_iload hx hb dX6_fill_54 (lv_at hl 0 rfl) ?_
              refine lv_iload_n hx hb dX6_fill_56 rfl (lv_at hl 4 rfl) ?_
              refine fr_val e_2 ?_
              refine lv_iload_n hx hb dX6_fill_57 rfl (lv_at hl 5 rfl) ?_
              refine fr_val e_6 ?_
              refine fr_iadd (tn x) (tn c) hx hb dX6_fill_58 ?_
              refine fr_icmp_ge ((tn x + k9)) ((tn x + tn c)) (by omega) (by omega) (tgt := 115) hx hb dX6_fill_59 (by decide) (fun c_11 => ?_) (fun c_11 => ?_)
              · have c_11' := Nat.not_lt.mpr c_11
                obtain rfl : k9 = tn c := by omega
                refine lv_aload_n hx hb dX6_fill_115 rfl (lv_at hl 3 rfl) ?_
                refine lv_iload hx hb dX6_fill_116 (lv_at hl 1 rfl) ?_
                refine fr_Vi (As := [.int (sumI (filC (mCp σ 0 5) (tn x) (nI (tn y))) (tn c))]) (rest := []) (fs' := [[((md 0), .inr (6, [.ref (md 1), .int (nI (nAcc n (sumI (filC (mCp σ 0 5) (tn x) (nI (tn y))) (tn c)))), .ref (md 2), .int (nI (len)), .int (nI (p)), .int (nI (le)), .ref (md 3), .ref (md 4)]))], [((md 1), .inl (T 0, 1872, .inl (mAcc (filM (mCp σ 0 5) (tn x) (nI (tn y)) (tn c)) n (sumI (filC (mCp σ 0 5) (tn x) (nI (tn y))) (tn c)))))]]) (ci := 6) (q0 := (RX6, TX6, 8)) (i0 := 0) ⟨hx, hb, hml, hown, hts⟩ (kX6_accepts l D T Z md n len p le (filM (mCp σ 0 5) (tn x) (nI (tn y)) (tn c)) (sumI (filC (mCp σ 0 5) (tn x) (nI (tn y))) (tn c)) (by omega)) (cwV 1 hts gX6_fill_X6_accepts rfl rfl rfl (by decide +kernel) ⟨Nat.le_of_ble_eq_true rfl, Nat.le_of_ble_eq_true rfl⟩) hK hN hM hP hD hS hA [0, 1] rfl rfl rfl rfl rfl rfl hl.1 rfl (Nat.le_of_ble_eq_true rfl) dX6_fill_118 ⟨Nat.zero_le _, Nat.zero_le _⟩ (fun H locs hP hD hS => ?_)
                exact fr_iret hx hb hr hlk hP hS (by first | rfl | (simp only [filOkM, decide_true, decide_false, decide_eq_true_eq, mAS, mAN, c_1, c_3, r_5, c_7, r_8, c_10, c_10', c_11, c_11', ↓reduceIte, Bool.false_eq_true, bI_true, bI_false, Bool.true_and, Bool.and_true, Bool.and_false, Bool.false_and, Bool.not_true, Bool.not_false, Bool.or_true, Bool.true_or, Bool.or_false, Bool.false_or] <;> rfl) | (simp [filOkM, decide_true, decide_false, decide_eq_true_eq, mAS, mAN, c_1, c_3, r_5, c_7, r_8, c_10, c_10', c_11, c_11', bI]; done)) (by first | rfl | (simp only [filOkM, decide_true, decide_false, decide_eq_true_eq, mAS, mAN, c_1, c_3, r_5, c_7, r_8, c_10, c_10', c_11, c_11', ↓reduceIte, Bool.false_eq_true, bI_true, bI_false, Bool.true_and, Bool.and_true, Bool.and_false, Bool.false_and, Bool.not_true, Bool.not_false, Bool.or_true, Bool.true_or, Bool.or_false, Bool.false_or] <;> rfl) | (simp [filOkM, decide_true, decide_false, decide_eq_true_eq, mAS, mAN, c_1, c_3, r_5, c_7, r_8, c_10, c_10', c_11, c_11', bI]; done)) dX6_fill_121
              · have c_11' := Nat.not_le.mpr c_11
                refine lv_iload hx hb dX6_fill_62 (lv_at hl 1 rfl) ?_
                refine lv_aload_n hx hb dX6_fill_64 rfl (lv_at hl 3 rfl) ?_
                refine lv_iload hx hb dX6_fill_65 (lv_at hl 2 rfl) ?_
                refine lv_iload hx hb dX6_fill_67 (lv_at hl 0 rfl) ?_
                refine fr_S0 (As := [.int (nI 1560), .int (nI ((tn x + k9)))]) (rest := [.ref (md 0), .int (sumI (filC (mCp σ 0 5) (tn x) (nI (tn y))) k9)]) ⟨hx, hb, hml, hown, hts⟩ (kX6_wordAt l D T Z 1560 (tn x + k9)) (va_cwS 2 hts gX6_fill_X6_wordAt rfl rfl rfl (by decide +kernel) ⟨Nat.le_of_ble_eq_true rfl, Nat.le_of_ble_eq_true rfl⟩) hK hN hM hP hD hS hA rfl hl.1 rfl (Nat.le_of_ble_eq_true rfl) dX6_fill_69 ⟨Nat.zero_le _, Nat.zero_le _⟩ (fun H locs hP hD hS => ?_)
                refine fr_Vi (As := [.int (nI (wdt 1560 (tn x + k9)))]) (rest := [.int (sumI (filC (mCp σ 0 5) (tn x) (nI (tn y))) k9)]) (fs' := [[((md 0), .inr (6, [.ref (md 1), .int (nI (n)), .ref (md 2), .int (nI (len)), .int (nI (p)), .int (nI (le)), .ref (md 3), .ref (md 4)]))], [((md 1), .inl (T 0, 1872, .inl (filM (mCp σ 0 5) (tn x) (nI (tn y)) k9)))]]) (ci := 6) (q0 := (RX6, TX6, 8)) (i0 := 0) ⟨hx, hb, hml, hown, hts⟩ (kX6_isPoisoned l D T Z md n len p le (filM (mCp σ 0 5) (tn x) (nI (tn y)) k9) (wdt 1560 (tn x + k9)) (by omega)) (cwV 1 hts gX6_fill_X6_isPoisoned rfl rfl rfl (by decide +kernel) ⟨Nat.le_of_ble_eq_true rfl, Nat.le_of_ble_eq_true rfl⟩) hK hN hM hP hD hS hA [0, 1] rfl rfl rfl rfl rfl rfl hl.1 rfl (Nat.le_of_ble_eq_true rfl) dX6_fill_72 ⟨Nat.zero_le _, Nat.zero_le _⟩ (fun H locs hP hD hS => ?_)
                refine fr_ifeq_b (tgt := 82) hx hb dX6_fill_75 (by decide) (fun c_12 => ?_) (fun c_12 => ?_)
                · refine lv_iconst (v := nI 0) hx hb dX6_fill_82 (by decide) ?_
                  refine lv_iadd hx hb dX6_fill_83 ?_
                  refine lv_istore (lv' := [(5, .int ((sumI (filC (mCp σ 0 5) (tn x) (nI (tn y))) k9) + (nI 0))), (6, .int (nI ((tn x + k9)))), (4, .int (nI 1560)), (0, .ref (md 0)), (1, .int (x)), (2, .int (c)), (3, .int (y))]) hx hb dX6_fill_84 hl (by decide) rfl (fun ls hl => ?_)
                  refine lv_aload_n hx hb dX6_fill_86 rfl (lv_at hl 3 rfl) ?_
                  refine lv_iload hx hb dX6_fill_87 (lv_at hl 2 rfl) ?_
                  refine lv_iload hx hb dX6_fill_89 (lv_at hl 1 rfl) ?_
                  refine fr_S0 (As := [.int (nI 1560), .int (nI ((tn x + k9)))]) (rest := [.ref (md 0)]) ⟨hx, hb, hml, hown, hts⟩ (kX6_wordAt l D T Z 1560 (tn x + k9)) (va_cwS 2 hts gX6_fill_X6_wordAt rfl rfl rfl (by decide +kernel) ⟨Nat.le_of_ble_eq_true rfl, Nat.le_of_ble_eq_true rfl⟩) hK hN hM hP hD hS hA rfl hl.1 rfl (Nat.le_of_ble_eq_true rfl) dX6_fill_91 ⟨Nat.zero_le _, Nat.zero_le _⟩ (fun H locs hP hD hS => ?_)
                  refine lv_iload_n hx hb dX6_fill_94 rfl (lv_at hl 6 rfl) ?_
                  refine fr_val e_9 ?_
                  refine lv_bipush (v := (-6)) hx hb dX6_fill_95 (by decide) ?_
                  refine lv_iconst (v := nI 0) hx hb dX6_fill_97 (by decide) ?_
                  refine fr_Vv (As := [.int (nI (wdt 1560 (tn x + k9))), .int (nI (tn y)), .int ((-6)), .int (nI 0)]) (rest := []) (fs' := [[((md 0), .inr (6, [.ref (md 1), .int (nI (n)), .ref (md 2), .int (nI (len)), .int (nI (p)), .int (nI (le)), .ref (md 3), .ref (md 4)]))], [((md 1), .inl (T 0, 1872, .inl (lay (filM (mCp σ 0 5) (tn x) (nI (tn y)) k9) (wdt 1560 (tn x + k9)) (nI (tn y)) (-6) (nI 0))))]]) (ci := 6) (q0 := (RX6, TX6, 8)) (i0 := 0) ⟨hx, hb, hml, hown, hts⟩ (kX6_lays l D T Z md n len p le (filM (mCp σ 0 5) (tn x) (nI (tn y)) k9) (wdt 1560 (tn x + k9)) (nI (tn y)) (-6) (nI 0) (by omega)) (cwV 4 hts gX6_fill_X6_lays rfl rfl rfl (by decide +kernel) ⟨Nat.le_of_ble_eq_true rfl, Nat.le_of_ble_eq_true rfl⟩) hK hN hM hP hD hS hA [0, 1] rfl rfl rfl rfl rfl rfl hl.1 rfl (Nat.le_of_ble_eq_true rfl) dX6_fill_98 ⟨Nat.zero_le _, Nat.zero_le _⟩ (fun H locs hP hD hS => ?_)
                  refine lv_aload_n hx hb dX6_fill_101 rfl (lv_at hl 3 rfl) ?_
                  refine lv_iload hx hb dX6_fill_102 (lv_at hl 2 rfl) ?_
                  refine lv_iload hx hb dX6_fill_104 (lv_at hl 1 rfl) ?_
                  refine fr_Vv (As := [.int (nI 1560), .int (nI ((tn x + k9)))]) (rest := []) (fs' := [[((md 0), .inr (6, [.ref (md 1), .int (nI (n)), .ref (md 2), .int (nI (len)), .int (nI (p)), .int (nI (le)), .ref (md 3), .ref (md 4)]))], [((md 1), .inl (T 0, 1872, .inl (mWr (lay (filM (mCp σ 0 5) (tn x) (nI (tn y)) k9) (wdt 1560 (tn x + k9)) (nI (tn y)) (-6) (nI 0)) 1560 (tn x + k9))))]]) (ci := 6) (q0 := (RX6, TX6, 8)) (i0 := 0) ⟨hx, hb, hml, hown, hts⟩ (kX6_written l D T Z md n len p le (lay (filM (mCp σ 0 5) (tn x) (nI (tn y)) k9) (wdt 1560 (tn x + k9)) (nI (tn y)) (-6) (nI 0)) 1560 (tn x + k9) (by decide) (by omega)) (cwV 2 hts gX6_fill_X6_written rfl rfl rfl (by decide +kernel) ⟨Nat.le_of_ble_eq_true rfl, Nat.le_of_ble_eq_true rfl⟩) hK hN hM hP hD hS hA [0, 1] rfl rfl rfl rfl rfl rfl hl.1 rfl (Nat.le_of_ble_eq_true rfl) dX6_fill_106 ⟨Nat.zero_le _, Nat.zero_le _⟩ (fun H locs hP hD hS => ?_)
                  refine fr_iinc ((tn x + k9)) (((tn x + k9) + 1)) (nI_inc _) (lv' := [(6, .int (nI (((tn x + k9) + 1)))), (5, .int ((sumI (filC (mCp σ 0 5) (tn x) (nI (tn y))) k9) + (nI 0))), (4, .int (nI 1560)), (0, .ref (md 0)), (1, .int (x)), (2, .int (c)), (3, .int (y))]) (k := 1) hx hb dX6_fill_109 hl rfl (by decide) rfl (fun ls hl => ?_)
                  refine lv_goto (tgt := 54) hx hb dX6_fill_112 (by decide) ?_
                  have q_13 : (nI (((tn x + k9) + 1)) : Int32) = nI ((tn x + (k9 + 1))) := (by first | rfl | (simp only [sumI, filC, filOkM, decide_true, decide_false, decide_eq_true_eq, mAS, mAN, c_1, c_3, r_5, c_7, r_8, c_10, c_10', c_11, c_11', c_12, ↓reduceIte, Bool.false_eq_true, bI_true, bI_false, Bool.true_and, Bool.and_true, Bool.and_false, Bool.false_and, Bool.not_true, Bool.not_false, Bool.or_true, Bool.true_or, Bool.or_false, Bool.false_or] <;> rfl))
                  rw [q_13] at hl
                  have q_14 : ((sumI (filC (mCp σ 0 5) (tn x) (nI (tn y))) k9) + (nI 0) : Int32) = sumI (filC (mCp σ 0 5) (tn x) (nI (tn y))) (k9 + 1) := (by first | rfl | (simp only [sumI, filC, filOkM, decide_true, decide_false, decide_eq_true_eq, mAS, mAN, c_1, c_3, r_5, c_7, r_8, c_10, c_10', c_11, c_11', c_12, ↓reduceIte, Bool.false_eq_true, bI_true, bI_false, Bool.true_and, Bool.and_true, Bool.and_false, Bool.false_and, Bool.not_true, Bool.not_false, Bool.or_true, Bool.true_or, Bool.or_false, Bool.false_or] <;> rfl))
                  rw [q_14] at hl
                  have q_15 : ([[((md 0), .inr (6, [.ref (md 1), .int (nI (n)), .ref (md 2), .int (nI (len)), .int (nI (p)), .int (nI (le)), .ref (md 3), .ref (md 4)]))], [((md 1), .inl (T 0, 1872, .inl (mWr (lay (filM (mCp σ 0 5) (tn x) (nI (tn y)) k9) (wdt 1560 (tn x + k9)) (nI (tn y)) (-6) (nI 0)) 1560 (tn x + k9))))]] : List va_W) = [[((md 0), .inr (6, [.ref (md 1), .int (nI (n)), .ref (md 2), .int (nI (len)), .int (nI (p)), .int (nI (le)), .ref (md 3), .ref (md 4)]))], [((md 1), .inl (T 0, 1872, .inl (filM (mCp σ 0 5) (tn x) (nI (tn y)) (k9 + 1))))]] := (by first | rfl | (simp only [sumI, filC, filOkM, decide_true, decide_false, decide_eq_true_eq, mAS, mAN, c_1, c_3, r_5, c_7, r_8, c_10, c_10', c_11, c_11', c_12, ↓reduceIte, Bool.false_eq_true, bI_true, bI_false, Bool.true_and, Bool.and_true, Bool.and_false, Bool.false_and, Bool.not_true, Bool.not_false, Bool.or_true, Bool.true_or, Bool.or_false, Bool.false_or] <;> rfl))
                  rw [q_15] at hP hD
                  exact ih  ((k9 + 1)) (by omega) (by omega) H locs hP hD hS ls (lv_sub hl [0, 1, 2, 3, 4, 5, 6] rfl)
                · refine lv_iconst (v := nI 1) hx hb dX6_fill_78 (by decide) ?_
                  refine lv_goto (tgt := 83) hx hb dX6_fill_79 (by decide) ?_
                  refine lv_iadd hx hb dX6_fill_83 ?_
                  refine lv_istore (lv' := [(5, .int ((sumI (filC (mCp σ 0 5) (tn x) (nI (tn y))) k9) + (nI 1))), (6, .int (nI ((tn x + k9)))), (4, .int (nI 1560)), (0, .ref (md 0)), (1, .int (x)), (2, .int (c)), (3, .int (y))]) hx hb dX6_fill_84 hl (by decide) rfl (fun ls hl => ?_)
                  refine lv_aload_n hx hb dX6_fill_86 rfl (lv_at hl 3 rfl) ?_
                  refine lv_iload hx hb dX6_fill_87 (lv_at hl 2 rfl) ?_
                  refine lv_iload hx hb dX6_fill_89 (lv_at hl 1 rfl) ?_
                  refine fr_S0 (As := [.int (nI 1560), .int (nI ((tn x + k9)))]) (rest := [.ref (md 0)]) ⟨hx, hb, hml, hown, hts⟩ (kX6_wordAt l D T Z 1560 (tn x + k9)) (va_cwS 2 hts gX6_fill_X6_wordAt rfl rfl rfl (by decide +kernel) ⟨Nat.le_of_ble_eq_true rfl, Nat.le_of_ble_eq_true rfl⟩) hK hN hM hP hD hS hA rfl hl.1 rfl (Nat.le_of_ble_eq_true rfl) dX6_fill_91 ⟨Nat.zero_le _, Nat.zero_le _⟩ (fun H locs hP hD hS => ?_)
                  refine lv_iload_n hx hb dX6_fill_94 rfl (lv_at hl 6 rfl) ?_
                  refine fr_val e_9 ?_
                  refine lv_bipush (v := (-6)) hx hb dX6_fill_95 (by decide) ?_
                  refine lv_iconst (v := nI 0) hx hb dX6_fill_97 (by decide) ?_
                  refine fr_Vv (As := [.int (nI (wdt 1560 (tn x + k9))), .int (nI (tn y)), .int ((-6)), .int (nI 0)]) (rest := []) (fs' := [[((md 0), .inr (6, [.ref (md 1), .int (nI (n)), .ref (md 2), .int (nI (len)), .int (nI (p)), .int (nI (le)), .ref (md 3), .ref (md 4)]))], [((md 1), .inl (T 0, 1872, .inl (lay (filM (mCp σ 0 5) (tn x) (nI (tn y)) k9) (wdt 1560 (tn x + k9)) (nI (tn y)) (-6) (nI 0))))]]) (ci := 6) (q0 := (RX6, TX6, 8)) (i0 := 0) ⟨hx, hb, hml, hown, hts⟩ (kX6_lays l D T Z md n len p le (filM (mCp σ 0 5) (tn x) (nI (tn y)) k9) (wdt 1560 (tn x + k9)) (nI (tn y)) (-6) (nI 0) (by omega)) (cwV 4 hts gX6_fill_X6_lays rfl rfl rfl (by decide +kernel) ⟨Nat.le_of_ble_eq_true rfl, Nat.le_of_ble_eq_true rfl⟩) hK hN hM hP hD hS hA [0, 1] rfl rfl rfl rfl rfl rfl hl.1 rfl (Nat.le_of_ble_eq_true rfl) dX6_fill_98 ⟨Nat.zero_le _, Nat.zero_le _⟩ (fun H locs hP hD hS => ?_)
                  refine lv_aload_n hx hb dX6_fill_101 rfl (lv_at hl 3 rfl) ?_
                  refine lv_iload hx hb dX6_fill_102 (lv_at hl 2 rfl) ?_
                  refine lv_iload hx hb dX6_fill_104 (lv_at hl 1 rfl) ?_
                  refine fr_Vv (As := [.int (nI 1560), .int (nI ((tn x + k9)))]) (rest := []) (fs' := [[((md 0), .inr (6, [.ref (md 1), .int (nI (n)), .ref (md 2), .int (nI (len)), .int (nI (p)), .int (nI (le)), .ref (md 3), .ref (md 4)]))], [((md 1), .inl (T 0, 1872, .inl (mWr (lay (filM (mCp σ 0 5) (tn x) (nI (tn y)) k9) (wdt 1560 (tn x + k9)) (nI (tn y)) (-6) (nI 0)) 1560 (tn x + k9))))]]) (ci := 6) (q0 := (RX6, TX6, 8)) (i0 := 0) ⟨hx, hb, hml, hown, hts⟩ (kX6_written l D T Z md n len p le (lay (filM (mCp σ 0 5) (tn x) (nI (tn y)) k9) (wdt 1560 (tn x + k9)) (nI (tn y)) (-6) (nI 0)) 1560 (tn x + k9) (by decide) (by omega)) (cwV 2 hts gX6_fill_X6_written rfl rfl rfl (by decide +kernel) ⟨Nat.le_of_ble_eq_true rfl, Nat.le_of_ble_eq_true rfl⟩) hK hN hM hP hD hS hA [0, 1] rfl rfl rfl rfl rfl rfl hl.1 rfl (Nat.le_of_ble_eq_true rfl) dX6_fill_106 ⟨Nat.zero_le _, Nat.zero_le _⟩ (fun H locs hP hD hS => ?_)
                  refine fr_iinc ((tn x + k9)) (((tn x + k9) + 1)) (nI_inc _) (lv' := [(6, .int (nI (((tn x + k9) + 1)))), (5, .int ((sumI (filC (mCp σ 0 5) (tn x) (nI (tn y))) k9) + (nI 1))), (4, .int (nI 1560)), (0, .ref (md 0)), (1, .int (x)), (2, .int (c)), (3, .int (y))]) (k := 1) hx hb dX6_fill_109 hl rfl (by decide) rfl (fun ls hl => ?_)
                  refine lv_goto (tgt := 54) hx hb dX6_fill_112 (by decide) ?_
                  have q_16 : (nI (((tn x + k9) + 1)) : Int32) = nI ((tn x + (k9 + 1))) := (by first | rfl | (simp only [sumI, filC, filOkM, decide_true, decide_false, decide_eq_true_eq, mAS, mAN, c_1, c_3, r_5, c_7, r_8, c_10, c_10', c_11, c_11', c_12, ↓reduceIte, Bool.false_eq_true, bI_true, bI_false, Bool.true_and, Bool.and_true, Bool.and_false, Bool.false_and, Bool.not_true, Bool.not_false, Bool.or_true, Bool.true_or, Bool.or_false, Bool.false_or] <;> rfl))
                  rw [q_16] at hl
                  have q_17 : ((sumI (filC (mCp σ 0 5) (tn x) (nI (tn y))) k9) + (nI 1) : Int32) = sumI (filC (mCp σ 0 5) (tn x) (nI (tn y))) (k9 + 1) := (by first | rfl | (simp only [sumI, filC, filOkM, decide_true, decide_false, decide_eq_true_eq, mAS, mAN, c_1, c_3, r_5, c_7, r_8, c_10, c_10', c_11, c_11', c_12, ↓reduceIte, Bool.false_eq_true, bI_true, bI_false, Bool.true_and, Bool.and_true, Bool.and_false, Bool.false_and, Bool.not_true, Bool.not_false, Bool.or_true, Bool.true_or, Bool.or_false, Bool.false_or] <;> rfl))
                  rw [q_17] at hl
                  have q_18 : ([[((md 0), .inr (6, [.ref (md 1), .int (nI (n)), .ref (md 2), .int (nI (len)), .int (nI (p)), .int (nI (le)), .ref (md 3), .ref (md 4)]))], [((md 1), .inl (T 0, 1872, .inl (mWr (lay (filM (mCp σ 0 5) (tn x) (nI (tn y)) k9) (wdt 1560 (tn x + k9)) (nI (tn y)) (-6) (nI 0)) 1560 (tn x + k9))))]] : List va_W) = [[((md 0), .inr (6, [.ref (md 1), .int (nI (n)), .ref (md 2), .int (nI (len)), .int (nI (p)), .int (nI (le)), .ref (md 3), .ref (md 4)]))], [((md 1), .inl (T 0, 1872, .inl (filM (mCp σ 0 5) (tn x) (nI (tn y)) (k9 + 1))))]] := (by first | rfl | (simp only [sumI, filC, filOkM, decide_true, decide_false, decide_eq_true_eq, mAS, mAN, c_1, c_3, r_5, c_7, r_8, c_10, c_10', c_11, c_11', c_12, ↓reduceIte, Bool.false_eq_true, bI_true, bI_false, Bool.true_and, Bool.and_true, Bool.and_false, Bool.false_and, Bool.not_true, Bool.not_false, Bool.or_true, Bool.true_or, Bool.or_false, Bool.false_or] <;> rfl))
                  rw [q_18] at hP hD
                  exact ih  ((k9 + 1)) (by omega) (by omega) H locs hP hD hS ls (lv_sub hl [0, 1, 2, 3, 4, 5, 6] rfl)
          have q_19 : (nI (tn x) : Int32) = nI ((tn x + 0)) := (by first | rfl | (simp only [filOkM, decide_true, decide_false, decide_eq_true_eq, mAS, mAN, c_1, c_3, r_5, c_7, r_8, c_10, c_10', ↓reduceIte, Bool.false_eq_true, bI_true, bI_false, Bool.true_and, Bool.and_true, Bool.and_false, Bool.false_and, Bool.not_true, Bool.not_false, Bool.or_true, Bool.true_or, Bool.or_false, Bool.false_or] <;> rfl) | (simp [filOkM, decide_true, decide_false, decide_eq_true_eq, mAS, mAN, c_1, c_3, r_5, c_7, r_8, c_10, c_10']; done))
          rw [q_19] at hl
          have q_20 : (nI 0 : Int32) = sumI (filC (mCp σ 0 5) (tn x) (nI (tn y))) 0 := (by first | rfl | (simp only [filOkM, decide_true, decide_false, decide_eq_true_eq, mAS, mAN, c_1, c_3, r_5, c_7, r_8, c_10, c_10', ↓reduceIte, Bool.false_eq_true, bI_true, bI_false, Bool.true_and, Bool.and_true, Bool.and_false, Bool.false_and, Bool.not_true, Bool.not_false, Bool.or_true, Bool.true_or, Bool.or_false, Bool.false_or] <;> rfl) | (simp [filOkM, decide_true, decide_false, decide_eq_true_eq, mAS, mAN, c_1, c_3, r_5, c_7, r_8, c_10, c_10']; done))
          rw [q_20] at hl
          have q_21 : ([[((md 0), .inr (6, [.ref (md 1), .int (nI (n)), .ref (md 2), .int (nI (len)), .int (nI (p)), .int (nI (le)), .ref (md 3), .ref (md 4)]))], [((md 1), .inl (T 0, 1872, .inl (mCp σ 0 5)))]] : List va_W) = [[((md 0), .inr (6, [.ref (md 1), .int (nI (n)), .ref (md 2), .int (nI (len)), .int (nI (p)), .int (nI (le)), .ref (md 3), .ref (md 4)]))], [((md 1), .inl (T 0, 1872, .inl (filM (mCp σ 0 5) (tn x) (nI (tn y)) 0)))]] := (by first | rfl | (simp only [filOkM, decide_true, decide_false, decide_eq_true_eq, mAS, mAN, c_1, c_3, r_5, c_7, r_8, c_10, c_10', ↓reduceIte, Bool.false_eq_true, bI_true, bI_false, Bool.true_and, Bool.and_true, Bool.and_false, Bool.false_and, Bool.not_true, Bool.not_false, Bool.or_true, Bool.true_or, Bool.or_false, Bool.false_or] <;> rfl) | (simp [filOkM, decide_true, decide_false, decide_eq_true_eq, mAS, mAN, c_1, c_3, r_5, c_7, r_8, c_10, c_10']; done))
          rw [q_21] at hP hD
          exact loop54 (tn c + 1) (0) (by omega) (by omega) _ _ hP hD hS ls (lv_sub hl [0, 1, 2, 3, 4, 5, 6] rfl)
        · have c_10' := Nat.not_le.mpr c_10
          refine lv_iconst (v := (-1)) hx hb dX6_fill_40 (by decide) ?_
          exact fr_iret hx hb hr hlk hP hS (by first | rfl | (simp only [filOkM, decide_true, decide_false, decide_eq_true_eq, mAS, mAN, c_1, c_3, r_5, c_7, r_8, c_10, c_10', ↓reduceIte, Bool.false_eq_true, bI_true, bI_false, Bool.true_and, Bool.and_true, Bool.and_false, Bool.false_and, Bool.not_true, Bool.not_false, Bool.or_true, Bool.true_or, Bool.or_false, Bool.false_or] <;> rfl) | (simp [filOkM, decide_true, decide_false, decide_eq_true_eq, mAS, mAN, c_1, c_3, r_5, c_7, r_8, c_10, c_10', bI]; done)) (by first | rfl | (simp only [filOkM, decide_true, decide_false, decide_eq_true_eq, mAS, mAN, c_1, c_3, r_5, c_7, r_8, c_10, c_10', ↓reduceIte, Bool.false_eq_true, bI_true, bI_false, Bool.true_and, Bool.and_true, Bool.and_false, Bool.false_and, Bool.not_true, Bool.not_false, Bool.or_true, Bool.true_or, Bool.or_false, Bool.false_or] <;> rfl) | (simp [filOkM, decide_true, decide_false, decide_eq_true_eq, mAS, mAN, c_1, c_3, r_5, c_7, r_8, c_10, c_10', bI]; done)) dX6_fill_41
      · have r_22 : iN y 65536 = false := (inn_iN (by decide)).symm.trans c_7
        refine lv_bipush (v := (-2)) hx hb dX6_fill_29 (by decide) ?_
        exact fr_iret hx hb hr hlk hP hS (by first | rfl | (simp only [filOkM, decide_true, decide_false, decide_eq_true_eq, mAS, mAN, c_1, c_3, r_5, c_7, r_22, ↓reduceIte, Bool.false_eq_true, bI_true, bI_false, Bool.true_and, Bool.and_true, Bool.and_false, Bool.false_and, Bool.not_true, Bool.not_false, Bool.or_true, Bool.true_or, Bool.or_false, Bool.false_or] <;> rfl) | (simp [filOkM, decide_true, decide_false, decide_eq_true_eq, mAS, mAN, c_1, c_3, r_5, c_7, r_22, bI]; done)) (by first | rfl | (simp only [filOkM, decide_true, decide_false, decide_eq_true_eq, mAS, mAN, c_1, c_3, r_5, c_7, r_22, ↓reduceIte, Bool.false_eq_true, bI_true, bI_false, Bool.true_and, Bool.and_true, Bool.and_false, Bool.false_and, Bool.not_true, Bool.not_false, Bool.or_true, Bool.true_or, Bool.or_false, Bool.false_or] <;> rfl) | (simp [filOkM, decide_true, decide_false, decide_eq_true_eq, mAS, mAN, c_1, c_3, r_5, c_7, r_22, bI]; done)) dX6_fill_31
  · refine lv_iconst (v := (-1)) hx hb dX6_fill_7 (by decide) ?_
    exact fr_iret hx hb hr hlk hP hS (by first | rfl | (simp only [filOkM, decide_true, decide_false, decide_eq_true_eq, mAS, mAN, c_1, ↓reduceIte, Bool.false_eq_true, bI_true, bI_false, Bool.true_and, Bool.and_true, Bool.and_false, Bool.false_and, Bool.not_true, Bool.not_false, Bool.or_true, Bool.true_or, Bool.or_false, Bool.false_or] <;> rfl) | (simp [filOkM, decide_true, decide_false, decide_eq_true_eq, mAS, mAN, c_1, bI]; done)) (by first | rfl | (simp only [filOkM, decide_true, decide_false, decide_eq_true_eq, mAS, mAN, c_1, ↓reduceIte, Bool.false_eq_true, bI_true, bI_false, Bool.true_and, Bool.and_true, Bool.and_false, Bool.false_and, Bool.not_true, Bool.not_false, Bool.or_true, Bool.true_or, Bool.or_false, Bool.false_or] <;> rfl) | (simp [filOkM, decide_true, decide_false, decide_eq_true_eq, mAS, mAN, c_1, bI]; done)) dX6_fill_8
