
set_option maxHeartbeats 8000000 in
set_option maxRecDepth 100000 in
theorem kX6_computes (l : Launch) (D : va_G) (T : Nat → ClassId) (Z : ZZ) (md : Nat → Nat) (n : Nat) (len : Nat) (p : Nat) (le : Nat) (σ : MS) (b : Nat) (t : Nat) (q : Nat) (k : Nat) (a : Nat) (c : Nat) (hb9 : b ≤ 1560) (ht : t < 4) (ha : a < 4) (hc9 : c < 4) (hk4 : k < 4) (hq : q < 4) : CtI l D T Z yX6_computes wsX6_computes ({ frames := 3, cells := 0, slots := 0, locals := 74 }) [[((md 0), .inr (6, [.ref (md 1), .int (nI (n)), .ref (md 2), .int (nI (len)), .int (nI (p)), .int (nI (le)), .ref (md 3), .ref (md 4)]))], [((md 1), .inl (T 0, 1872, .inl (σ)))]] [.ref (md 0), .int (nI (b)), .int (nI (t)), .int (nI (q)), .int (nI (k)), .int (nI (a)), .int (nI (c))] (mCmpR σ b t q a c) [[((md 0), .inr (6, [.ref (md 1), .int (nI (n)), .ref (md 2), .int (nI (len)), .int (nI (p)), .int (nI (le)), .ref (md 3), .ref (md 4)]))], [((md 1), .inl (T 0, 1872, .inl (mCmpS σ b t q k a c)))]] := by
  have hra : rgt b t a = b + 192 + 3 * (4 * t + a) := rfl
  have hrc : rgt b t c = b + 192 + 3 * (4 * t + c) := rfl
  have hrk : rgt b t k = b + 192 + 3 * (4 * t + k) := rfl
  refine CtI.of (cc := cX6_computes) (maxL := 9) (ret := (some .int)) (plainFor_of_name (by decide)) rfl rfl ?_
  intro pP eE s mM bW mE cC A hE hK hN hM hP hD hA
  obtain ⟨hx, hb, hr, hts, hown, hml, hlk⟩ := hE
  have hown : s.vm.findClass RX6 = some mM.cls := hown
  have hS : va_S A s.heap s.heap [] := va_S.rf
  have hl := lv_entry ([.ref (md 0), .int (nI (b)), .int (nI (t)), .int (nI (q)), .int (nI (k)), .int (nI (a)), .int (nI (c))]) (n := 9) (Nat.le_of_ble_eq_true rfl)
  rw [lg_entry_eq]
  generalize (lg_sl ([.ref (md 0), .int (nI (b)), .int (nI (t)), .int (nI (q)), .int (nI (k)), .int (nI (a)), .int (nI (c))]) ++ List.replicate (9 - (lg_sl ([.ref (md 0), .int (nI (b)), .int (nI (t)), .int (nI (q)), .int (nI (k)), .int (nI (a)), .int (nI (c))])).length) Slot.unset).toArray = ls at hl ⊢
  have hl : lv_has ls 9 [(0, .ref (md 0)), (1, .int (nI (b))), (2, .int (nI (t))), (3, .int (nI (q))), (4, .int (nI (k))), (5, .int (nI (a))), (6, .int (nI (c)))] := hl
  have w_7 := hts (.fieldLink RX6 7 "PoisonedMemoryModel" "s" "[I") (by decide +kernel)
  have hinX6 : ∀ w ∈ wsX60, w ∈ wsX6_computes := by decide +kernel
  refine lv_aload_n hx hb dX6_computes_0 rfl (lv_at hl 0 rfl) ?_
  refine lv_iload_n hx hb dX6_computes_1 rfl (lv_at hl 1 rfl) ?_
  refine lv_iload_n hx hb dX6_computes_2 rfl (lv_at hl 2 rfl) ?_
  refine fr_Vi (As := [.int (nI (b)), .int (nI (t))]) (rest := []) (fs' := [[((md 0), .inr (6, [.ref (md 1), .int (nI (n)), .ref (md 2), .int (nI (len)), .int (nI (p)), .int (nI (le)), .ref (md 3), .ref (md 4)]))], [((md 1), .inl (T 0, 1872, .inl (σ)))]]) (ci := 6) (q0 := (RX6, TX6, 8)) (i0 := 0) ⟨hx, hb, hml, hown, hts⟩ (kX6_isStopped l D T Z md n len p le σ b t (by omega) (by omega)) (cwV 2 hts gX6_computes_X6_isStopped rfl rfl rfl (by decide +kernel) ⟨Nat.le_of_ble_eq_true rfl, Nat.le_of_ble_eq_true rfl⟩) hK hN hM hP hD hS hA [0, 1] rfl rfl rfl rfl rfl rfl hl.1 rfl (Nat.le_of_ble_eq_true rfl) dX6_computes_3 ⟨Nat.zero_le _, Nat.zero_le _⟩ (fun H locs hP hD hS => ?_)
  refine fr_ifeq_b (tgt := 12) hx hb dX6_computes_6 (by decide) (fun c_1 => ?_) (fun c_1 => ?_)
  · refine lv_iload_n hx hb dX6_computes_12 rfl (lv_at hl 3 rfl) ?_
    refine lv_iconst (v := nI 2) hx hb dX6_computes_13 (by decide) ?_
    refine fr_icmp_ne (q) (2) (by omega) (by decide) (tgt := 28) hx hb dX6_computes_14 (by decide) (fun c_2 => ?_) (fun c_2 => ?_)
    · refine lv_iconst (v := nI 0) hx hb dX6_computes_28 (by decide) ?_
      refine lv_istore (lv' := [(7, .int (nI 0)), (0, .ref (md 0)), (1, .int (nI (b))), (2, .int (nI (t))), (3, .int (nI (q))), (4, .int (nI (k))), (5, .int (nI (a))), (6, .int (nI (c)))]) hx hb dX6_computes_29 hl (by decide) rfl (fun ls hl => ?_)
      refine lv_iload hx hb dX6_computes_31 (lv_at hl 0 rfl) ?_
      refine lv_if_ne (tgt := 52) hx hb dX6_computes_33 (by decide) (fun z => absurd z (by decide)) (fun _ => ?_)
      refine lv_aload_n hx hb dX6_computes_36 rfl (lv_at hl 1 rfl) ?_
      refine lv_iload_n hx hb dX6_computes_37 rfl (lv_at hl 2 rfl) ?_
      refine lv_iload_n hx hb dX6_computes_38 rfl (lv_at hl 3 rfl) ?_
      refine lv_iload hx hb dX6_computes_39 (lv_at hl 6 rfl) ?_
      refine lv_iload hx hb dX6_computes_41 (lv_at hl 7 rfl) ?_
      refine fr_Vi (As := [.int (nI (b)), .int (nI (t)), .int (nI (a)), .int (nI (c))]) (rest := []) (fs' := [[((md 0), .inr (6, [.ref (md 1), .int (nI (n)), .ref (md 2), .int (nI (len)), .int (nI (p)), .int (nI (le)), .ref (md 3), .ref (md 4)]))], [((md 1), .inl (T 0, 1872, .inl (mUse σ b t a c)))]]) (ci := 6) (q0 := (RX6, TX6, 8)) (i0 := 0) ⟨hx, hb, hml, hown, hts⟩ (kX6_uses l D T Z md n len p le σ b t a c (by omega) (by omega) (by omega) (by omega)) (cwV 4 hts gX6_computes_X6_uses rfl rfl rfl (by decide +kernel) ⟨Nat.le_of_ble_eq_true rfl, Nat.le_of_ble_eq_true rfl⟩) hK hN hM hP hD hS hA [0, 1] rfl rfl rfl rfl rfl rfl hl.1 rfl (Nat.le_of_ble_eq_true rfl) dX6_computes_43 ⟨Nat.zero_le _, Nat.zero_le _⟩ (fun H locs hP hD hS => ?_)
      refine fr_ifne_b (tgt := 52) hx hb dX6_computes_46 (by decide) (fun c_3 => ?_) (fun c_3 => ?_)
      · refine lv_iload hx hb dX6_computes_52 (lv_at hl 0 rfl) ?_
        refine lv_if_eq (tgt := 61) hx hb dX6_computes_54 (by decide) (fun _ => ?_) (fun z => absurd (by decide) z)
        refine lv_iload_n hx hb dX6_computes_61 rfl (lv_at hl 4 rfl) ?_
        refine lv_aload_n hx hb dX6_computes_62 rfl (lv_at hl 1 rfl) ?_
        refine va_get (D := D) (ci := 6) (v := .ref (md 1)) (C := RX6) (T := TX6) (N := 8) hx hb hts hinX6 hown hK (hP.at 0 rfl) 0 rfl rfl 0 (by decide) w_7 (fun _ h9 => h9) rfl dX6_computes_63 ?_
        refine lv_iload_n hx hb dX6_computes_66 rfl (lv_at hl 2 rfl) ?_
        refine lv_iload_n hx hb dX6_computes_67 rfl (lv_at hl 3 rfl) ?_
        refine lv_iload hx hb dX6_computes_68 (lv_at hl 6 rfl) ?_
        refine fr_S0 (As := [.int (nI (b)), .int (nI (t)), .int (nI (a))]) (rest := [.ref (md 1), .int (nI (q))]) ⟨hx, hb, hml, hown, hts⟩ (kX6_registerAt l D T Z b t a) (va_cwS 3 hts gX6_computes_X6_registerAt rfl rfl rfl (by decide +kernel) ⟨Nat.le_of_ble_eq_true rfl, Nat.le_of_ble_eq_true rfl⟩) hK hN hM hP hD hS hA rfl hl.1 rfl (Nat.le_of_ble_eq_true rfl) dX6_computes_70 ⟨Nat.zero_le _, Nat.zero_le _⟩ (fun H locs hP hD hS => ?_)
        refine fr_iald hx hb hK hP 1 (rgt b t a) rfl (by omega) (by omega) dX6_computes_73 ?_
        refine lv_aload_n hx hb dX6_computes_74 rfl (lv_at hl 1 rfl) ?_
        refine va_get (D := D) (ci := 6) (v := .ref (md 1)) (C := RX6) (T := TX6) (N := 8) hx hb hts hinX6 hown hK (hP.at 0 rfl) 0 rfl rfl 0 (by decide) w_7 (fun _ h9 => h9) rfl dX6_computes_75 ?_
        refine lv_iload_n hx hb dX6_computes_78 rfl (lv_at hl 2 rfl) ?_
        refine lv_iload_n hx hb dX6_computes_79 rfl (lv_at hl 3 rfl) ?_
        refine lv_iload hx hb dX6_computes_80 (lv_at hl 7 rfl) ?_
        refine fr_S0 (As := [.int (nI (b)), .int (nI (t)), .int (nI (c))]) (rest := [.ref (md 1), .int ((mUse σ b t a c) (rgt b t a)), .int (nI (q))]) ⟨hx, hb, hml, hown, hts⟩ (kX6_registerAt l D T Z b t c) (va_cwS 3 hts gX6_computes_X6_registerAt rfl rfl rfl (by decide +kernel) ⟨Nat.le_of_ble_eq_true rfl, Nat.le_of_ble_eq_true rfl⟩) hK hN hM hP hD hS hA rfl hl.1 rfl (Nat.le_of_ble_eq_true rfl) dX6_computes_82 ⟨Nat.zero_le _, Nat.zero_le _⟩ (fun H locs hP hD hS => ?_)
        refine fr_iald hx hb hK hP 1 (rgt b t c) rfl (by omega) (by omega) dX6_computes_85 ?_
        refine fr_S0 (As := [.int (nI (q)), .int ((mUse σ b t a c) (rgt b t a)), .int ((mUse σ b t a c) (rgt b t c))]) (rest := []) ⟨hx, hb, hml, hown, hts⟩ (kX6_result l D T Z q ((mUse σ b t a c) (rgt b t a)) ((mUse σ b t a c) (rgt b t c)) (by omega)) (va_cwS 3 hts gX6_computes_X6_result rfl rfl rfl (by decide +kernel) ⟨Nat.le_of_ble_eq_true rfl, Nat.le_of_ble_eq_true rfl⟩) hK hN hM hP hD hS hA rfl hl.1 rfl (Nat.le_of_ble_eq_true rfl) dX6_computes_86 ⟨Nat.zero_le _, Nat.zero_le _⟩ (fun H locs hP hD hS => ?_)
        refine lv_istore (lv' := [(8, .int (mRes q ((mUse σ b t a c) (rgt b t a)) ((mUse σ b t a c) (rgt b t c)))), (7, .int (nI 0)), (0, .ref (md 0)), (1, .int (nI (b))), (2, .int (nI (t))), (3, .int (nI (q))), (4, .int (nI (k))), (5, .int (nI (a))), (6, .int (nI (c)))]) hx hb dX6_computes_89 hl (by decide) rfl (fun ls hl => ?_)
        refine lv_aload_n hx hb dX6_computes_91 rfl (lv_at hl 2 rfl) ?_
        refine lv_iload_n hx hb dX6_computes_92 rfl (lv_at hl 3 rfl) ?_
        refine lv_iload_n hx hb dX6_computes_93 rfl (lv_at hl 4 rfl) ?_
        refine lv_iload hx hb dX6_computes_94 (lv_at hl 6 rfl) ?_
        refine fr_S0 (As := [.int (nI (b)), .int (nI (t)), .int (nI (k))]) (rest := [.ref (md 0)]) ⟨hx, hb, hml, hown, hts⟩ (kX6_registerAt l D T Z b t k) (va_cwS 3 hts gX6_computes_X6_registerAt rfl rfl rfl (by decide +kernel) ⟨Nat.le_of_ble_eq_true rfl, Nat.le_of_ble_eq_true rfl⟩) hK hN hM hP hD hS hA rfl hl.1 rfl (Nat.le_of_ble_eq_true rfl) dX6_computes_96 ⟨Nat.zero_le _, Nat.zero_le _⟩ (fun H locs hP hD hS => ?_)
        refine lv_iload hx hb dX6_computes_99 (lv_at hl 0 rfl) ?_
        refine lv_bipush (v := (-6)) hx hb dX6_computes_101 (by decide) ?_
        refine lv_iconst (v := nI 0) hx hb dX6_computes_103 (by decide) ?_
        refine fr_Vv (As := [.int (nI (rgt b t k)), .int (mRes q ((mUse σ b t a c) (rgt b t a)) ((mUse σ b t a c) (rgt b t c))), .int ((-6)), .int (nI 0)]) (rest := []) (fs' := [[((md 0), .inr (6, [.ref (md 1), .int (nI (n)), .ref (md 2), .int (nI (len)), .int (nI (p)), .int (nI (le)), .ref (md 3), .ref (md 4)]))], [((md 1), .inl (T 0, 1872, .inl (lay (mUse σ b t a c) (rgt b t k) (mRes q ((mUse σ b t a c) (rgt b t a)) ((mUse σ b t a c) (rgt b t c))) (-6) (nI 0))))]]) (ci := 6) (q0 := (RX6, TX6, 8)) (i0 := 0) ⟨hx, hb, hml, hown, hts⟩ (kX6_lays l D T Z md n len p le (mUse σ b t a c) (rgt b t k) (mRes q ((mUse σ b t a c) (rgt b t a)) ((mUse σ b t a c) (rgt b t c))) (-6) (nI 0) (by omega)) (cwV 4 hts gX6_computes_X6_lays rfl rfl rfl (by decide +kernel) ⟨Nat.le_of_ble_eq_true rfl, Nat.le_of_ble_eq_true rfl⟩) hK hN hM hP hD hS hA [0, 1] rfl rfl rfl rfl rfl rfl hl.1 rfl (Nat.le_of_ble_eq_true rfl) dX6_computes_104 ⟨Nat.zero_le _, Nat.zero_le _⟩ (fun H locs hP hD hS => ?_)
        refine lv_iload hx hb dX6_computes_107 (lv_at hl 0 rfl) ?_
        exact fr_iret hx hb hr hlk hP hS (by simp only [mCmpR, c_1, ↓reduceIte, Bool.false_eq_true]; rw [mCpD_f (fun z => c_2 z.1), if_pos c_3, mCpV_f (fun z => c_2 z.1)] <;> rfl) (congrArg (fun f9 => ([[((md 0), .inr (6, [.ref (md 1), .int (nI (n)), .ref (md 2), .int (nI (len)), .int (nI (p)), .int (nI (le)), .ref (md 3), .ref (md 4)]))], [((md 1), .inl (T 0, 1872, .inl f9))]] : List va_W)) (show (lay (mUse σ b t a c) (rgt b t k) (mRes q ((mUse σ b t a c) (rgt b t a)) ((mUse σ b t a c) (rgt b t c))) (-6) (nI 0) : MS) = mCmpS σ b t q k a c from (by simp only [mCmpS, c_1, ↓reduceIte, Bool.false_eq_true]; rw [mCpD_f (fun z => c_2 z.1), if_pos c_3, mCpU_f (fun z => c_2 z.1), mCpV_f (fun z => c_2 z.1)] <;> rfl))) dX6_computes_109
      · refine lv_bipush (v := (-7)) hx hb dX6_computes_49 (by decide) ?_
        exact fr_iret hx hb hr hlk hP hS (by simp only [mCmpR, c_1, ↓reduceIte, Bool.false_eq_true]; rw [mCpD_f (fun z => c_2 z.1), c_3, if_neg (by decide)] <;> rfl) (congrArg (fun f9 => ([[((md 0), .inr (6, [.ref (md 1), .int (nI (n)), .ref (md 2), .int (nI (len)), .int (nI (p)), .int (nI (le)), .ref (md 3), .ref (md 4)]))], [((md 1), .inl (T 0, 1872, .inl f9))]] : List va_W)) (show (mUse σ b t a c : MS) = mCmpS σ b t q k a c from (by simp only [mCmpS, c_1, ↓reduceIte, Bool.false_eq_true]; rw [mCpD_f (fun z => c_2 z.1), c_3, if_neg (by decide), mCpU_f (fun z => c_2 z.1)] <;> rfl))) dX6_computes_51
    · refine lv_iload hx hb dX6_computes_17 (lv_at hl 5 rfl) ?_
      refine lv_iload hx hb dX6_computes_19 (lv_at hl 6 rfl) ?_
      refine fr_icmp_ne (a) (c) (by omega) (by omega) (tgt := 28) hx hb dX6_computes_21 (by decide) (fun c_4 => ?_) (fun c_4 => ?_)
      · refine lv_iconst (v := nI 0) hx hb dX6_computes_28 (by decide) ?_
        refine lv_istore (lv' := [(7, .int (nI 0)), (0, .ref (md 0)), (1, .int (nI (b))), (2, .int (nI (t))), (3, .int (nI (q))), (4, .int (nI (k))), (5, .int (nI (a))), (6, .int (nI (c)))]) hx hb dX6_computes_29 hl (by decide) rfl (fun ls hl => ?_)
        refine lv_iload hx hb dX6_computes_31 (lv_at hl 0 rfl) ?_
        refine lv_if_ne (tgt := 52) hx hb dX6_computes_33 (by decide) (fun z => absurd z (by decide)) (fun _ => ?_)
        refine lv_aload_n hx hb dX6_computes_36 rfl (lv_at hl 1 rfl) ?_
        refine lv_iload_n hx hb dX6_computes_37 rfl (lv_at hl 2 rfl) ?_
        refine lv_iload_n hx hb dX6_computes_38 rfl (lv_at hl 3 rfl) ?_
        refine lv_iload hx hb dX6_computes_39 (lv_at hl 6 rfl) ?_
        refine lv_iload hx hb dX6_computes_41 (lv_at hl 7 rfl) ?_
        refine fr_Vi (As := [.int (nI (b)), .int (nI (t)), .int (nI (a)), .int (nI (c))]) (rest := []) (fs' := [[((md 0), .inr (6, [.ref (md 1), .int (nI (n)), .ref (md 2), .int (nI (len)), .int (nI (p)), .int (nI (le)), .ref (md 3), .ref (md 4)]))], [((md 1), .inl (T 0, 1872, .inl (mUse σ b t a c)))]]) (ci := 6) (q0 := (RX6, TX6, 8)) (i0 := 0) ⟨hx, hb, hml, hown, hts⟩ (kX6_uses l D T Z md n len p le σ b t a c (by omega) (by omega) (by omega) (by omega)) (cwV 4 hts gX6_computes_X6_uses rfl rfl rfl (by decide +kernel) ⟨Nat.le_of_ble_eq_true rfl, Nat.le_of_ble_eq_true rfl⟩) hK hN hM hP hD hS hA [0, 1] rfl rfl rfl rfl rfl rfl hl.1 rfl (Nat.le_of_ble_eq_true rfl) dX6_computes_43 ⟨Nat.zero_le _, Nat.zero_le _⟩ (fun H locs hP hD hS => ?_)
        refine fr_ifne_b (tgt := 52) hx hb dX6_computes_46 (by decide) (fun c_5 => ?_) (fun c_5 => ?_)
        · refine lv_iload hx hb dX6_computes_52 (lv_at hl 0 rfl) ?_
          refine lv_if_eq (tgt := 61) hx hb dX6_computes_54 (by decide) (fun _ => ?_) (fun z => absurd (by decide) z)
          refine lv_iload_n hx hb dX6_computes_61 rfl (lv_at hl 4 rfl) ?_
          refine lv_aload_n hx hb dX6_computes_62 rfl (lv_at hl 1 rfl) ?_
          refine va_get (D := D) (ci := 6) (v := .ref (md 1)) (C := RX6) (T := TX6) (N := 8) hx hb hts hinX6 hown hK (hP.at 0 rfl) 0 rfl rfl 0 (by decide) w_7 (fun _ h9 => h9) rfl dX6_computes_63 ?_
          refine lv_iload_n hx hb dX6_computes_66 rfl (lv_at hl 2 rfl) ?_
          refine lv_iload_n hx hb dX6_computes_67 rfl (lv_at hl 3 rfl) ?_
          refine lv_iload hx hb dX6_computes_68 (lv_at hl 6 rfl) ?_
          refine fr_S0 (As := [.int (nI (b)), .int (nI (t)), .int (nI (a))]) (rest := [.ref (md 1), .int (nI (q))]) ⟨hx, hb, hml, hown, hts⟩ (kX6_registerAt l D T Z b t a) (va_cwS 3 hts gX6_computes_X6_registerAt rfl rfl rfl (by decide +kernel) ⟨Nat.le_of_ble_eq_true rfl, Nat.le_of_ble_eq_true rfl⟩) hK hN hM hP hD hS hA rfl hl.1 rfl (Nat.le_of_ble_eq_true rfl) dX6_computes_70 ⟨Nat.zero_le _, Nat.zero_le _⟩ (fun H locs hP hD hS => ?_)
          refine fr_iald hx hb hK hP 1 (rgt b t a) rfl (by omega) (by omega) dX6_computes_73 ?_
          refine lv_aload_n hx hb dX6_computes_74 rfl (lv_at hl 1 rfl) ?_
          refine va_get (D := D) (ci := 6) (v := .ref (md 1)) (C := RX6) (T := TX6) (N := 8) hx hb hts hinX6 hown hK (hP.at 0 rfl) 0 rfl rfl 0 (by decide) w_7 (fun _ h9 => h9) rfl dX6_computes_75 ?_
          refine lv_iload_n hx hb dX6_computes_78 rfl (lv_at hl 2 rfl) ?_
          refine lv_iload_n hx hb dX6_computes_79 rfl (lv_at hl 3 rfl) ?_
          refine lv_iload hx hb dX6_computes_80 (lv_at hl 7 rfl) ?_
          refine fr_S0 (As := [.int (nI (b)), .int (nI (t)), .int (nI (c))]) (rest := [.ref (md 1), .int ((mUse σ b t a c) (rgt b t a)), .int (nI (q))]) ⟨hx, hb, hml, hown, hts⟩ (kX6_registerAt l D T Z b t c) (va_cwS 3 hts gX6_computes_X6_registerAt rfl rfl rfl (by decide +kernel) ⟨Nat.le_of_ble_eq_true rfl, Nat.le_of_ble_eq_true rfl⟩) hK hN hM hP hD hS hA rfl hl.1 rfl (Nat.le_of_ble_eq_true rfl) dX6_computes_82 ⟨Nat.zero_le _, Nat.zero_le _⟩ (fun H locs hP hD hS => ?_)
          refine fr_iald hx hb hK hP 1 (rgt b t c) rfl (by omega) (by omega) dX6_computes_85 ?_
          refine fr_S0 (As := [.int (nI (q)), .int ((mUse σ b t a c) (rgt b t a)), .int ((mUse σ b t a c) (rgt b t c))]) (rest := []) ⟨hx, hb, hml, hown, hts⟩ (kX6_result l D T Z q ((mUse σ b t a c) (rgt b t a)) ((mUse σ b t a c) (rgt b t c)) (by omega)) (va_cwS 3 hts gX6_computes_X6_result rfl rfl rfl (by decide +kernel) ⟨Nat.le_of_ble_eq_true rfl, Nat.le_of_ble_eq_true rfl⟩) hK hN hM hP hD hS hA rfl hl.1 rfl (Nat.le_of_ble_eq_true rfl) dX6_computes_86 ⟨Nat.zero_le _, Nat.zero_le _⟩ (fun H locs hP hD hS => ?_)
          refine lv_istore (lv' := [(8, .int (mRes q ((mUse σ b t a c) (rgt b t a)) ((mUse σ b t a c) (rgt b t c)))), (7, .int (nI 0)), (0, .ref (md 0)), (1, .int (nI (b))), (2, .int (nI (t))), (3, .int (nI (q))), (4, .int (nI (k))), (5, .int (nI (a))), (6, .int (nI (c)))]) hx hb dX6_computes_89 hl (by decide) rfl (fun ls hl => ?_)
          refine lv_aload_n hx hb dX6_computes_91 rfl (lv_at hl 2 rfl) ?_
          refine lv_iload_n hx hb dX6_computes_92 rfl (lv_at hl 3 rfl) ?_
          refine lv_iload_n hx hb dX6_computes_93 rfl (lv_at hl 4 rfl) ?_
          refine lv_iload hx hb dX6_computes_94 (lv_at hl 6 rfl) ?_
          refine fr_S0 (As := [.int (nI (b)), .int (nI (t)), .int (nI (k))]) (rest := [.ref (md 0)]) ⟨hx, hb, hml, hown, hts⟩ (kX6_registerAt l D T Z b t k) (va_cwS 3 hts gX6_computes_X6_registerAt rfl rfl rfl (by decide +kernel) ⟨Nat.le_of_ble_eq_true rfl, Nat.le_of_ble_eq_true rfl⟩) hK hN hM hP hD hS hA rfl hl.1 rfl (Nat.le_of_ble_eq_true rfl) dX6_computes_96 ⟨Nat.zero_le _, Nat.zero_le _⟩ (fun H locs hP hD hS => ?_)
          refine lv_iload hx hb dX6_computes_99 (lv_at hl 0 rfl) ?_
          refine lv_bipush (v := (-6)) hx hb dX6_computes_101 (by decide) ?_
          refine lv_iconst (v := nI 0) hx hb dX6_computes_103 (by decide) ?_
          refine fr_Vv (As := [.int (nI (rgt b t k)), .int (mRes q ((mUse σ b t a c) (rgt b t a)) ((mUse σ b t a c) (rgt b t c))), .int ((-6)), .int (nI 0)]) (rest := []) (fs' := [[((md 0), .inr (6, [.ref (md 1), .int (nI (n)), .ref (md 2), .int (nI (len)), .int (nI (p)), .int (nI (le)), .ref (md 3), .ref (md 4)]))], [((md 1), .inl (T 0, 1872, .inl (lay (mUse σ b t a c) (rgt b t k) (mRes q ((mUse σ b t a c) (rgt b t a)) ((mUse σ b t a c) (rgt b t c))) (-6) (nI 0))))]]) (ci := 6) (q0 := (RX6, TX6, 8)) (i0 := 0) ⟨hx, hb, hml, hown, hts⟩ (kX6_lays l D T Z md n len p le (mUse σ b t a c) (rgt b t k) (mRes q ((mUse σ b t a c) (rgt b t a)) ((mUse σ b t a c) (rgt b t c))) (-6) (nI 0) (by omega)) (cwV 4 hts gX6_computes_X6_lays rfl rfl rfl (by decide +kernel) ⟨Nat.le_of_ble_eq_true rfl, Nat.le_of_ble_eq_true rfl⟩) hK hN hM hP hD hS hA [0, 1] rfl rfl rfl rfl rfl rfl hl.1 rfl (Nat.le_of_ble_eq_true rfl) dX6_computes_104 ⟨Nat.zero_le _, Nat.zero_le _⟩ (fun H locs hP hD hS => ?_)
          refine lv_iload hx hb dX6_computes_107 (lv_at hl 0 rfl) ?_
          exact fr_iret hx hb hr hlk hP hS (by simp only [mCmpR, c_1, ↓reduceIte, Bool.false_eq_true]; rw [mCpD_f (fun z => c_4 z.2), if_pos c_5, mCpV_f (fun z => c_4 z.2)] <;> rfl) (congrArg (fun f9 => ([[((md 0), .inr (6, [.ref (md 1), .int (nI (n)), .ref (md 2), .int (nI (len)), .int (nI (p)), .int (nI (le)), .ref (md 3), .ref (md 4)]))], [((md 1), .inl (T 0, 1872, .inl f9))]] : List va_W)) (show (lay (mUse σ b t a c) (rgt b t k) (mRes q ((mUse σ b t a c) (rgt b t a)) ((mUse σ b t a c) (rgt b t c))) (-6) (nI 0) : MS) = mCmpS σ b t q k a c from (by simp only [mCmpS, c_1, ↓reduceIte, Bool.false_eq_true]; rw [mCpD_f (fun z => c_4 z.2), if_pos c_5, mCpU_f (fun z => c_4 z.2), mCpV_f (fun z => c_4 z.2)] <;> rfl))) dX6_computes_109
        · refine lv_bipush (v := (-7)) hx hb dX6_computes_49 (by decide) ?_
          exact fr_iret hx hb hr hlk hP hS (by simp only [mCmpR, c_1, ↓reduceIte, Bool.false_eq_true]; rw [mCpD_f (fun z => c_4 z.2), c_5, if_neg (by decide)] <;> rfl) (congrArg (fun f9 => ([[((md 0), .inr (6, [.ref (md 1), .int (nI (n)), .ref (md 2), .int (nI (len)), .int (nI (p)), .int (nI (le)), .ref (md 3), .ref (md 4)]))], [((md 1), .inl (T 0, 1872, .inl f9))]] : List va_W)) (show (mUse σ b t a c : MS) = mCmpS σ b t q k a c from (by simp only [mCmpS, c_1, ↓reduceIte, Bool.false_eq_true]; rw [mCpD_f (fun z => c_4 z.2), c_5, if_neg (by decide), mCpU_f (fun z => c_4 z.2)] <;> rfl))) dX6_computes_51
      · refine lv_iconst (v := nI 1) hx hb dX6_computes_24 (by decide) ?_
        refine lv_goto (tgt := 29) hx hb dX6_computes_25 (by decide) ?_
        refine lv_istore (lv' := [(7, .int (nI 1)), (0, .ref (md 0)), (1, .int (nI (b))), (2, .int (nI (t))), (3, .int (nI (q))), (4, .int (nI (k))), (5, .int (nI (a))), (6, .int (nI (c)))]) hx hb dX6_computes_29 hl (by decide) rfl (fun ls hl => ?_)
        refine lv_iload hx hb dX6_computes_31 (lv_at hl 0 rfl) ?_
        refine lv_if_ne (tgt := 52) hx hb dX6_computes_33 (by decide) (fun _ => ?_) (fun z => absurd z (by decide))
        refine lv_iload hx hb dX6_computes_52 (lv_at hl 0 rfl) ?_
        refine lv_if_eq (tgt := 61) hx hb dX6_computes_54 (by decide) (fun z => absurd z (by decide)) (fun _ => ?_)
        refine lv_iconst (v := nI 0) hx hb dX6_computes_57 (by decide) ?_
        refine lv_goto (tgt := 89) hx hb dX6_computes_58 (by decide) ?_
        refine lv_istore (lv' := [(8, .int (nI 0)), (7, .int (nI 1)), (0, .ref (md 0)), (1, .int (nI (b))), (2, .int (nI (t))), (3, .int (nI (q))), (4, .int (nI (k))), (5, .int (nI (a))), (6, .int (nI (c)))]) hx hb dX6_computes_89 hl (by decide) rfl (fun ls hl => ?_)
        refine lv_aload_n hx hb dX6_computes_91 rfl (lv_at hl 2 rfl) ?_
        refine lv_iload_n hx hb dX6_computes_92 rfl (lv_at hl 3 rfl) ?_
        refine lv_iload_n hx hb dX6_computes_93 rfl (lv_at hl 4 rfl) ?_
        refine lv_iload hx hb dX6_computes_94 (lv_at hl 6 rfl) ?_
        refine fr_S0 (As := [.int (nI (b)), .int (nI (t)), .int (nI (k))]) (rest := [.ref (md 0)]) ⟨hx, hb, hml, hown, hts⟩ (kX6_registerAt l D T Z b t k) (va_cwS 3 hts gX6_computes_X6_registerAt rfl rfl rfl (by decide +kernel) ⟨Nat.le_of_ble_eq_true rfl, Nat.le_of_ble_eq_true rfl⟩) hK hN hM hP hD hS hA rfl hl.1 rfl (Nat.le_of_ble_eq_true rfl) dX6_computes_96 ⟨Nat.zero_le _, Nat.zero_le _⟩ (fun H locs hP hD hS => ?_)
        refine lv_iload hx hb dX6_computes_99 (lv_at hl 0 rfl) ?_
        refine lv_bipush (v := (-6)) hx hb dX6_computes_101 (by decide) ?_
        refine lv_iconst (v := nI 0) hx hb dX6_computes_103 (by decide) ?_
        refine fr_Vv (As := [.int (nI (rgt b t k)), .int (nI 0), .int ((-6)), .int (nI 0)]) (rest := []) (fs' := [[((md 0), .inr (6, [.ref (md 1), .int (nI (n)), .ref (md 2), .int (nI (len)), .int (nI (p)), .int (nI (le)), .ref (md 3), .ref (md 4)]))], [((md 1), .inl (T 0, 1872, .inl (lay σ (rgt b t k) (nI 0) (-6) (nI 0))))]]) (ci := 6) (q0 := (RX6, TX6, 8)) (i0 := 0) ⟨hx, hb, hml, hown, hts⟩ (kX6_lays l D T Z md n len p le σ (rgt b t k) (nI 0) (-6) (nI 0) (by omega)) (cwV 4 hts gX6_computes_X6_lays rfl rfl rfl (by decide +kernel) ⟨Nat.le_of_ble_eq_true rfl, Nat.le_of_ble_eq_true rfl⟩) hK hN hM hP hD hS hA [0, 1] rfl rfl rfl rfl rfl rfl hl.1 rfl (Nat.le_of_ble_eq_true rfl) dX6_computes_104 ⟨Nat.zero_le _, Nat.zero_le _⟩ (fun H locs hP hD hS => ?_)
        refine lv_iload hx hb dX6_computes_107 (lv_at hl 0 rfl) ?_
        exact fr_iret hx hb hr hlk hP hS (by simp only [mCmpR, c_1, ↓reduceIte, Bool.false_eq_true]; rw [mCpD_t ⟨c_2, c_4⟩, if_pos rfl, mCpV_t ⟨c_2, c_4⟩] <;> rfl) (congrArg (fun f9 => ([[((md 0), .inr (6, [.ref (md 1), .int (nI (n)), .ref (md 2), .int (nI (len)), .int (nI (p)), .int (nI (le)), .ref (md 3), .ref (md 4)]))], [((md 1), .inl (T 0, 1872, .inl f9))]] : List va_W)) (show (lay σ (rgt b t k) (nI 0) (-6) (nI 0) : MS) = mCmpS σ b t q k a c from (by simp only [mCmpS, c_1, ↓reduceIte, Bool.false_eq_true]; rw [mCpD_t ⟨c_2, c_4⟩, if_pos rfl, mCpU_t ⟨c_2, c_4⟩, mCpV_t ⟨c_2, c_4⟩] <;> rfl))) dX6_computes_109
  · refine lv_bipush (v := (-5)) hx hb dX6_computes_9 (by decide) ?_
    exact fr_iret hx hb hr hlk hP hS (by simp only [mCmpR, c_1, ↓reduceIte, Bool.false_eq_true, bI_true, bI_false, Bool.true_and, Bool.and_true, Bool.and_false, Bool.false_and, Bool.not_true, Bool.not_false, Bool.or_true, Bool.true_or, Bool.or_false, Bool.false_or] <;> rfl) (congrArg (fun f9 => ([[((md 0), .inr (6, [.ref (md 1), .int (nI (n)), .ref (md 2), .int (nI (len)), .int (nI (p)), .int (nI (le)), .ref (md 3), .ref (md 4)]))], [((md 1), .inl (T 0, 1872, .inl f9))]] : List va_W)) (show (σ : MS) = mCmpS σ b t q k a c from (by simp only [mCmpS, c_1, ↓reduceIte, Bool.false_eq_true, bI_true, bI_false, Bool.true_and, Bool.and_true, Bool.and_false, Bool.false_and, Bool.not_true, Bool.not_false, Bool.or_true, Bool.true_or, Bool.or_false, Bool.false_or] <;> rfl))) dX6_computes_11

set_option maxHeartbeats 8000000 in
set_option maxRecDepth 100000 in
theorem kX6_loadsAt (l : Launch) (D : va_G) (T : Nat → ClassId) (Z : ZZ) (md : Nat → Nat) (n : Nat) (len : Nat) (p : Nat) (le : Nat) (σ : MS) (b : Nat) (t : Nat) (k : Nat) (a : Nat) (hb9 : b ≤ 1560) (ht : t < 4) (hk4 : k < 4) (ha : a < 4) (hv : WH (mUse σ b t a a (rgt b t a)) 65535) : CtI l D T Z yX6_loadsAt wsX6_loadsAt ({ frames := 4, cells := 0, slots := 0, locals := 95 }) [[((md 0), .inr (6, [.ref (md 1), .int (nI (n)), .ref (md 2), .int (nI (len)), .int (nI (p)), .int (nI (le)), .ref (md 3), .ref (md 4)]))], [((md 1), .inl (T 0, 1872, .inl (σ)))]] [.ref (md 0), .int (nI (b)), .int (nI (t)), .int (nI (k)), .int (nI (a))] (mLaR σ b t a) [[((md 0), .inr (6, [.ref (md 1), .int (nI (n)), .ref (md 2), .int (nI (len)), .int (nI (p)), .int (nI (le)), .ref (md 3), .ref (md 4)]))], [((md 1), .inl (T 0, 1872, .inl (mLaS σ b t k a)))]] := by
  have hra : rgt b t a = b + 192 + 3 * (4 * t + a) := rfl
  have hrk : rgt b t k = b + 192 + 3 * (4 * t + k) := rfl
  have hv2 := hv.2
  refine CtI.of (cc := cX6_loadsAt) (maxL := 5) (ret := (some .int)) (plainFor_of_name (by decide)) rfl rfl ?_
  intro pP eE s mM bW mE cC A hE hK hN hM hP hD hA
  obtain ⟨hx, hb, hr, hts, hown, hml, hlk⟩ := hE
  have hown : s.vm.findClass RX6 = some mM.cls := hown
  have hS : va_S A s.heap s.heap [] := va_S.rf
  have hl := lv_entry ([.ref (md 0), .int (nI (b)), .int (nI (t)), .int (nI (k)), .int (nI (a))]) (n := 5) (Nat.le_of_ble_eq_true rfl)
  rw [lg_entry_eq]
  generalize (lg_sl ([.ref (md 0), .int (nI (b)), .int (nI (t)), .int (nI (k)), .int (nI (a))]) ++ List.replicate (5 - (lg_sl ([.ref (md 0), .int (nI (b)), .int (nI (t)), .int (nI (k)), .int (nI (a))])).length) Slot.unset).toArray = ls at hl ⊢
  have hl : lv_has ls 5 [(0, .ref (md 0)), (1, .int (nI (b))), (2, .int (nI (t))), (3, .int (nI (k))), (4, .int (nI (a)))] := hl
  have w_7 := hts (.fieldLink RX6 7 "PoisonedMemoryModel" "s" "[I") (by decide +kernel)
  have hinX6 : ∀ w ∈ wsX60, w ∈ wsX6_loadsAt := by decide +kernel
  refine lv_aload_n hx hb dX6_loadsAt_0 rfl (lv_at hl 0 rfl) ?_
  refine lv_iload_n hx hb dX6_loadsAt_1 rfl (lv_at hl 1 rfl) ?_
  refine lv_iload_n hx hb dX6_loadsAt_2 rfl (lv_at hl 2 rfl) ?_
  refine fr_Vi (As := [.int (nI (b)), .int (nI (t))]) (rest := []) (fs' := [[((md 0), .inr (6, [.ref (md 1), .int (nI (n)), .ref (md 2), .int (nI (len)), .int (nI (p)), .int (nI (le)), .ref (md 3), .ref (md 4)]))], [((md 1), .inl (T 0, 1872, .inl (σ)))]]) (ci := 6) (q0 := (RX6, TX6, 8)) (i0 := 0) ⟨hx, hb, hml, hown, hts⟩ (kX6_isStopped l D T Z md n len p le σ b t (by omega) (by omega)) (cwV 2 hts gX6_loadsAt_X6_isStopped rfl rfl rfl (by decide +kernel) ⟨Nat.le_of_ble_eq_true rfl, Nat.le_of_ble_eq_true rfl⟩) hK hN hM hP hD hS hA [0, 1] rfl rfl rfl rfl rfl rfl hl.1 rfl (Nat.le_of_ble_eq_true rfl) dX6_loadsAt_3 ⟨Nat.zero_le _, Nat.zero_le _⟩ (fun H locs hP hD hS => ?_)
  refine fr_ifeq_b (tgt := 12) hx hb dX6_loadsAt_6 (by decide) (fun c_1 => ?_) (fun c_1 => ?_)
  · refine lv_aload_n hx hb dX6_loadsAt_12 rfl (lv_at hl 0 rfl) ?_
    refine lv_iload_n hx hb dX6_loadsAt_13 rfl (lv_at hl 1 rfl) ?_
    refine lv_iload_n hx hb dX6_loadsAt_14 rfl (lv_at hl 2 rfl) ?_
    refine lv_iload hx hb dX6_loadsAt_15 (lv_at hl 4 rfl) ?_
    refine lv_iload hx hb dX6_loadsAt_17 (lv_at hl 4 rfl) ?_
    refine fr_Vi (As := [.int (nI (b)), .int (nI (t)), .int (nI (a)), .int (nI (a))]) (rest := []) (fs' := [[((md 0), .inr (6, [.ref (md 1), .int (nI (n)), .ref (md 2), .int (nI (len)), .int (nI (p)), .int (nI (le)), .ref (md 3), .ref (md 4)]))], [((md 1), .inl (T 0, 1872, .inl (mUse σ b t a a)))]]) (ci := 6) (q0 := (RX6, TX6, 8)) (i0 := 0) ⟨hx, hb, hml, hown, hts⟩ (kX6_uses l D T Z md n len p le σ b t a a (by omega) (by omega) (by omega) (by omega)) (cwV 4 hts gX6_loadsAt_X6_uses rfl rfl rfl (by decide +kernel) ⟨Nat.le_of_ble_eq_true rfl, Nat.le_of_ble_eq_true rfl⟩) hK hN hM hP hD hS hA [0, 1] rfl rfl rfl rfl rfl rfl hl.1 rfl (Nat.le_of_ble_eq_true rfl) dX6_loadsAt_19 ⟨Nat.zero_le _, Nat.zero_le _⟩ (fun H locs hP hD hS => ?_)
    refine fr_ifeq_b (tgt := 51) hx hb dX6_loadsAt_22 (by decide) (fun c_2 => ?_) (fun c_2 => ?_)
    · refine lv_bipush (v := (-7)) hx hb dX6_loadsAt_51 (by decide) ?_
      exact fr_iret hx hb hr hlk hP hS (by first | rfl | (simp only [mLaR, mLaS, mLaW, c_1, c_2, ↓reduceIte, Bool.false_eq_true, bI_true, bI_false, Bool.true_and, Bool.and_true, Bool.and_false, Bool.false_and, Bool.not_true, Bool.not_false, Bool.or_true, Bool.true_or, Bool.or_false, Bool.false_or] <;> rfl) | (simp [mLaR, mLaS, mLaW, c_1, c_2, bI]; done)) (by first | rfl | (simp only [mLaR, mLaS, mLaW, c_1, c_2, ↓reduceIte, Bool.false_eq_true, bI_true, bI_false, Bool.true_and, Bool.and_true, Bool.and_false, Bool.false_and, Bool.not_true, Bool.not_false, Bool.or_true, Bool.true_or, Bool.or_false, Bool.false_or] <;> rfl) | (simp [mLaR, mLaS, mLaW, c_1, c_2, bI]; done)) dX6_loadsAt_53
    · refine lv_aload_n hx hb dX6_loadsAt_25 rfl (lv_at hl 0 rfl) ?_
      refine lv_iload_n hx hb dX6_loadsAt_26 rfl (lv_at hl 1 rfl) ?_
      refine lv_iload_n hx hb dX6_loadsAt_27 rfl (lv_at hl 2 rfl) ?_
      refine lv_iload_n hx hb dX6_loadsAt_28 rfl (lv_at hl 3 rfl) ?_
      refine lv_aload_n hx hb dX6_loadsAt_29 rfl (lv_at hl 0 rfl) ?_
      refine va_get (D := D) (ci := 6) (v := .ref (md 1)) (C := RX6) (T := TX6) (N := 8) hx hb hts hinX6 hown hK (hP.at 0 rfl) 0 rfl rfl 0 (by decide) w_7 (fun _ h9 => h9) rfl dX6_loadsAt_30 ?_
      refine lv_iload_n hx hb dX6_loadsAt_33 rfl (lv_at hl 1 rfl) ?_
      refine lv_iload_n hx hb dX6_loadsAt_34 rfl (lv_at hl 2 rfl) ?_
      refine lv_iload hx hb dX6_loadsAt_35 (lv_at hl 4 rfl) ?_
      refine fr_S0 (As := [.int (nI (b)), .int (nI (t)), .int (nI (a))]) (rest := [.ref (md 1), .int (nI (k)), .int (nI (t)), .int (nI (b)), .ref (md 0)]) ⟨hx, hb, hml, hown, hts⟩ (kX6_registerAt l D T Z b t a) (va_cwS 3 hts gX6_loadsAt_X6_registerAt rfl rfl rfl (by decide +kernel) ⟨Nat.le_of_ble_eq_true rfl, Nat.le_of_ble_eq_true rfl⟩) hK hN hM hP hD hS hA rfl hl.1 rfl (Nat.le_of_ble_eq_true rfl) dX6_loadsAt_37 ⟨Nat.zero_le _, Nat.zero_le _⟩ (fun H locs hP hD hS => ?_)
      refine fr_iald hx hb hK hP 1 (rgt b t a) rfl (by omega) (by omega) dX6_loadsAt_40 ?_
      refine fr_val hv.1 ?_
      refine lv_bipush (v := nI 32) hx hb dX6_loadsAt_41 (by decide) ?_
      refine fr_irem (tn (mUse σ b t a a (rgt b t a))) (32) (by omega) (by omega) (by omega) hx hb dX6_loadsAt_43 ?_
      refine lv_iconst (v := nI 2) hx hb dX6_loadsAt_44 (by decide) ?_
      refine fr_Vi (As := [.int (nI (b)), .int (nI (t)), .int (nI (k)), .int (nI ((tn (mUse σ b t a a (rgt b t a)) % 32))), .int (nI 2)]) (rest := []) (fs' := [[((md 0), .inr (6, [.ref (md 1), .int (nI (n)), .ref (md 2), .int (nI (len)), .int (nI (p)), .int (nI (le)), .ref (md 3), .ref (md 4)]))], [((md 1), .inl (T 0, 1872, .inl (mLdS (mUse σ b t a a) b t k (tn (mUse σ b t a a (rgt b t a)) % 32))))]]) (ci := 6) (q0 := (RX6, TX6, 8)) (i0 := 0) ⟨hx, hb, hml, hown, hts⟩ (kX6_loads_2 l D T Z md n len p le (mUse σ b t a a) b t k (tn (mUse σ b t a a (rgt b t a)) % 32) (by omega) (by omega) (by omega) (by omega)) (cwV 5 hts gX6_loadsAt_X6_loads rfl rfl rfl (by decide +kernel) ⟨Nat.le_of_ble_eq_true rfl, Nat.le_of_ble_eq_true rfl⟩) hK hN hM hP hD hS hA [0, 1] rfl rfl rfl rfl rfl rfl hl.1 rfl (Nat.le_of_ble_eq_true rfl) dX6_loadsAt_45 ⟨Nat.zero_le _, Nat.zero_le _⟩ (fun H locs hP hD hS => ?_)
      refine lv_goto (tgt := 53) hx hb dX6_loadsAt_48 (by decide) ?_
      exact fr_iret hx hb hr hlk hP hS (by first | rfl | (simp only [mLaR, mLaS, mLaW, c_1, c_2, ↓reduceIte, Bool.false_eq_true, bI_true, bI_false, Bool.true_and, Bool.and_true, Bool.and_false, Bool.false_and, Bool.not_true, Bool.not_false, Bool.or_true, Bool.true_or, Bool.or_false, Bool.false_or] <;> rfl) | (simp [mLaR, mLaS, mLaW, c_1, c_2, bI]; done)) (by first | rfl | (simp only [mLaR, mLaS, mLaW, c_1, c_2, ↓reduceIte, Bool.false_eq_true, bI_true, bI_false, Bool.true_and, Bool.and_true, Bool.and_false, Bool.false_and, Bool.not_true, Bool.not_false, Bool.or_true, Bool.true_or, Bool.or_false, Bool.false_or] <;> rfl) | (simp [mLaR, mLaS, mLaW, c_1, c_2, bI]; done)) dX6_loadsAt_53
  · refine lv_bipush (v := (-5)) hx hb dX6_loadsAt_9 (by decide) ?_
    exact fr_iret hx hb hr hlk hP hS (by first | rfl | (simp only [mLaR, mLaS, mLaW, c_1, ↓reduceIte, Bool.false_eq_true, bI_true, bI_false, Bool.true_and, Bool.and_true, Bool.and_false, Bool.false_and, Bool.not_true, Bool.not_false, Bool.or_true, Bool.true_or, Bool.or_false, Bool.false_or] <;> rfl) | (simp [mLaR, mLaS, mLaW, c_1, bI]; done)) (by first | rfl | (simp only [mLaR, mLaS, mLaW, c_1, ↓reduceIte, Bool.false_eq_true, bI_true, bI_false, Bool.true_and, Bool.and_true, Bool.and_false, Bool.false_and, Bool.not_true, Bool.not_false, Bool.or_true, Bool.true_or, Bool.or_false, Bool.false_or] <;> rfl) | (simp [mLaR, mLaS, mLaW, c_1, bI]; done)) dX6_loadsAt_11
