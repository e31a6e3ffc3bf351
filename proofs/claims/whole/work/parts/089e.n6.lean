set_option maxHeartbeats 8000000 in
set_option maxRecDepth 100000 in
theorem kX6_init (l : Launch) (D : va_G) (T : Nat → ClassId) (Z : ZZ) (h0 : Nat) : CtN l D T Z yX6_init wsX6_init ({ frames := 1, cells := 4, slots := 2015, locals := 14 }) [[(h0, .inr (6, [.null, .int (nI 0), .null, .int (nI 0), .int (nI 0), .int (nI 0), .null, .null]))]] [.ref h0] 4 2015 (fun md => md 0 = h0) (fun md : Nat → Nat => refF T md (m0N 80)) := by
  refine CtN.of (cc := cX6_init) (maxL := 2) (ret := none) (plainFor_of_name (by decide)) rfl rfl ?_
  intro pP eE s mM bW mE cC A hE hin hQ hK hN hM hP hD hA
  obtain ⟨hx, hb, hr, hts, hown, hml, hlk⟩ := hE
  have hown : s.vm.findClass RX6 = some mM.cls := hown
  have hS : va_S A s.heap s.heap [] := va_S.rf
  have hl := lv_entry ([.ref h0]) (n := 2) (Nat.le_of_ble_eq_true rfl)
  rw [lg_entry_eq]
  generalize (lg_sl ([.ref h0]) ++ List.replicate (2 - (lg_sl ([.ref h0])).length) Slot.unset).toArray = ls at hl ⊢
  have hl : lv_has ls 2 [(0, .ref h0)] := hl
  have w_oi := hts (.methodLink RX6 1 objectInit) (by decide +kernel)
  have w_oim := hts (.instanceMethod objectInit) (by decide +kernel)
  have w_oic := hts (.code objectInit ⟨#[0xb1]⟩ 1 none) (by decide +kernel)
  have w_acint := hts (.arrayClass .int) (by decide +kernel)
  have w_7 := hts (.fieldLink RX6 7 "PoisonedMemoryModel" "s" "[I") (by decide +kernel)
  have hinX6 : ∀ w ∈ wsX60, w ∈ wsX6_init := by decide +kernel
  have w_13 := hts (.fieldLink RX6 13 "PoisonedMemoryModel" "text" "[I") (by decide +kernel)
  have w_16 := hts (.fieldLink RX6 16 "PoisonedMemoryModel" "numbers" "[I") (by decide +kernel)
  have w_19 := hts (.fieldLink RX6 19 "PoisonedMemoryModel" "read" "[I") (by decide +kernel)
  refine lv_aload_n hx hb dX6_init_0 rfl (lv_at hl 0 rfl) ?_
  refine W.objInit hx hb hown w_oi w_oim w_oic rfl (by rw [hml]; exact hl.1) rfl dX6_init_1 (Nat.le_of_ble_eq_true rfl) (Nat.le_of_ble_eq_true rfl) ?_
  refine W.eq (g2 := F0 mM 4 ls []) rfl ?_
  refine lv_aload_n hx hb dX6_init_4 rfl (lv_at hl 0 rfl) ?_
  refine lv_sipush (v := nI 1872) hx hb dX6_init_5 (by decide) ?_
  refine fr_newa (atype := .int) (t := 0) (ty := .int) hx hb w_acint rfl rfl (fun _ h9 => h9) rfl hK hP hD hS hA (n := 1872) (by decide) (by decide) (Nat.le_of_ble_eq_true rfl) (Nat.le_of_ble_eq_true rfl) dX6_init_8 (fun q1 H hP hD hS => ?_)
  have hP : frP D [[(h0, .inr (6, [.null, .int (nI 0), .null, .int (nI 0), .int (nI 0), .int (nI 0), .null, .null]))], [(q1, .inl (T 0, 1872, .inl ((fun _ => nI 0))))]] _ := hP
  have hD : va_D A ([[(h0, .inr (6, [.null, .int (nI 0), .null, .int (nI 0), .int (nI 0), .int (nI 0), .null, .null]))], [(q1, .inl (T 0, 1872, .inl ((fun _ => nI 0))))]] : List va_W).flatten := hD
  refine fr_putF (T := T) (C := RX6) (TT := TX6) (N := 8) (ci := 6) (v := .ref q1) (fs' := [[(h0, .inr (6, [.ref q1, .int (nI 0), .null, .int (nI 0), .int (nI 0), .int (nI 0), .null, .null]))], [(q1, .inl (T 0, 1872, .inl ((fun _ => nI 0))))]]) (ty := (.array .int)) hx hb hts hinX6 tyX6 tyX6_ok nmX6 hown hK hP hD hS 0 rfl rfl 0 (by decide) rfl w_7 rfl rfl hin rfl (by decide +kernel) rfl rfl (Nat.le_of_ble_eq_true rfl) dX6_init_10 (fun H locs hP hD hS => ?_)
  refine lv_aload_n hx hb dX6_init_13 rfl (lv_at hl 0 rfl) ?_
  refine lv_bipush (v := nI 90) hx hb dX6_init_14 (by decide) ?_
  refine fr_newa (atype := .int) (t := 0) (ty := .int) hx hb w_acint rfl rfl (fun _ h9 => h9) rfl hK hP hD hS hA (n := 90) (by decide) (by decide) (Nat.le_of_ble_eq_true rfl) (Nat.le_of_ble_eq_true rfl) dX6_init_16 (fun q2 H hP hD hS => ?_)
  have hP : frP D [[(h0, .inr (6, [.ref q1, .int (nI 0), .null, .int (nI 0), .int (nI 0), .int (nI 0), .null, .null]))], [(q1, .inl (T 0, 1872, .inl ((fun _ => nI 0))))], [(q2, .inl (T 0, 90, .inl ((fun _ => nI 0))))]] _ := hP
  have hD : va_D A ([[(h0, .inr (6, [.ref q1, .int (nI 0), .null, .int (nI 0), .int (nI 0), .int (nI 0), .null, .null]))], [(q1, .inl (T 0, 1872, .inl ((fun _ => nI 0))))], [(q2, .inl (T 0, 90, .inl ((fun _ => nI 0))))]] : List va_W).flatten := hD
  refine fr_putF (T := T) (C := RX6) (TT := TX6) (N := 8) (ci := 6) (v := .ref q2) (fs' := [[(h0, .inr (6, [.ref q1, .int (nI 0), .ref q2, .int (nI 0), .int (nI 0), .int (nI 0), .null, .null]))], [(q1, .inl (T 0, 1872, .inl ((fun _ => nI 0))))], [(q2, .inl (T 0, 90, .inl ((fun _ => nI 0))))]]) (ty := (.array .int)) hx hb hts hinX6 tyX6 tyX6_ok nmX6 hown hK hP hD hS 0 rfl rfl 2 (by decide) rfl w_13 rfl rfl hin rfl (by decide +kernel) rfl rfl (Nat.le_of_ble_eq_true rfl) dX6_init_18 (fun H locs hP hD hS => ?_)
  refine lv_aload_n hx hb dX6_init_21 rfl (lv_at hl 0 rfl) ?_
  refine lv_iconst (v := nI 5) hx hb dX6_init_22 (by decide) ?_
  refine fr_newa (atype := .int) (t := 0) (ty := .int) hx hb w_acint rfl rfl (fun _ h9 => h9) rfl hK hP hD hS hA (n := 5) (by decide) (by decide) (Nat.le_of_ble_eq_true rfl) (Nat.le_of_ble_eq_true rfl) dX6_init_23 (fun q3 H hP hD hS => ?_)
  have hP : frP D [[(h0, .inr (6, [.ref q1, .int (nI 0), .ref q2, .int (nI 0), .int (nI 0), .int (nI 0), .null, .null]))], [(q1, .inl (T 0, 1872, .inl ((fun _ => nI 0))))], [(q2, .inl (T 0, 90, .inl ((fun _ => nI 0))))], [(q3, .inl (T 0, 5, .inl ((fun _ => nI 0))))]] _ := hP
  have hD : va_D A ([[(h0, .inr (6, [.ref q1, .int (nI 0), .ref q2, .int (nI 0), .int (nI 0), .int (nI 0), .null, .null]))], [(q1, .inl (T 0, 1872, .inl ((fun _ => nI 0))))], [(q2, .inl (T 0, 90, .inl ((fun _ => nI 0))))], [(q3, .inl (T 0, 5, .inl ((fun _ => nI 0))))]] : List va_W).flatten := hD
  refine fr_putF (T := T) (C := RX6) (TT := TX6) (N := 8) (ci := 6) (v := .ref q3) (fs' := [[(h0, .inr (6, [.ref q1, .int (nI 0), .ref q2, .int (nI 0), .int (nI 0), .int (nI 0), .ref q3, .null]))], [(q1, .inl (T 0, 1872, .inl ((fun _ => nI 0))))], [(q2, .inl (T 0, 90, .inl ((fun _ => nI 0))))], [(q3, .inl (T 0, 5, .inl ((fun _ => nI 0))))]]) (ty := (.array .int)) hx hb hts hinX6 tyX6 tyX6_ok nmX6 hown hK hP hD hS 0 rfl rfl 6 (by decide) rfl w_16 rfl rfl hin rfl (by decide +kernel) rfl rfl (Nat.le_of_ble_eq_true rfl) dX6_init_25 (fun H locs hP hD hS => ?_)
  refine lv_aload_n hx hb dX6_init_28 rfl (lv_at hl 0 rfl) ?_
  refine lv_bipush (v := nI 48) hx hb dX6_init_29 (by decide) ?_
  refine fr_newa (atype := .int) (t := 0) (ty := .int) hx hb w_acint rfl rfl (fun _ h9 => h9) rfl hK hP hD hS hA (n := 48) (by decide) (by decide) (Nat.le_of_ble_eq_true rfl) (Nat.le_of_ble_eq_true rfl) dX6_init_31 (fun q4 H hP hD hS => ?_)
  have hP : frP D [[(h0, .inr (6, [.ref q1, .int (nI 0), .ref q2, .int (nI 0), .int (nI 0), .int (nI 0), .ref q3, .null]))], [(q1, .inl (T 0, 1872, .inl ((fun _ => nI 0))))], [(q2, .inl (T 0, 90, .inl ((fun _ => nI 0))))], [(q3, .inl (T 0, 5, .inl ((fun _ => nI 0))))], [(q4, .inl (T 0, 48, .inl ((fun _ => nI 0))))]] _ := hP
  have hD : va_D A ([[(h0, .inr (6, [.ref q1, .int (nI 0), .ref q2, .int (nI 0), .int (nI 0), .int (nI 0), .ref q3, .null]))], [(q1, .inl (T 0, 1872, .inl ((fun _ => nI 0))))], [(q2, .inl (T 0, 90, .inl ((fun _ => nI 0))))], [(q3, .inl (T 0, 5, .inl ((fun _ => nI 0))))], [(q4, .inl (T 0, 48, .inl ((fun _ => nI 0))))]] : List va_W).flatten := hD
  refine fr_putF (T := T) (C := RX6) (TT := TX6) (N := 8) (ci := 6) (v := .ref q4) (fs' := [[(h0, .inr (6, [.ref q1, .int (nI 0), .ref q2, .int (nI 0), .int (nI 0), .int (nI 0), .ref q3, .ref q4]))], [(q1, .inl (T 0, 1872, .inl ((fun _ => nI 0))))], [(q2, .inl (T 0, 90, .inl ((fun _ => nI 0))))], [(q3, .inl (T 0, 5, .inl ((fun _ => nI 0))))], [(q4, .inl (T 0, 48, .inl ((fun _ => nI 0))))]]) (ty := (.array .int)) hx hb hts hinX6 tyX6 tyX6_ok nmX6 hown hK hP hD hS 0 rfl rfl 7 (by decide) rfl w_19 rfl rfl hin rfl (by decide +kernel) rfl rfl (Nat.le_of_ble_eq_true rfl) dX6_init_33 (fun H locs hP hD hS => ?_)
  refine lv_iconst (v := nI 0) hx hb dX6_init_36 (by decide) ?_
  refine lv_istore_n (lv' := [(1, .int (nI 0)), (0, .ref h0)]) hx hb dX6_init_37 rfl hl (by decide) rfl (fun ls hl => ?_)
  have loop38 : ∀ (n9 k9 : Nat), k9 ≤ 80 → 80 < k9 + n9 → ∀ (H : Heap) (locs : List Loc), frP D [[(h0, .inr (6, [.ref q1, .int (nI 0), .ref q2, .int (nI 0), .int (nI 0), .int (nI 0), .ref q3, .ref q4]))], [(q1, .inl (T 0, 1872, .inl (m0N k9)))], [(q2, .inl (T 0, 90, .inl ((fun _ => nI 0))))], [(q3, .inl (T 0, 5, .inl ((fun _ => nI 0))))], [(q4, .inl (T 0, 48, .inl ((fun _ => nI 0))))]] H → va_D A ([[(h0, .inr (6, [.ref q1, .int (nI 0), .ref q2, .int (nI 0), .int (nI 0), .int (nI 0), .ref q3, .ref q4]))], [(q1, .inl (T 0, 1872, .inl (m0N k9)))], [(q2, .inl (T 0, 90, .inl ((fun _ => nI 0))))], [(q3, .inl (T 0, 5, .inl ((fun _ => nI 0))))], [(q4, .inl (T 0, 48, .inl ((fun _ => nI 0))))]] : List va_W).flatten → va_S A s.heap H locs → ∀ (ls : Array Slot), lv_has ls 2 [(1, .int (nI ((3 * k9)))), (0, .ref h0)] → W pP l eE ({ frames := 1, cells := 4, slots := 2015, locals := 14 }) s mM ([.ref h0] : List Value).toArray bW mE cC H locs 4 2015 (MQ bW (QcN D (fun md => md 0 = h0) (fun md : Nat → Nat => refF T md (m0N 80)) A) ([.ref h0] : List Value).toArray s 4 2015 A) (F0 mM 38 ls []) := by
    intro n9
    induction n9 with
    | zero => intro k9 h1 h2; exact absurd h2 (by omega)
    | succ n9 ih =>
      intro k9 hk1 hk2 H locs hP hD hS ls hl
      refine lv_iload_n hx hb dX6_init_38 rfl (lv_at hl 0 rfl) ?_
      refine lv_sipush (v := nI 240) hx hb dX6_init_39 (by decide) ?_
      refine fr_icmp_ge (3 * k9) 240 (by omega) (by decide) (tgt := 61) hx hb dX6_init_42 (by decide) (fun c_1 => ?_) (fun c_1 => ?_)
      · obtain rfl : k9 = 80 := by omega
        exact fr_nend (adL [h0, q1, q2, q3, q4]) hx hb hr hlk hP hD hS rfl rfl (Nat.le_of_ble_eq_true rfl) (Nat.le_of_ble_eq_true rfl) dX6_init_61
      · refine lv_aload_n hx hb dX6_init_45 rfl (lv_at hl 1 rfl) ?_
        refine va_get (D := D) (ci := 6) (v := .ref q1) (C := RX6) (T := TX6) (N := 8) hx hb hts hinX6 hown hK (hP.at 0 rfl) 0 rfl rfl 0 (by decide) w_7 (fun _ h9 => h9) rfl dX6_init_46 ?_
        refine lv_iload_n hx hb dX6_init_49 rfl (lv_at hl 0 rfl) ?_
        refine lv_iconst (v := nI 1) hx hb dX6_init_50 (by decide) ?_
        refine fr_iadd (3 * k9) (1) hx hb dX6_init_51 ?_
        refine lv_bipush (v := (-6)) hx hb dX6_init_52 (by decide) ?_
        refine fr_iast (fs' := [[(h0, .inr (6, [.ref q1, .int (nI 0), .ref q2, .int (nI 0), .int (nI 0), .int (nI 0), .ref q3, .ref q4]))], [(q1, .inl (T 0, 1872, .inl (upd (m0N k9) (3 * k9 + 1) (-6))))], [(q2, .inl (T 0, 90, .inl ((fun _ => nI 0))))], [(q3, .inl (T 0, 5, .inl ((fun _ => nI 0))))], [(q4, .inl (T 0, 48, .inl ((fun _ => nI 0))))]]) hx hb hK hP hD hS 1 (3 * k9 + 1) rfl rfl (by omega) (by omega) dX6_init_54 (fun H locs hP hD hS => ?_)
        refine fr_iinc (3 * k9) (3 * (k9 + 1)) (by rw [show Int32.ofInt 3 = nI 3 from rfl, nI_add]; rfl) (lv' := [(1, .int (nI ((3 * (k9 + 1))))), (0, .ref h0)]) (k := 0) hx hb dX6_init_55 hl rfl (by decide) rfl (fun ls hl => ?_)
        refine lv_goto (tgt := 38) hx hb dX6_init_58 (by decide) ?_
        exact ih (k9 + 1) (by omega) (by omega) H locs hP hD hS ls (lv_sub hl [0, 1] rfl)
  exact loop38 81 0 (by omega) (by omega) _ _ hP hD hS ls (lv_sub hl [0, 1] rfl)
