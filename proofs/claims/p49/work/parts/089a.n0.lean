set_option maxHeartbeats 8000000 in
set_option maxRecDepth 100000 in
theorem kJ7_fill_53178 (l : Launch) (D : va_G) (T : Nat → ClassId) (Z : ZZ) (a : Nat) (n : Nat) (f : Nat → Int32) (x : Int32) (hn : n < 2 ^ 31) : CtV l D T Z yJ7_fill_53178 wsJ7_fill_53178 ({ frames := 0, cells := 0, slots := 0, locals := 0 }) [[(a, .inl (T 0, n, .inl (f)))]] [.ref a, .int (x)] [[(a, .inl (T 0, n, .inl (filF f x n)))]] := by
  refine CtV.of (cc := cJ7_fill_53178) (maxL := 4) (ret := none) (by decide +kernel) rfl rfl ?_
  intro pP eE s mM bW mE cC A hE hK hN hM hP hD hA
  obtain ⟨hx, hb, hr, hts, hown, hml, hlk⟩ := hE
  have hown : s.vm.findClass RJ7 = some mM.cls := hown
  have hS : va_S A s.heap s.heap [] := va_S.rf
  have hl := lv_entry ([.ref a, .int (x)]) (n := 4) (Nat.le_of_ble_eq_true rfl)
  rw [lg_entry_eq]
  generalize (lg_sl ([.ref a, .int (x)]) ++ List.replicate (4 - (lg_sl ([.ref a, .int (x)])).length) Slot.unset).toArray = ls at hl ⊢
  have hl : lv_has ls 4 [(0, .ref a), (1, .int (x))] := hl
  refine lv_iconst (v := nI 0) hx hb dJ7_fill_53178_0 (by decide) ?_
  refine lv_istore_n (lv' := [(2, .int (nI 0)), (0, .ref a), (1, .int (x))]) hx hb dJ7_fill_53178_1 rfl hl (by decide) rfl (fun ls hl => ?_)
  refine lv_aload_n hx hb dJ7_fill_53178_2 rfl (lv_at hl 1 rfl) ?_
  refine va_alen (v := nI (n)) hx hb hK (hP.at 0 rfl) 0 0 rfl rfl rfl dJ7_fill_53178_3 ?_
  refine lv_istore_n (lv' := [(3, .int (nI (n))), (2, .int (nI 0)), (0, .ref a), (1, .int (x))]) hx hb dJ7_fill_53178_4 rfl hl (by decide) rfl (fun ls hl => ?_)
  have loop5 : ∀ (n9 k9 : Nat), k9 ≤ n → n < k9 + n9 → ∀ (H : Heap) (locs : List Loc), frP D [[(a, .inl (T 0, n, .inl (filF f x k9)))]] H → va_D A ([[(a, .inl (T 0, n, .inl (filF f x k9)))]] : List va_W).flatten → va_S A s.heap H locs → ∀ (ls : Array Slot), lv_has ls 4 [(3, .int (nI (n))), (2, .int (nI (k9))), (0, .ref a), (1, .int (x))] → W pP l eE ({ frames := 0, cells := 0, slots := 0, locals := 0 }) s mM ([.ref a, .int (x)] : List Value).toArray bW mE cC H locs 0 0 (MQ bW (QcV D [[(a, .inl (T 0, n, .inl (filF f x n)))]] A) ([.ref a, .int (x)] : List Value).toArray s 0 0 A) (F0 mM 5 ls []) := by
    intro n9
    induction n9 with
    | zero => intro k9 h1 h2; exact absurd h2 (by omega)
    | succ n9 ih =>
      intro k9 hk1 hk2 H locs hP hD hS ls hl
      refine lv_iload_n hx hb dJ7_fill_53178_5 rfl (lv_at hl 1 rfl) ?_
      refine lv_iload_n hx hb dJ7_fill_53178_6 rfl (lv_at hl 0 rfl) ?_
      refine fr_icmp_ge (k9) (n) (by omega) (by omega) (tgt := 20) hx hb dJ7_fill_53178_7 (by decide) (fun c_1 => ?_) (fun c_1 => ?_)
      · have c_1' := Nat.not_lt.mpr c_1
        obtain rfl : k9 = n := by omega
        exact fr_vret hx hb hr hlk hP hS rfl dJ7_fill_53178_20
      · have c_1' := Nat.not_le.mpr c_1
        refine lv_aload_n hx hb dJ7_fill_53178_10 rfl (lv_at hl 2 rfl) ?_
        refine lv_iload_n hx hb dJ7_fill_53178_11 rfl (lv_at hl 1 rfl) ?_
        refine lv_iload_n hx hb dJ7_fill_53178_12 rfl (lv_at hl 3 rfl) ?_
        refine fr_iast (fs' := [[(a, .inl (T 0, n, .inl (upd (filF f x k9) k9 x)))]]) hx hb hK hP hD hS 0 (k9) rfl rfl (by omega) (by omega) dJ7_fill_53178_13 (fun H locs hP hD hS => ?_)
        refine fr_iinc (k9) ((k9 + 1)) (nI_inc _) (lv' := [(2, .int (nI ((k9 + 1)))), (3, .int (nI (n))), (0, .ref a), (1, .int (x))]) (k := 1) hx hb dJ7_fill_53178_14 hl rfl (by decide) rfl (fun ls hl => ?_)
        refine lv_goto (tgt := 5) hx hb dJ7_fill_53178_17 (by decide) ?_
        have q_2 : ([[(a, .inl (T 0, n, .inl (upd (filF f x k9) k9 x)))]] : List va_W) = [[(a, .inl (T 0, n, .inl (filF f x (k9 + 1))))]] := (by rw [filF_s])
        rw [q_2] at hP hD
        exact ih  ((k9 + 1)) (by omega) (by omega) H locs hP hD hS ls (lv_sub hl [1, 0, 2, 3] rfl)
  have q_3 : ([[(a, .inl (T 0, n, .inl (f)))]] : List va_W) = [[(a, .inl (T 0, n, .inl (filF f x 0)))]] := (by rw [filF_0])
  rw [q_3] at hP hD
  exact loop5 (n + 1) (0) (by omega) (by omega) _ _ hP hD hS ls (lv_sub hl [0, 1, 2, 3] rfl)

set_option maxHeartbeats 8000000 in
set_option maxRecDepth 100000 in
theorem kX0_init_32 (l : Launch) (D : va_G) (T : Nat → ClassId) (Z : ZZ) (h0 : Nat) : CtN l D T Z yX0_init wsX0_init ({ frames := 1, cells := 3, slots := 96, locals := 23 }) [[(h0, .inr (0, [.null, .null, .null]))]] [.ref h0, .int (nI 32)] 3 96 (fun ad => ad 0 = h0) (fun ad : Nat → Nat => clF T (ad 0) (ad 1) (ad 2) (ad 3) 32 (fun _ => nI 0) (filF (fun _ => nI 0) (-6) 32) (filF (fun _ => nI 0) (-6) 32)) := by
  refine CtN.of (cc := cX0_init) (maxL := 2) (ret := none) (plainFor_of_name (by decide)) rfl rfl ?_
  intro pP eE s mM bW mE cC A hE hin hQ hK hN hM hP hD hA
  obtain ⟨hx, hb, hr, hts, hown, hml, hlk⟩ := hE
  have hown : s.vm.findClass RX0 = some mM.cls := hown
  have hS : va_S A s.heap s.heap [] := va_S.rf
  have hl := lv_entry ([.ref h0, .int (nI 32)]) (n := 2) (Nat.le_of_ble_eq_true rfl)
  rw [lg_entry_eq]
  generalize (lg_sl ([.ref h0, .int (nI 32)]) ++ List.replicate (2 - (lg_sl ([.ref h0, .int (nI 32)])).length) Slot.unset).toArray = ls at hl ⊢
  have hl : lv_has ls 2 [(0, .ref h0), (1, .int (nI 32))] := hl
  have w_oi := hts (.methodLink RX0 3 objectInit) (by decide +kernel)
  have w_oim := hts (.instanceMethod objectInit) (by decide +kernel)
  have w_oic := hts (.code objectInit ⟨#[0xb1]⟩ 1 none) (by decide +kernel)
  have w_acint := hts (.arrayClass .int) (by decide +kernel)
  have w_9 := hts (.fieldLink RX0 9 "PoisonedMemory$Cells" "values" "[I") (by decide +kernel)
  have hinX0 : ∀ w ∈ wsX00, w ∈ wsX0_init := by decide +kernel
  have w_15 := hts (.fieldLink RX0 15 "PoisonedMemory$Cells" "origins" "[I") (by decide +kernel)
  have w_18 := hts (.fieldLink RX0 18 "PoisonedMemory$Cells" "hops" "[I") (by decide +kernel)
  refine lv_aload_n hx hb dX0_init_0 rfl (lv_at hl 0 rfl) ?_
  refine W.objInit hx hb hown w_oi w_oim w_oic rfl (by rw [hml]; exact hl.1) rfl dX0_init_1 (Nat.le_of_ble_eq_true rfl) (Nat.le_of_ble_eq_true rfl) ?_
  refine W.eq (g2 := F0 mM 4 ls []) rfl ?_
  refine lv_aload_n hx hb dX0_init_4 rfl (lv_at hl 0 rfl) ?_
  refine lv_iload_n hx hb dX0_init_5 rfl (lv_at hl 1 rfl) ?_
  refine fr_newa (atype := .int) (t := 0) (ty := .int) hx hb w_acint rfl rfl (fun _ h9 => h9) rfl hK hP hD hS hA (n := 32) (by decide) (by decide) (Nat.le_of_ble_eq_true rfl) (Nat.le_of_ble_eq_true rfl) dX0_init_6 (fun q1 H hP hD hS => ?_)
  have hP : frP D [[(h0, .inr (0, [.null, .null, .null]))], [(q1, .inl (T 0, 32, .inl ((fun _ => nI 0))))]] _ := hP
  have hD : va_D A ([[(h0, .inr (0, [.null, .null, .null]))], [(q1, .inl (T 0, 32, .inl ((fun _ => nI 0))))]] : List va_W).flatten := hD
  refine fr_putF (T := T) (C := RX0) (TT := TX0) (N := 3) (ci := 0) (v := .ref q1) (fs' := [[(h0, .inr (0, [.ref q1, .null, .null]))], [(q1, .inl (T 0, 32, .inl ((fun _ => nI 0))))]]) (ty := (.array .int)) hx hb hts hinX0 tyX0 tyX0_ok nmX0 hown hK hP hD hS 0 rfl rfl 0 (by decide) rfl w_9 rfl rfl hin rfl (by decide +kernel) rfl rfl (Nat.le_of_ble_eq_true rfl) dX0_init_8 (fun H locs hP hD hS => ?_)
  refine lv_aload_n hx hb dX0_init_11 rfl (lv_at hl 0 rfl) ?_
  refine lv_iload_n hx hb dX0_init_12 rfl (lv_at hl 1 rfl) ?_
  refine fr_newa (atype := .int) (t := 0) (ty := .int) hx hb w_acint rfl rfl (fun _ h9 => h9) rfl hK hP hD hS hA (n := 32) (by decide) (by decide) (Nat.le_of_ble_eq_true rfl) (Nat.le_of_ble_eq_true rfl) dX0_init_13 (fun q2 H hP hD hS => ?_)
  have hP : frP D [[(h0, .inr (0, [.ref q1, .null, .null]))], [(q1, .inl (T 0, 32, .inl ((fun _ => nI 0))))], [(q2, .inl (T 0, 32, .inl ((fun _ => nI 0))))]] _ := hP
  have hD : va_D A ([[(h0, .inr (0, [.ref q1, .null, .null]))], [(q1, .inl (T 0, 32, .inl ((fun _ => nI 0))))], [(q2, .inl (T 0, 32, .inl ((fun _ => nI 0))))]] : List va_W).flatten := hD
  refine fr_putF (T := T) (C := RX0) (TT := TX0) (N := 3) (ci := 0) (v := .ref q2) (fs' := [[(h0, .inr (0, [.ref q1, .ref q2, .null]))], [(q1, .inl (T 0, 32, .inl ((fun _ => nI 0))))], [(q2, .inl (T 0, 32, .inl ((fun _ => nI 0))))]]) (ty := (.array .int)) hx hb hts hinX0 tyX0 tyX0_ok nmX0 hown hK hP hD hS 0 rfl rfl 1 (by decide) rfl w_15 rfl rfl hin rfl (by decide +kernel) rfl rfl (Nat.le_of_ble_eq_true rfl) dX0_init_15 (fun H locs hP hD hS => ?_)
  refine lv_aload_n hx hb dX0_init_18 rfl (lv_at hl 0 rfl) ?_
  refine lv_iload_n hx hb dX0_init_19 rfl (lv_at hl 1 rfl) ?_
  refine fr_newa (atype := .int) (t := 0) (ty := .int) hx hb w_acint rfl rfl (fun _ h9 => h9) rfl hK hP hD hS hA (n := 32) (by decide) (by decide) (Nat.le_of_ble_eq_true rfl) (Nat.le_of_ble_eq_true rfl) dX0_init_20 (fun q3 H hP hD hS => ?_)
  have hP : frP D [[(h0, .inr (0, [.ref q1, .ref q2, .null]))], [(q1, .inl (T 0, 32, .inl ((fun _ => nI 0))))], [(q2, .inl (T 0, 32, .inl ((fun _ => nI 0))))], [(q3, .inl (T 0, 32, .inl ((fun _ => nI 0))))]] _ := hP
  have hD : va_D A ([[(h0, .inr (0, [.ref q1, .ref q2, .null]))], [(q1, .inl (T 0, 32, .inl ((fun _ => nI 0))))], [(q2, .inl (T 0, 32, .inl ((fun _ => nI 0))))], [(q3, .inl (T 0, 32, .inl ((fun _ => nI 0))))]] : List va_W).flatten := hD
  refine fr_putF (T := T) (C := RX0) (TT := TX0) (N := 3) (ci := 0) (v := .ref q3) (fs' := [[(h0, .inr (0, [.ref q1, .ref q2, .ref q3]))], [(q1, .inl (T 0, 32, .inl ((fun _ => nI 0))))], [(q2, .inl (T 0, 32, .inl ((fun _ => nI 0))))], [(q3, .inl (T 0, 32, .inl ((fun _ => nI 0))))]]) (ty := (.array .int)) hx hb hts hinX0 tyX0 tyX0_ok nmX0 hown hK hP hD hS 0 rfl rfl 2 (by decide) rfl w_18 rfl rfl hin rfl (by decide +kernel) rfl rfl (Nat.le_of_ble_eq_true rfl) dX0_init_22 (fun H locs hP hD hS => ?_)
  refine lv_aload_n hx hb dX0_init_25 rfl (lv_at hl 0 rfl) ?_
  refine va_get (D := D) (ci := 0) (v := .ref q2) (C := RX0) (T := TX0) (N := 3) hx hb hts hinX0 hown hK (hP.at 0 rfl) 0 rfl rfl 1 (by decide) w_15 (fun _ h9 => h9) rfl dX0_init_26 ?_
  refine lv_bipush (v := (-6)) hx hb dX0_init_29 (by decide) ?_
  refine fr_Sv (As := [.ref q2, .int ((-6))]) (rest := []) (fs' := [[(h0, .inr (0, [.ref q1, .ref q2, .ref q3]))], [(q1, .inl (T 0, 32, .inl ((fun _ => nI 0))))], [(q2, .inl (T 0, 32, .inl (filF (fun _ => nI 0) (-6) 32)))], [(q3, .inl (T 0, 32, .inl ((fun _ => nI 0))))]]) ⟨hx, hb, hml, hown, hts⟩ (kJ7_fill_53178 l D T Z q2 32 (fun _ => nI 0) (-6) (by decide)) (va_cwS 2 hts gX0_init_J7_fill_53178 rfl rfl rfl (by decide +kernel) ⟨Nat.le_of_ble_eq_true rfl, Nat.le_of_ble_eq_true rfl⟩) hK hN hM hP hD hS hA [2] rfl rfl rfl rfl hl.1 rfl (Nat.le_of_ble_eq_true rfl) dX0_init_31 ⟨Nat.le_of_ble_eq_true rfl, Nat.le_of_ble_eq_true rfl⟩ (fun H locs hP hD hS => ?_)
  refine lv_aload_n hx hb dX0_init_34 rfl (lv_at hl 0 rfl) ?_
  refine va_get (D := D) (ci := 0) (v := .ref q3) (C := RX0) (T := TX0) (N := 3) hx hb hts hinX0 hown hK (hP.at 0 rfl) 0 rfl rfl 2 (by decide) w_18 (fun _ h9 => h9) rfl dX0_init_35 ?_
  refine lv_bipush (v := (-6)) hx hb dX0_init_38 (by decide) ?_
  refine fr_Sv (As := [.ref q3, .int ((-6))]) (rest := []) (fs' := [[(h0, .inr (0, [.ref q1, .ref q2, .ref q3]))], [(q1, .inl (T 0, 32, .inl ((fun _ => nI 0))))], [(q2, .inl (T 0, 32, .inl (filF (fun _ => nI 0) (-6) 32)))], [(q3, .inl (T 0, 32, .inl (filF (fun _ => nI 0) (-6) 32)))]]) ⟨hx, hb, hml, hown, hts⟩ (kJ7_fill_53178 l D T Z q3 32 (fun _ => nI 0) (-6) (by decide)) (va_cwS 2 hts gX0_init_J7_fill_53178 rfl rfl rfl (by decide +kernel) ⟨Nat.le_of_ble_eq_true rfl, Nat.le_of_ble_eq_true rfl⟩) hK hN hM hP hD hS hA [3] rfl rfl rfl rfl hl.1 rfl (Nat.le_of_ble_eq_true rfl) dX0_init_40 ⟨Nat.le_of_ble_eq_true rfl, Nat.le_of_ble_eq_true rfl⟩ (fun H locs hP hD hS => ?_)
  exact fr_nend (adL [h0, q1, q2, q3]) hx hb hr hlk hP hD hS rfl rfl (Nat.le_of_ble_eq_true rfl) (Nat.le_of_ble_eq_true rfl) dX0_init_43

set_option maxHeartbeats 8000000 in
set_option maxRecDepth 100000 in
theorem kX0_init_16 (l : Launch) (D : va_G) (T : Nat → ClassId) (Z : ZZ) (h0 : Nat) : CtN l D T Z yX0_init wsX0_init ({ frames := 1, cells := 3, slots := 48, locals := 23 }) [[(h0, .inr (0, [.null, .null, .null]))]] [.ref h0, .int (nI 16)] 3 48 (fun ad => ad 0 = h0) (fun ad : Nat → Nat => clF T (ad 0) (ad 1) (ad 2) (ad 3) 16 (fun _ => nI 0) (filF (fun _ => nI 0) (-6) 16) (filF (fun _ => nI 0) (-6) 16)) := by
  refine CtN.of (cc := cX0_init) (maxL := 2) (ret := none) (plainFor_of_name (by decide)) rfl rfl ?_
  intro pP eE s mM bW mE cC A hE hin hQ hK hN hM hP hD hA
  obtain ⟨hx, hb, hr, hts, hown, hml, hlk⟩ := hE
  have hown : s.vm.findClass RX0 = some mM.cls := hown
  have hS : va_S A s.heap s.heap [] := va_S.rf
  have hl := lv_entry ([.ref h0, .int (nI 16)]) (n := 2) (Nat.le_of_ble_eq_true rfl)
  rw [lg_entry_eq]
  generalize (lg_sl ([.ref h0, .int (nI 16)]) ++ List.replicate (2 - (lg_sl ([.ref h0, .int (nI 16)])).length) Slot.unset).toArray = ls at hl ⊢
  have hl : lv_has ls 2 [(0, .ref h0), (1, .int (nI 16))] := hl
  have w_oi := hts (.methodLink RX0 3 objectInit) (by decide +kernel)
  have w_oim := hts (.instanceMethod objectInit) (by decide +kernel)
  have w_oic := hts (.code objectInit ⟨#[0xb1]⟩ 1 none) (by decide +kernel)
  have w_acint := hts (.arrayClass .int) (by decide +kernel)
  have w_9 := hts (.fieldLink RX0 9 "PoisonedMemory$Cells" "values" "[I") (by decide +kernel)
  have hinX0 : ∀ w ∈ wsX00, w ∈ wsX0_init := by decide +kernel
  have w_15 := hts (.fieldLink RX0 15 "PoisonedMemory$Cells" "origins" "[I") (by decide +kernel)
  have w_18 := hts (.fieldLink RX0 18 "PoisonedMemory$Cells" "hops" "[I") (by decide +kernel)
  refine lv_aload_n hx hb dX0_init_0 rfl (lv_at hl 0 rfl) ?_
  refine W.objInit hx hb hown w_oi w_oim w_oic rfl (by rw [hml]; exact hl.1) rfl dX0_init_1 (Nat.le_of_ble_eq_true rfl) (Nat.le_of_ble_eq_true rfl) ?_
  refine W.eq (g2 := F0 mM 4 ls []) rfl ?_
  refine lv_aload_n hx hb dX0_init_4 rfl (lv_at hl 0 rfl) ?_
  refine lv_iload_n hx hb dX0_init_5 rfl (lv_at hl 1 rfl) ?_
  refine fr_newa (atype := .int) (t := 0) (ty := .int) hx hb w_acint rfl rfl (fun _ h9 => h9) rfl hK hP hD hS hA (n := 16) (by decide) (by decide) (Nat.le_of_ble_eq_true rfl) (Nat.le_of_ble_eq_true rfl) dX0_init_6 (fun q1 H hP hD hS => ?_)
  have hP : frP D [[(h0, .inr (0, [.null, .null, .null]))], [(q1, .inl (T 0, 16, .inl ((fun _ => nI 0))))]] _ := hP
  have hD : va_D A ([[(h0, .inr (0, [.null, .null, .null]))], [(q1, .inl (T 0, 16, .inl ((fun _ => nI 0))))]] : List va_W).flatten := hD
  refine fr_putF (T := T) (C := RX0) (TT := TX0) (N := 3) (ci := 0) (v := .ref q1) (fs' := [[(h0, .inr (0, [.ref q1, .null, .null]))], [(q1, .inl (T 0, 16, .inl ((fun _ => nI 0))))]]) (ty := (.array .int)) hx hb hts hinX0 tyX0 tyX0_ok nmX0 hown hK hP hD hS 0 rfl rfl 0 (by decide) rfl w_9 rfl rfl hin rfl (by decide +kernel) rfl rfl (Nat.le_of_ble_eq_true rfl) dX0_init_8 (fun H locs hP hD hS => ?_)
  refine lv_aload_n hx hb dX0_init_11 rfl (lv_at hl 0 rfl) ?_
  refine lv_iload_n hx hb dX0_init_12 rfl (lv_at hl 1 rfl) ?_
  refine fr_newa (atype := .int) (t := 0) (ty := .int) hx hb w_acint rfl rfl (fun _ h9 => h9) rfl hK hP hD hS hA (n := 16) (by decide) (by decide) (Nat.le_of_ble_eq_true rfl) (Nat.le_of_ble_eq_true rfl) dX0_init_13 (fun q2 H hP hD hS => ?_)
  have hP : frP D [[(h0, .inr (0, [.ref q1, .null, .null]))], [(q1, .inl (T 0, 16, .inl ((fun _ => nI 0))))], [(q2, .inl (T 0, 16, .inl ((fun _ => nI 0))))]] _ := hP
  have hD : va_D A ([[(h0, .inr (0, [.ref q1, .null, .null]))], [(q1, .inl (T 0, 16, .inl ((fun _ => nI 0))))], [(q2, .inl (T 0, 16, .inl ((fun _ => nI 0))))]] : List va_W).flatten := hD
  refine fr_putF (T := T) (C := RX0) (TT := TX0) (N := 3) (ci := 0) (v := .ref q2) (fs' := [[(h0, .inr (0, [.ref q1, .ref q2, .null]))], [(q1, .inl (T 0, 16, .inl ((fun _ => nI 0))))], [(q2, .inl (T 0, 16, .inl ((fun _ => nI 0))))]]) (ty := (.array .int)) hx hb hts hinX0 tyX0 tyX0_ok nmX0 hown hK hP hD hS 0 rfl rfl 1 (by decide) rfl w_15 rfl rfl hin rfl (by decide +kernel) rfl rfl (Nat.le_of_ble_eq_true rfl) dX0_init_15 (fun H locs hP hD hS => ?_)
  refine lv_aload_n hx hb dX0_init_18 rfl (lv_at hl 0 rfl) ?_
  refine lv_iload_n hx hb dX0_init_19 rfl (lv_at hl 1 rfl) ?_
  refine fr_newa (atype := .int) (t := 0) (ty := .int) hx hb w_acint rfl rfl (fun _ h9 => h9) rfl hK hP hD hS hA (n := 16) (by decide) (by decide) (Nat.le_of_ble_eq_true rfl) (Nat.le_of_ble_eq_true rfl) dX0_init_20 (fun q3 H hP hD hS => ?_)
  have hP : frP D [[(h0, .inr (0, [.ref q1, .ref q2, .null]))], [(q1, .inl (T 0, 16, .inl ((fun _ => nI 0))))], [(q2, .inl (T 0, 16, .inl ((fun _ => nI 0))))], [(q3, .inl (T 0, 16, .inl ((fun _ => nI 0))))]] _ := hP
  have hD : va_D A ([[(h0, .inr (0, [.ref q1, .ref q2, .null]))], [(q1, .inl (T 0, 16, .inl ((fun _ => nI 0))))], [(q2, .inl (T 0, 16, .inl ((fun _ => nI 0))))], [(q3, .inl (T 0, 16, .inl ((fun _ => nI 0))))]] : List va_W).flatten := hD
  refine fr_putF (T := T) (C := RX0) (TT := TX0) (N := 3) (ci := 0) (v := .ref q3) (fs' := [[(h0, .inr (0, [.ref q1, .ref q2, .ref q3]))], [(q1, .inl (T 0, 16, .inl ((fun _ => nI 0))))], [(q2, .inl (T 0, 16, .inl ((fun _ => nI 0))))], [(q3, .inl (T 0, 16, .inl ((fun _ => nI 0))))]]) (ty := (.array .int)) hx hb hts hinX0 tyX0 tyX0_ok nmX0 hown hK hP hD hS 0 rfl rfl 2 (by decide) rfl w_18 rfl rfl hin rfl (by decide +kernel) rfl rfl (Nat.le_of_ble_eq_true rfl) dX0_init_22 (fun H locs hP hD hS => ?_)
  refine lv_aload_n hx hb dX0_init_25 rfl (lv_at hl 0 rfl) ?_
  refine va_get (D := D) (ci := 0) (v := .ref q2) (C := RX0) (T := TX0) (N := 3) hx hb hts hinX0 hown hK (hP.at 0 rfl) 0 rfl rfl 1 (by decide) w_15 (fun _ h9 => h9) rfl dX0_init_26 ?_
  refine lv_bipush (v := (-6)) hx hb dX0_init_29 (by decide) ?_
  refine fr_Sv (As := [.ref q2, .int ((-6))]) (rest := []) (fs' := [[(h0, .inr (0, [.ref q1, .ref q2, .ref q3]))], [(q1, .inl (T 0, 16, .inl ((fun _ => nI 0))))], [(q2, .inl (T 0, 16, .inl (filF (fun _ => nI 0) (-6) 16)))], [(q3, .inl (T 0, 16, .inl ((fun _ => nI 0))))]]) ⟨hx, hb, hml, hown, hts⟩ (kJ7_fill_53178 l D T Z q2 16 (fun _ => nI 0) (-6) (by decide)) (va_cwS 2 hts gX0_init_J7_fill_53178 rfl rfl rfl (by decide +kernel) ⟨Nat.le_of_ble_eq_true rfl, Nat.le_of_ble_eq_true rfl⟩) hK hN hM hP hD hS hA [2] rfl rfl rfl rfl hl.1 rfl (Nat.le_of_ble_eq_true rfl) dX0_init_31 ⟨Nat.le_of_ble_eq_true rfl, Nat.le_of_ble_eq_true rfl⟩ (fun H locs hP hD hS => ?_)
  refine lv_aload_n hx hb dX0_init_34 rfl (lv_at hl 0 rfl) ?_
  refine va_get (D := D) (ci := 0) (v := .ref q3) (C := RX0) (T := TX0) (N := 3) hx hb hts hinX0 hown hK (hP.at 0 rfl) 0 rfl rfl 2 (by decide) w_18 (fun _ h9 => h9) rfl dX0_init_35 ?_
  refine lv_bipush (v := (-6)) hx hb dX0_init_38 (by decide) ?_
  refine fr_Sv (As := [.ref q3, .int ((-6))]) (rest := []) (fs' := [[(h0, .inr (0, [.ref q1, .ref q2, .ref q3]))], [(q1, .inl (T 0, 16, .inl ((fun _ => nI 0))))], [(q2, .inl (T 0, 16, .inl (filF (fun _ => nI 0) (-6) 16)))], [(q3, .inl (T 0, 16, .inl (filF (fun _ => nI 0) (-6) 16)))]]) ⟨hx, hb, hml, hown, hts⟩ (kJ7_fill_53178 l D T Z q3 16 (fun _ => nI 0) (-6) (by decide)) (va_cwS 2 hts gX0_init_J7_fill_53178 rfl rfl rfl (by decide +kernel) ⟨Nat.le_of_ble_eq_true rfl, Nat.le_of_ble_eq_true rfl⟩) hK hN hM hP hD hS hA [3] rfl rfl rfl rfl hl.1 rfl (Nat.le_of_ble_eq_true rfl) dX0_init_40 ⟨Nat.le_of_ble_eq_true rfl, Nat.le_of_ble_eq_true rfl⟩ (fun H locs hP hD hS => ?_)
  exact fr_nend (adL [h0, q1, q2, q3]) hx hb hr hlk hP hD hS rfl rfl (Nat.le_of_ble_eq_true rfl) (Nat.le_of_ble_eq_true rfl) dX0_init_43

set_option maxHeartbeats 8000000 in
set_option maxRecDepth 100000 in
theorem kX1_init (l : Launch) (D : va_G) (T : Nat → ClassId) (Z : ZZ) (h0 : Nat) : CtN l D T Z yX1_init wsX1_init ({ frames := 1, cells := 1, slots := 32, locals := 14 }) [[(h0, .inr (1, [.null, .int (nI 0), .int (nI 0)]))]] [.ref h0] 1 32 (fun ad => ad 0 = h0) (fun ad : Nat → Nat => [[((ad 0), .inr (1, [.ref (ad 1), .int (nI 0), .int (nI 0)]))], [((ad 1), .inl (T 0, 32, .inl (fun _ => nI 0)))]]) := by
  refine CtN.of (cc := cX1_init) (maxL := 1) (ret := none) (plainFor_of_name (by decide)) rfl rfl ?_
  intro pP eE s mM bW mE cC A hE hin hQ hK hN hM hP hD hA
  obtain ⟨hx, hb, hr, hts, hown, hml, hlk⟩ := hE
  have hown : s.vm.findClass RX1 = some mM.cls := hown
  have hS : va_S A s.heap s.heap [] := va_S.rf
  have hl := lv_entry ([.ref h0]) (n := 1) (Nat.le_of_ble_eq_true rfl)
  rw [lg_entry_eq]
  generalize (lg_sl ([.ref h0]) ++ List.replicate (1 - (lg_sl ([.ref h0])).length) Slot.unset).toArray = ls at hl ⊢
  have hl : lv_has ls 1 [(0, .ref h0)] := hl
  have w_oi := hts (.methodLink RX1 3 objectInit) (by decide +kernel)
  have w_oim := hts (.instanceMethod objectInit) (by decide +kernel)
  have w_oic := hts (.code objectInit ⟨#[0xb1]⟩ 1 none) (by decide +kernel)
  have w_acint := hts (.arrayClass .int) (by decide +kernel)
  have w_9 := hts (.fieldLink RX1 9 "PoisonedMemory$FaultLog" "rows" "[I") (by decide +kernel)
  have hinX1 : ∀ w ∈ wsX10, w ∈ wsX1_init := by decide +kernel
  refine lv_aload_n hx hb dX1_init_0 rfl (lv_at hl 0 rfl) ?_
  refine W.objInit hx hb hown w_oi w_oim w_oic rfl (by rw [hml]; exact hl.1) rfl dX1_init_1 (Nat.le_of_ble_eq_true rfl) (Nat.le_of_ble_eq_true rfl) ?_
  refine W.eq (g2 := F0 mM 4 ls []) rfl ?_
  refine lv_aload_n hx hb dX1_init_4 rfl (lv_at hl 0 rfl) ?_
  refine lv_bipush (v := nI 32) hx hb dX1_init_5 (by decide) ?_
  refine fr_newa (atype := .int) (t := 0) (ty := .int) hx hb w_acint rfl rfl (fun _ h9 => h9) rfl hK hP hD hS hA (n := 32) (by decide) (by decide) (Nat.le_of_ble_eq_true rfl) (Nat.le_of_ble_eq_true rfl) dX1_init_7 (fun q1 H hP hD hS => ?_)
  have hP : frP D [[(h0, .inr (1, [.null, .int (nI 0), .int (nI 0)]))], [(q1, .inl (T 0, 32, .inl ((fun _ => nI 0))))]] _ := hP
  have hD : va_D A ([[(h0, .inr (1, [.null, .int (nI 0), .int (nI 0)]))], [(q1, .inl (T 0, 32, .inl ((fun _ => nI 0))))]] : List va_W).flatten := hD
  refine fr_putF (T := T) (C := RX1) (TT := TX1) (N := 3) (ci := 1) (v := .ref q1) (fs' := [[(h0, .inr (1, [.ref q1, .int (nI 0), .int (nI 0)]))], [(q1, .inl (T 0, 32, .inl ((fun _ => nI 0))))]]) (ty := (.array .int)) hx hb hts hinX1 tyX1 tyX1_ok nmX1 hown hK hP hD hS 0 rfl rfl 0 (by decide) rfl w_9 rfl rfl hin rfl (by decide +kernel) rfl rfl (Nat.le_of_ble_eq_true rfl) dX1_init_9 (fun H locs hP hD hS => ?_)
  exact fr_nend (adL [h0, q1]) hx hb hr hlk hP hD hS rfl rfl (Nat.le_of_ble_eq_true rfl) (Nat.le_of_ble_eq_true rfl) dX1_init_12
