set_option maxHeartbeats 8000000 in
set_option maxRecDepth 100000 in
theorem kL_holds (l : Launch) (D : va_G) (T : Nat → ClassId) (Z : ZZ) (AD : Nat → Nat → Nat) (ν : NS) (Hi : PI ν) : CtI l D T Z yL_holds wsL_holds ({ frames := 4, cells := 0, slots := 0, locals := 86 }) [stW T (AD 0) ν, [(((AD 8) 0), .inr (5, [.ref ((AD 0) 0), .ref ((AD 1) 0), .ref ((AD 8) 1), .ref ((AD 9) 0), .ref ((AD 7) 0)]))]] [.ref ((AD 8) 0)] (bI (true)) [stW T (AD 0) ν, [(((AD 8) 0), .inr (5, [.ref ((AD 0) 0), .ref ((AD 1) 0), .ref ((AD 8) 1), .ref ((AD 9) 0), .ref ((AD 7) 0)]))]] := by
  have hn32 : cntP (ν 1) 0 32 ≤ 32 := cnt_le _ _
  have hn16 : cntP (ν 7) 0 16 ≤ 16 := cnt_le _ _
  have hnH : cntH ν 0 32 ≤ cntP (ν 1) 0 32 := cntH_le
  have hcA := car_all Hi
  have h20a := Hi.hi.2
  refine CtI.of (cc := cL_holds) (maxL := 9) (ret := (some .boolean)) (by decide +kernel) rfl rfl ?_
  intro pP eE s mM bW mE cC A hE hK hN hM hP hD hA
  obtain ⟨hx, hb, hr, hts, hown, hml, hlk⟩ := hE
  have hown : s.vm.findClass RL = some mM.cls := hown
  have hS : va_S A s.heap s.heap [] := va_S.rf
  have hl := lv_entry ([.ref ((AD 8) 0)]) (n := 9) (Nat.le_of_ble_eq_true rfl)
  rw [lg_entry_eq]
  generalize (lg_sl ([.ref ((AD 8) 0)]) ++ List.replicate (9 - (lg_sl ([.ref ((AD 8) 0)])).length) Slot.unset).toArray = ls at hl ⊢
  have hl : lv_has ls 9 [(0, .ref ((AD 8) 0))] := hl
  have w_145 := hts (.constantFloat RL 145 (1107296256)) (by decide +kernel)
  have w_118 := hts (.constant RL 118 (65535)) (by decide +kernel)
  refine lv_iconst (v := nI 0) hx hb dL_holds_0 (by decide) ?_
  refine lv_istore_n (lv' := [(1, .int (nI 0)), (0, .ref ((AD 8) 0))]) hx hb dL_holds_1 rfl hl (by decide) rfl (fun ls hl => ?_)
  refine lv_iconst (v := nI 0) hx hb dL_holds_2 (by decide) ?_
  refine lv_istore_n (lv' := [(2, .int (nI 0)), (1, .int (nI 0)), (0, .ref ((AD 8) 0))]) hx hb dL_holds_3 rfl hl (by decide) rfl (fun ls hl => ?_)
  refine lv_iconst (v := nI 0) hx hb dL_holds_4 (by decide) ?_
  refine lv_istore_n (lv' := [(3, .int (nI 0)), (2, .int (nI 0)), (1, .int (nI 0)), (0, .ref ((AD 8) 0))]) hx hb dL_holds_5 rfl hl (by decide) rfl (fun ls hl => ?_)
  refine lv_iconst (v := nI 0) hx hb dL_holds_6 (by decide) ?_
  refine lv_istore (lv' := [(4, .int (nI 0)), (3, .int (nI 0)), (2, .int (nI 0)), (1, .int (nI 0)), (0, .ref ((AD 8) 0))]) hx hb dL_holds_7 hl (by decide) rfl (fun ls hl => ?_)
  refine lv_iconst (v := nI 0) hx hb dL_holds_9 (by decide) ?_
  refine lv_istore (lv' := [(5, .int (nI 0)), (4, .int (nI 0)), (3, .int (nI 0)), (2, .int (nI 0)), (1, .int (nI 0)), (0, .ref ((AD 8) 0))]) hx hb dL_holds_10 hl (by decide) rfl (fun ls hl => ?_)
  refine lv_iconst (v := nI 1) hx hb dL_holds_12 (by decide) ?_
  refine lv_istore (lv' := [(6, .int (nI 1)), (5, .int (nI 0)), (4, .int (nI 0)), (3, .int (nI 0)), (2, .int (nI 0)), (1, .int (nI 0)), (0, .ref ((AD 8) 0))]) hx hb dL_holds_13 hl (by decide) rfl (fun ls hl => ?_)
  refine lv_iconst (v := nI 0) hx hb dL_holds_15 (by decide) ?_
  refine lv_istore (lv' := [(7, .int (nI 0)), (6, .int (nI 1)), (5, .int (nI 0)), (4, .int (nI 0)), (3, .int (nI 0)), (2, .int (nI 0)), (1, .int (nI 0)), (0, .ref ((AD 8) 0))]) hx hb dL_holds_16 hl (by decide) rfl (fun ls hl => ?_)
  have loop18 : ∀ (n9 k9 : Nat), k9 ≤ 32 → 32 < k9 + n9 → ∀ (H : Heap) (locs : List Loc), frP D [stW T (AD 0) ν, [(((AD 8) 0), .inr (5, [.ref ((AD 0) 0), .ref ((AD 1) 0), .ref ((AD 8) 1), .ref ((AD 9) 0), .ref ((AD 7) 0)]))]] H → va_D A ([stW T (AD 0) ν, [(((AD 8) 0), .inr (5, [.ref ((AD 0) 0), .ref ((AD 1) 0), .ref ((AD 8) 1), .ref ((AD 9) 0), .ref ((AD 7) 0)]))]] : List va_W).flatten → va_S A s.heap H locs → ∀ (ls : Array Slot), lv_has ls 9 [(7, .int (nI (k9))), (6, .int (nI 1)), (5, .int (nI ((cntH ν 0 k9)))), (4, .int (nI 0)), (3, .int (nI 0)), (2, .int (nI ((cntP (ν 1) 0 k9)))), (1, .int (nI 0)), (0, .ref ((AD 8) 0))] → W pP l eE ({ frames := 4, cells := 0, slots := 0, locals := 86 }) s mM ([.ref ((AD 8) 0)] : List Value).toArray bW mE cC H locs 0 0 (MQ bW (QcI D [stW T (AD 0) ν, [(((AD 8) 0), .inr (5, [.ref ((AD 0) 0), .ref ((AD 1) 0), .ref ((AD 8) 1), .ref ((AD 9) 0), .ref ((AD 7) 0)]))]] (bI (true)) A) ([.ref ((AD 8) 0)] : List Value).toArray s 0 0 A) (F0 mM 18 ls []) := by
    intro n9
    induction n9 with
    | zero => intro k9 h1 h2; exact absurd h2 (by omega)
    | succ n9 ih =>
      intro k9 hk1 hk2 H locs hP hD hS ls hl
      refine lv_iload hx hb dL_holds_18 (lv_at hl 0 rfl) ?_
      refine lv_bipush (v := nI 32) hx hb dL_holds_20 (by decide) ?_
      refine fr_icmp_ge (k9) (32) (by omega) (by decide) (tgt := 177) hx hb dL_holds_22 (by decide) (fun c_1 => ?_) (fun c_1 => ?_)
      · have c_1' := Nat.not_lt.mpr c_1
        obtain rfl : k9 = 32 := by omega
        refine lv_iload_n hx hb dL_holds_177 rfl (lv_at hl 5 rfl) ?_
        refine lv_istore_n (lv' := [(3, .int (nI ((cntP (ν 1) 0 32)))), (7, .int (nI 32)), (6, .int (nI 1)), (5, .int (nI ((cntH ν 0 32)))), (4, .int (nI 0)), (2, .int (nI ((cntP (ν 1) 0 32)))), (1, .int (nI 0)), (0, .ref ((AD 8) 0))]) hx hb dL_holds_178 rfl hl (by decide) rfl (fun ls hl => ?_)
        refine lv_iconst (v := nI 0) hx hb dL_holds_179 (by decide) ?_
        refine lv_istore (lv' := [(7, .int (nI 0)), (3, .int (nI ((cntP (ν 1) 0 32)))), (6, .int (nI 1)), (5, .int (nI ((cntH ν 0 32)))), (4, .int (nI 0)), (2, .int (nI ((cntP (ν 1) 0 32)))), (1, .int (nI 0)), (0, .ref ((AD 8) 0))]) hx hb dL_holds_180 hl (by decide) rfl (fun ls hl => ?_)
        have loop182 : ∀ (n9 k8 : Nat), k8 ≤ 16 → 16 < k8 + n9 → ∀ (H : Heap) (locs : List Loc), frP D [stW T (AD 0) ν, [(((AD 8) 0), .inr (5, [.ref ((AD 0) 0), .ref ((AD 1) 0), .ref ((AD 8) 1), .ref ((AD 9) 0), .ref ((AD 7) 0)]))]] H → va_D A ([stW T (AD 0) ν, [(((AD 8) 0), .inr (5, [.ref ((AD 0) 0), .ref ((AD 1) 0), .ref ((AD 8) 1), .ref ((AD 9) 0), .ref ((AD 7) 0)]))]] : List va_W).flatten → va_S A s.heap H locs → ∀ (ls : Array Slot), lv_has ls 9 [(7, .int (nI (k8))), (3, .int (nI ((cntP (ν 1) 0 32)))), (6, .int (nI 1)), (5, .int (nI ((cntH ν 0 32)))), (4, .int (arN ν k8)), (2, .int (nI (((cntP (ν 1) 0 32) + (cntP (ν 7) 0 k8))))), (1, .int (nI 0)), (0, .ref ((AD 8) 0))] → W pP l eE ({ frames := 4, cells := 0, slots := 0, locals := 86 }) s mM ([.ref ((AD 8) 0)] : List Value).toArray bW mE cC H locs 0 0 (MQ bW (QcI D [stW T (AD 0) ν, [(((AD 8) 0), .inr (5, [.ref ((AD 0) 0), .ref ((AD 1) 0), .ref ((AD 8) 1), .ref ((AD 9) 0), .ref ((AD 7) 0)]))]] (bI (true)) A) ([.ref ((AD 8) 0)] : List Value).toArray s 0 0 A) (F0 mM 182 ls []) := by
          intro n9
          induction n9 with
          | zero => intro k8 h1 h2; exact absurd h2 (by omega)
          | succ n9 ih =>
            intro k8 hk1 hk2 H locs hP hD hS ls hl
            refine lv_iload hx hb dL_holds_182 (lv_at hl 0 rfl) ?_
            refine lv_bipush (v := nI 16) hx hb dL_holds_184 (by decide) ?_
            refine fr_icmp_ge (k8) (16) (by omega) (by decide) (tgt := 358) hx hb dL_holds_186 (by decide) (fun c_2 => ?_) (fun c_2 => ?_)
            · have c_2' := Nat.not_lt.mpr c_2
              obtain rfl : k8 = 16 := by omega
              refine lv_aload_n hx hb dL_holds_358 rfl (lv_at hl 7 rfl) ?_
              refine fr_Vi (As := []) (rest := []) (fs' := [stW T (AD 0) ν, [(((AD 8) 0), .inr (5, [.ref ((AD 0) 0), .ref ((AD 1) 0), .ref ((AD 8) 1), .ref ((AD 9) 0), .ref ((AD 7) 0)]))]]) (ci := 5) (q0 := (RX5, TX5, 5)) (i0 := 1) ⟨hx, hb, hml, hown, hts⟩ (kX5_widest_n l D T Z AD ν Hi.hi) (cwV 0 hts gL_holds_X5_widest rfl rfl rfl (by decide +kernel) ⟨Nat.le_of_ble_eq_true rfl, Nat.le_of_ble_eq_true rfl⟩) hK hN hM hP hD hS hA [0, 1] rfl rfl rfl rfl rfl rfl hl.1 rfl (Nat.le_of_ble_eq_true rfl) dL_holds_359 ⟨Nat.zero_le _, Nat.zero_le _⟩ (fun H locs hP hD hS => ?_)
              refine lv_istore (lv' := [(7, .int (widC ν)), (3, .int (nI ((cntP (ν 1) 0 32)))), (6, .int (nI 1)), (5, .int (nI ((cntH ν 0 32)))), (4, .int (arN ν 16)), (2, .int (nI (((cntP (ν 1) 0 32) + (cntP (ν 7) 0 16))))), (1, .int (nI 0)), (0, .ref ((AD 8) 0))]) hx hb dL_holds_362 hl (by decide) rfl (fun ls hl => ?_)
              refine lv_iconst (v := nI 0) hx hb dL_holds_364 (by decide) ?_
              refine lv_istore (lv' := [(8, .int (nI 0)), (7, .int (widC ν)), (3, .int (nI ((cntP (ν 1) 0 32)))), (6, .int (nI 1)), (5, .int (nI ((cntH ν 0 32)))), (4, .int (arN ν 16)), (2, .int (nI (((cntP (ν 1) 0 32) + (cntP (ν 7) 0 16))))), (1, .int (nI 0)), (0, .ref ((AD 8) 0))]) hx hb dL_holds_365 hl (by decide) rfl (fun ls hl => ?_)
              have loop367 : ∀ (n9 k7 : Nat), k7 ≤ (tn (ν 15 0)) → (tn (ν 15 0)) < k7 + n9 → ∀ (H : Heap) (locs : List Loc), frP D [stW T (AD 0) ν, [(((AD 8) 0), .inr (5, [.ref ((AD 0) 0), .ref ((AD 1) 0), .ref ((AD 8) 1), .ref ((AD 9) 0), .ref ((AD 7) 0)]))]] H → va_D A ([stW T (AD 0) ν, [(((AD 8) 0), .inr (5, [.ref ((AD 0) 0), .ref ((AD 1) 0), .ref ((AD 8) 1), .ref ((AD 9) 0), .ref ((AD 7) 0)]))]] : List va_W).flatten → va_S A s.heap H locs → ∀ (ls : Array Slot), lv_has ls 9 [(8, .int (nI (k7))), (7, .int (widC ν)), (3, .int (nI ((cntP (ν 1) 0 32)))), (6, .int (nI 1)), (5, .int (nI ((cntH ν 0 32)))), (4, .int (arN ν 16)), (2, .int (nI (((cntP (ν 1) 0 32) + (cntP (ν 7) 0 16))))), (1, .int (nI ((sumC (carC ν) k7)))), (0, .ref ((AD 8) 0))] → W pP l eE ({ frames := 4, cells := 0, slots := 0, locals := 86 }) s mM ([.ref ((AD 8) 0)] : List Value).toArray bW mE cC H locs 0 0 (MQ bW (QcI D [stW T (AD 0) ν, [(((AD 8) 0), .inr (5, [.ref ((AD 0) 0), .ref ((AD 1) 0), .ref ((AD 8) 1), .ref ((AD 9) 0), .ref ((AD 7) 0)]))]] (bI (true)) A) ([.ref ((AD 8) 0)] : List Value).toArray s 0 0 A) (F0 mM 367 ls []) := by
                intro n9
                induction n9 with
                | zero => intro k7 h1 h2; exact absurd h2 (by omega)
                | succ n9 ih =>
                  intro k7 hk1 hk2 H locs hP hD hS ls hl
                  have h20 := Hi.hi.2
                  have hck7 : carC ν k7 ≤ 48 := carr_le
                  refine lv_iload hx hb dL_holds_367 (lv_at hl 0 rfl) ?_
                  refine lv_aload_n hx hb dL_holds_369 rfl (lv_at hl 8 rfl) ?_
                  refine fr_Vi (As := []) (rest := [.int (nI (k7))]) (fs' := [stW T (AD 0) ν, [(((AD 8) 0), .inr (5, [.ref ((AD 0) 0), .ref ((AD 1) 0), .ref ((AD 8) 1), .ref ((AD 9) 0), .ref ((AD 7) 0)]))]]) (ci := 5) (q0 := (RX5, TX5, 5)) (i0 := 1) ⟨hx, hb, hml, hown, hts⟩ (kX5_injections_n l D T Z AD ν) (cwV 0 hts gL_holds_X5_injections rfl rfl rfl (by decide +kernel) ⟨Nat.le_of_ble_eq_true rfl, Nat.le_of_ble_eq_true rfl⟩) hK hN hM hP hD hS hA [0, 1] rfl rfl rfl rfl rfl rfl hl.1 rfl (Nat.le_of_ble_eq_true rfl) dL_holds_370 ⟨Nat.zero_le _, Nat.zero_le _⟩ (fun H locs hP hD hS => ?_)
                  refine fr_val Hi.hi.1 ?_
                  refine fr_icmp_ge (k7) (tn (ν 15 0)) (by omega) (by omega) (tgt := 465) hx hb dL_holds_373 (by decide) (fun c_3 => ?_) (fun c_3 => ?_)
                  · have c_3' := Nat.not_lt.mpr c_3
                    obtain rfl : k7 = tn (ν 15 0) := by omega
                    refine lv_iload hx hb dL_holds_465 (lv_at hl 3 rfl) ?_
                    refine lv_if_eq (tgt := 536) hx hb dL_holds_467 (by decide) (fun z => absurd z (by decide)) (fun _ => ?_)
                    refine lv_iload_n hx hb dL_holds_470 rfl (lv_at hl 7 rfl) ?_
                    refine lv_iload_n hx hb dL_holds_471 rfl (lv_at hl 6 rfl) ?_
                    refine fr_icmp_ne ((sumC (carC ν) (tn (ν 15 0)))) (((cntP (ν 1) 0 32) + (cntP (ν 7) 0 16))) (by omega) (by omega) (tgt := 536) hx hb dL_holds_472 (by decide) (fun c_4 => ?_) (fun c_4 => ?_)
                    · exact absurd (car_all Hi) c_4
                    · refine lv_aload_n hx hb dL_holds_475 rfl (lv_at hl 8 rfl) ?_
                      refine fr_Vi (As := []) (rest := []) (fs' := [stW T (AD 0) ν, [(((AD 8) 0), .inr (5, [.ref ((AD 0) 0), .ref ((AD 1) 0), .ref ((AD 8) 1), .ref ((AD 9) 0), .ref ((AD 7) 0)]))]]) (ci := 5) (q0 := (RX5, TX5, 5)) (i0 := 1) ⟨hx, hb, hml, hown, hts⟩ (kX5_atRisk_n l D T Z AD ν) (cwV 0 hts gL_holds_X5_atRisk rfl rfl rfl (by decide +kernel) ⟨Nat.le_of_ble_eq_true rfl, Nat.le_of_ble_eq_true rfl⟩) hK hN hM hP hD hS hA [0, 1] rfl rfl rfl rfl rfl rfl hl.1 rfl (Nat.le_of_ble_eq_true rfl) dL_holds_476 ⟨Nat.zero_le _, Nat.zero_le _⟩ (fun H locs hP hD hS => ?_)
                      refine lv_iload hx hb dL_holds_479 (lv_at hl 5 rfl) ?_
                      refine lv_icmp_ne (tgt := 536) hx hb dL_holds_481 (by decide) (fun c_5 => ?_) (fun c_5 => ?_)
                      · exact absurd ar_all c_5
                      · refine lv_iload hx hb dL_holds_484 (lv_at hl 1 rfl) ?_
                        refine lv_bipush (v := (-6)) hx hb dL_holds_486 (by decide) ?_
                        refine lv_icmp_ne (tgt := 495) hx hb dL_holds_488 (by decide) (fun c_6 => ?_) (fun c_6 => ?_)
                        · have eW := wid_n6 Hi c_6
                          refine lv_iconst (v := nI 0) hx hb dL_holds_495 (by decide) ?_
                          refine lv_iload_n hx hb dL_holds_496 rfl (lv_at hl 6 rfl) ?_
                          refine fr_if_ne (((cntP (ν 1) 0 32) + (cntP (ν 7) 0 16))) (by omega) (tgt := 504) hx hb dL_holds_497 (by decide) (fun c_7 => ?_) (fun c_7 => ?_)
                          · refine lv_iconst (v := nI 0) hx hb dL_holds_504 (by decide) ?_
                            refine fr_icmp_ne 0 0 (by decide) (by decide) (tgt := 536) hx hb dL_holds_505 (by decide) (fun z => absurd z (by decide)) (fun _ => ?_)
                            refine lv_aload_n hx hb dL_holds_508 rfl (lv_at hl 8 rfl) ?_
                            refine fr_Vi (As := []) (rest := []) (fs' := [stW T (AD 0) ν, [(((AD 8) 0), .inr (5, [.ref ((AD 0) 0), .ref ((AD 1) 0), .ref ((AD 8) 1), .ref ((AD 9) 0), .ref ((AD 7) 0)]))]]) (ci := 5) (q0 := (RX5, TX5, 5)) (i0 := 1) ⟨hx, hb, hml, hown, hts⟩ (kX5_poisonedIfScrubbed_n l D T Z AD ν) (cwV 0 hts gL_holds_X5_poisonedIfScrubbed rfl rfl rfl (by decide +kernel) ⟨Nat.le_of_ble_eq_true rfl, Nat.le_of_ble_eq_true rfl⟩) hK hN hM hP hD hS hA [0, 1] rfl rfl rfl rfl rfl rfl hl.1 rfl (Nat.le_of_ble_eq_true rfl) dL_holds_509 ⟨Nat.zero_le _, Nat.zero_le _⟩ (fun H locs hP hD hS => ?_)
                            refine lv_iload_n hx hb dL_holds_512 rfl (lv_at hl 2 rfl) ?_
                            refine lv_iload hx hb dL_holds_513 (lv_at hl 4 rfl) ?_
                            refine fr_isub ((cntP (ν 1) 0 32)) ((cntH ν 0 32)) (by omega) hx hb dL_holds_515 ?_
                            refine fr_icmp_ne (((cntP (ν 1) 0 32) - (cntH ν 0 32))) (((cntP (ν 1) 0 32) - (cntH ν 0 32))) (by omega) (by omega) (tgt := 536) hx hb dL_holds_516 (by decide) (fun z => absurd z (by omega)) (fun _ => ?_)
                            refine lv_aload_n hx hb dL_holds_519 rfl (lv_at hl 8 rfl) ?_
                            have hsh : cntP (ν 1) 0 32 < 33 := by have h9 := cnt_le (fun k => ps (ν 1 (0 + k))) 32; unfold cntP; omega
                            refine fr_Vf (As := []) (rest := []) (fs' := [stW T (AD 0) ν, [(((AD 8) 0), .inr (5, [.ref ((AD 0) 0), .ref ((AD 1) 0), .ref ((AD 8) 1), .ref ((AD 9) 0), .ref ((AD 7) 0)]))]]) (ci := 5) (q0 := (RX5, TX5, 5)) (i0 := 1) ⟨hx, hb, hml, hown, hts⟩ (kX5_poisonShare_n l D T Z AD ν) (cwV 0 hts gL_holds_X5_poisonShare rfl rfl rfl (by decide +kernel) ⟨Nat.le_of_ble_eq_true rfl, Nat.le_of_ble_eq_true rfl⟩) hK hN hM hP hD hS hA [0, 1] rfl rfl rfl rfl rfl rfl hl.1 rfl (Nat.le_of_ble_eq_true rfl) dL_holds_520 ⟨Nat.zero_le _, Nat.zero_le _⟩ (fun H locs hP hD hS => ?_)
                            refine lv_iload_n hx hb dL_holds_523 rfl (lv_at hl 2 rfl) ?_
                            refine lv_i2f hx hb dL_holds_524 ?_
                            refine lv_ldcf hx hb hown w_145 dL_holds_525 ?_
                            refine lv_fdiv hx hb dL_holds_527 (shr_n (cntP (ν 1) 0 32) hsh) ?_
                            refine lv_fcmp hx hb dL_holds_528 ?_
                            refine fr_val (shr_c _ hsh) ?_
                            refine lv_if_ne (tgt := 536) hx hb dL_holds_529 (by decide) (fun z => absurd z (by decide)) (fun _ => ?_)
                            refine lv_iconst (v := nI 1) hx hb dL_holds_532 (by decide) ?_
                            refine lv_goto (tgt := 537) hx hb dL_holds_533 (by decide) ?_
                            exact fr_zret hx hb hr hlk hP hS (by first | rfl | (simp only [c_1, c_1', c_2, c_2', c_3, c_3', c_4, c_5, c_6, c_7, ↓reduceIte, Bool.false_eq_true, bI_true, bI_false, Bool.true_and, Bool.and_true, Bool.and_false, Bool.false_and, Bool.not_true, Bool.not_false, Bool.or_true, Bool.true_or, Bool.or_false, Bool.false_or] <;> rfl) | (simp [c_1, c_1', c_2, c_2', c_3, c_3', c_4, c_5, c_6, c_7, bI]; done)) rfl rfl dL_holds_537
                          · exact absurd c_7 (by omega)
                        · have eW := wid_6 Hi c_6
                          refine lv_iconst (v := nI 1) hx hb dL_holds_491 (by decide) ?_
                          refine lv_goto (tgt := 496) hx hb dL_holds_492 (by decide) ?_
                          refine lv_iload_n hx hb dL_holds_496 rfl (lv_at hl 6 rfl) ?_
                          refine fr_if_ne (((cntP (ν 1) 0 32) + (cntP (ν 7) 0 16))) (by omega) (tgt := 504) hx hb dL_holds_497 (by decide) (fun c_8 => ?_) (fun c_8 => ?_)
                          · exact absurd c_8 (by omega)
                          · refine lv_iconst (v := nI 1) hx hb dL_holds_500 (by decide) ?_
                            refine lv_goto (tgt := 505) hx hb dL_holds_501 (by decide) ?_
                            refine fr_icmp_ne 1 1 (by decide) (by decide) (tgt := 536) hx hb dL_holds_505 (by decide) (fun z => absurd z (by decide)) (fun _ => ?_)
                            refine lv_aload_n hx hb dL_holds_508 rfl (lv_at hl 8 rfl) ?_
                            refine fr_Vi (As := []) (rest := []) (fs' := [stW T (AD 0) ν, [(((AD 8) 0), .inr (5, [.ref ((AD 0) 0), .ref ((AD 1) 0), .ref ((AD 8) 1), .ref ((AD 9) 0), .ref ((AD 7) 0)]))]]) (ci := 5) (q0 := (RX5, TX5, 5)) (i0 := 1) ⟨hx, hb, hml, hown, hts⟩ (kX5_poisonedIfScrubbed_n l D T Z AD ν) (cwV 0 hts gL_holds_X5_poisonedIfScrubbed rfl rfl rfl (by decide +kernel) ⟨Nat.le_of_ble_eq_true rfl, Nat.le_of_ble_eq_true rfl⟩) hK hN hM hP hD hS hA [0, 1] rfl rfl rfl rfl rfl rfl hl.1 rfl (Nat.le_of_ble_eq_true rfl) dL_holds_509 ⟨Nat.zero_le _, Nat.zero_le _⟩ (fun H locs hP hD hS => ?_)
                            refine lv_iload_n hx hb dL_holds_512 rfl (lv_at hl 2 rfl) ?_
                            refine lv_iload hx hb dL_holds_513 (lv_at hl 4 rfl) ?_
                            refine fr_isub ((cntP (ν 1) 0 32)) ((cntH ν 0 32)) (by omega) hx hb dL_holds_515 ?_
                            refine fr_icmp_ne (((cntP (ν 1) 0 32) - (cntH ν 0 32))) (((cntP (ν 1) 0 32) - (cntH ν 0 32))) (by omega) (by omega) (tgt := 536) hx hb dL_holds_516 (by decide) (fun z => absurd z (by omega)) (fun _ => ?_)
                            refine lv_aload_n hx hb dL_holds_519 rfl (lv_at hl 8 rfl) ?_
                            have hsh : cntP (ν 1) 0 32 < 33 := by have h9 := cnt_le (fun k => ps (ν 1 (0 + k))) 32; unfold cntP; omega
                            refine fr_Vf (As := []) (rest := []) (fs' := [stW T (AD 0) ν, [(((AD 8) 0), .inr (5, [.ref ((AD 0) 0), .ref ((AD 1) 0), .ref ((AD 8) 1), .ref ((AD 9) 0), .ref ((AD 7) 0)]))]]) (ci := 5) (q0 := (RX5, TX5, 5)) (i0 := 1) ⟨hx, hb, hml, hown, hts⟩ (kX5_poisonShare_n l D T Z AD ν) (cwV 0 hts gL_holds_X5_poisonShare rfl rfl rfl (by decide +kernel) ⟨Nat.le_of_ble_eq_true rfl, Nat.le_of_ble_eq_true rfl⟩) hK hN hM hP hD hS hA [0, 1] rfl rfl rfl rfl rfl rfl hl.1 rfl (Nat.le_of_ble_eq_true rfl) dL_holds_520 ⟨Nat.zero_le _, Nat.zero_le _⟩ (fun H locs hP hD hS => ?_)
                            refine lv_iload_n hx hb dL_holds_523 rfl (lv_at hl 2 rfl) ?_
                            refine lv_i2f hx hb dL_holds_524 ?_
                            refine lv_ldcf hx hb hown w_145 dL_holds_525 ?_
                            refine lv_fdiv hx hb dL_holds_527 (shr_n (cntP (ν 1) 0 32) hsh) ?_
                            refine lv_fcmp hx hb dL_holds_528 ?_
                            refine fr_val (shr_c _ hsh) ?_
                            refine lv_if_ne (tgt := 536) hx hb dL_holds_529 (by decide) (fun z => absurd z (by decide)) (fun _ => ?_)
                            refine lv_iconst (v := nI 1) hx hb dL_holds_532 (by decide) ?_
                            refine lv_goto (tgt := 537) hx hb dL_holds_533 (by decide) ?_
                            exact fr_zret hx hb hr hlk hP hS (by first | rfl | (simp only [c_1, c_1', c_2, c_2', c_3, c_3', c_4, c_5, c_6, c_8, ↓reduceIte, Bool.false_eq_true, bI_true, bI_false, Bool.true_and, Bool.and_true, Bool.and_false, Bool.false_and, Bool.not_true, Bool.not_false, Bool.or_true, Bool.true_or, Bool.or_false, Bool.false_or] <;> rfl) | (simp [c_1, c_1', c_2, c_2', c_3, c_3', c_4, c_5, c_6, c_8, bI]; done)) rfl rfl dL_holds_537
                  · have c_3' := Nat.not_le.mpr c_3
                    refine lv_iload_n hx hb dL_holds_376 rfl (lv_at hl 7 rfl) ?_
                    refine lv_aload_n hx hb dL_holds_377 rfl (lv_at hl 8 rfl) ?_
                    refine lv_iload hx hb dL_holds_378 (lv_at hl 0 rfl) ?_
                    refine fr_Vi (As := [.int (nI (k7))]) (rest := [.int (nI ((sumC (carC ν) k7)))]) (fs' := [stW T (AD 0) ν, [(((AD 8) 0), .inr (5, [.ref ((AD 0) 0), .ref ((AD 1) 0), .ref ((AD 8) 1), .ref ((AD 9) 0), .ref ((AD 7) 0)]))]]) (ci := 5) (q0 := (RX5, TX5, 5)) (i0 := 1) ⟨hx, hb, hml, hown, hts⟩ (kX5_carriers_n l D T Z AD ν k7 Hi.hi (by omega)) (cwV 1 hts gL_holds_X5_carriers rfl rfl rfl (by decide +kernel) ⟨Nat.le_of_ble_eq_true rfl, Nat.le_of_ble_eq_true rfl⟩) hK hN hM hP hD hS hA [0, 1] rfl rfl rfl rfl rfl rfl hl.1 rfl (Nat.le_of_ble_eq_true rfl) dL_holds_380 ⟨Nat.zero_le _, Nat.zero_le _⟩ (fun H locs hP hD hS => ?_)
                    refine fr_iadd ((sumC (carC ν) k7)) ((carC ν k7)) hx hb dL_holds_383 ?_
                    refine lv_istore_n (lv' := [(1, .int (nI (((sumC (carC ν) k7) + (carC ν k7))))), (8, .int (nI (k7))), (7, .int (widC ν)), (3, .int (nI ((cntP (ν 1) 0 32)))), (6, .int (nI 1)), (5, .int (nI ((cntH ν 0 32)))), (4, .int (arN ν 16)), (2, .int (nI (((cntP (ν 1) 0 32) + (cntP (ν 7) 0 16))))), (0, .ref ((AD 8) 0))]) hx hb dL_holds_384 rfl hl (by decide) rfl (fun ls hl => ?_)
                    refine lv_iload hx hb dL_holds_385 (lv_at hl 4 rfl) ?_
                    refine lv_if_eq (tgt := 456) hx hb dL_holds_387 (by decide) (fun z => absurd z (by decide)) (fun _ => ?_)
                    refine lv_aload_n hx hb dL_holds_390 rfl (lv_at hl 8 rfl) ?_
                    refine lv_iload hx hb dL_holds_391 (lv_at hl 1 rfl) ?_
                    refine fr_Vi (As := [.int (nI (k7))]) (rest := []) (fs' := [stW T (AD 0) ν, [(((AD 8) 0), .inr (5, [.ref ((AD 0) 0), .ref ((AD 1) 0), .ref ((AD 8) 1), .ref ((AD 9) 0), .ref ((AD 7) 0)]))]]) (ci := 5) (q0 := (RX5, TX5, 5)) (i0 := 1) ⟨hx, hb, hml, hown, hts⟩ (kX5_farthest_n l D T Z AD ν k7 Hi.hi (by omega)) (cwV 1 hts gL_holds_X5_farthest rfl rfl rfl (by decide +kernel) ⟨Nat.le_of_ble_eq_true rfl, Nat.le_of_ble_eq_true rfl⟩) hK hN hM hP hD hS hA [0, 1] rfl rfl rfl rfl rfl rfl hl.1 rfl (Nat.le_of_ble_eq_true rfl) dL_holds_393 ⟨Nat.zero_le _, Nat.zero_le _⟩ (fun H locs hP hD hS => ?_)
                    refine lv_bipush (v := (-6)) hx hb dL_holds_396 (by decide) ?_
                    refine lv_icmp_ne (tgt := 405) hx hb dL_holds_398 (by decide) (fun c_9 => ?_) (fun c_9 => ?_)
                    · have eC : 0 < carC ν k7 := Nat.pos_of_ne_zero (fun q => c_9 ((far_all Hi (by have := Hi.hi.2; omega)).mpr q))
                      refine lv_iconst (v := nI 0) hx hb dL_holds_405 (by decide) ?_
                      refine lv_aload_n hx hb dL_holds_406 rfl (lv_at hl 8 rfl) ?_
                      refine lv_iload hx hb dL_holds_407 (lv_at hl 1 rfl) ?_
                      refine fr_Vi (As := [.int (nI (k7))]) (rest := [.int (nI 0)]) (fs' := [stW T (AD 0) ν, [(((AD 8) 0), .inr (5, [.ref ((AD 0) 0), .ref ((AD 1) 0), .ref ((AD 8) 1), .ref ((AD 9) 0), .ref ((AD 7) 0)]))]]) (ci := 5) (q0 := (RX5, TX5, 5)) (i0 := 1) ⟨hx, hb, hml, hown, hts⟩ (kX5_carriers_n l D T Z AD ν k7 Hi.hi (by omega)) (cwV 1 hts gL_holds_X5_carriers rfl rfl rfl (by decide +kernel) ⟨Nat.le_of_ble_eq_true rfl, Nat.le_of_ble_eq_true rfl⟩) hK hN hM hP hD hS hA [0, 1] rfl rfl rfl rfl rfl rfl hl.1 rfl (Nat.le_of_ble_eq_true rfl) dL_holds_409 ⟨Nat.zero_le _, Nat.zero_le _⟩ (fun H locs hP hD hS => ?_)
                      refine fr_if_ne ((carC ν k7)) (by omega) (tgt := 419) hx hb dL_holds_412 (by decide) (fun c_10 => ?_) (fun c_10 => ?_)
                      · refine lv_iconst (v := nI 0) hx hb dL_holds_419 (by decide) ?_
                        refine fr_icmp_ne 0 0 (by decide) (by decide) (tgt := 456) hx hb dL_holds_420 (by decide) (fun z => absurd z (by decide)) (fun _ => ?_)
                        refine lv_aload_n hx hb dL_holds_423 rfl (lv_at hl 8 rfl) ?_
                        refine lv_iload hx hb dL_holds_424 (lv_at hl 1 rfl) ?_
                        refine fr_Vi (As := [.int (nI (k7))]) (rest := []) (fs' := [stW T (AD 0) ν, [(((AD 8) 0), .inr (5, [.ref ((AD 0) 0), .ref ((AD 1) 0), .ref ((AD 8) 1), .ref ((AD 9) 0), .ref ((AD 7) 0)]))]]) (ci := 5) (q0 := (RX5, TX5, 5)) (i0 := 1) ⟨hx, hb, hml, hown, hts⟩ (kX5_carriers_n l D T Z AD ν k7 Hi.hi (by omega)) (cwV 1 hts gL_holds_X5_carriers rfl rfl rfl (by decide +kernel) ⟨Nat.le_of_ble_eq_true rfl, Nat.le_of_ble_eq_true rfl⟩) hK hN hM hP hD hS hA [0, 1] rfl rfl rfl rfl rfl rfl hl.1 rfl (Nat.le_of_ble_eq_true rfl) dL_holds_426 ⟨Nat.zero_le _, Nat.zero_le _⟩ (fun H locs hP hD hS => ?_)
                        refine fr_if_eq ((carC ν k7)) (by omega) (tgt := 452) hx hb dL_holds_429 (by decide) (fun c_11 => ?_) (fun c_11 => ?_)
                        · exact absurd c_11 (by omega)
                        · obtain ⟨jw, hjw, ejw, hmw⟩ := wid_ex Hi (k := k7) (by omega) eC
                          have hckj : carC ν jw ≤ 48 := carr_le
                          refine lv_iload hx hb dL_holds_432 (lv_at hl 2 rfl) ?_
                          refine fr_val ejw ?_
                          refine lv_if_lt (tgt := 456) hx hb dL_holds_434 (by decide) (fun z => absurd z (nI_pos (by omega))) (fun _ => ?_)
                          refine lv_aload_n hx hb dL_holds_437 rfl (lv_at hl 8 rfl) ?_
                          refine lv_iload hx hb dL_holds_438 (lv_at hl 2 rfl) ?_
                          refine fr_val ejw ?_
                          refine fr_Vi (As := [.int (nI (jw))]) (rest := []) (fs' := [stW T (AD 0) ν, [(((AD 8) 0), .inr (5, [.ref ((AD 0) 0), .ref ((AD 1) 0), .ref ((AD 8) 1), .ref ((AD 9) 0), .ref ((AD 7) 0)]))]]) (ci := 5) (q0 := (RX5, TX5, 5)) (i0 := 1) ⟨hx, hb, hml, hown, hts⟩ (kX5_carriers_n l D T Z AD ν jw Hi.hi (by omega)) (cwV 1 hts gL_holds_X5_carriers rfl rfl rfl (by decide +kernel) ⟨Nat.le_of_ble_eq_true rfl, Nat.le_of_ble_eq_true rfl⟩) hK hN hM hP hD hS hA [0, 1] rfl rfl rfl rfl rfl rfl hl.1 rfl (Nat.le_of_ble_eq_true rfl) dL_holds_440 ⟨Nat.zero_le _, Nat.zero_le _⟩ (fun H locs hP hD hS => ?_)
                          refine lv_aload_n hx hb dL_holds_443 rfl (lv_at hl 8 rfl) ?_
                          refine lv_iload hx hb dL_holds_444 (lv_at hl 1 rfl) ?_
                          refine fr_Vi (As := [.int (nI (k7))]) (rest := [.int (nI ((carC ν jw)))]) (fs' := [stW T (AD 0) ν, [(((AD 8) 0), .inr (5, [.ref ((AD 0) 0), .ref ((AD 1) 0), .ref ((AD 8) 1), .ref ((AD 9) 0), .ref ((AD 7) 0)]))]]) (ci := 5) (q0 := (RX5, TX5, 5)) (i0 := 1) ⟨hx, hb, hml, hown, hts⟩ (kX5_carriers_n l D T Z AD ν k7 Hi.hi (by omega)) (cwV 1 hts gL_holds_X5_carriers rfl rfl rfl (by decide +kernel) ⟨Nat.le_of_ble_eq_true rfl, Nat.le_of_ble_eq_true rfl⟩) hK hN hM hP hD hS hA [0, 1] rfl rfl rfl rfl rfl rfl hl.1 rfl (Nat.le_of_ble_eq_true rfl) dL_holds_446 ⟨Nat.zero_le _, Nat.zero_le _⟩ (fun H locs hP hD hS => ?_)
                          refine fr_icmp_lt ((carC ν jw)) ((carC ν k7)) (by omega) (by omega) (tgt := 456) hx hb dL_holds_449 (by decide) (fun c_12 => ?_) (fun c_12 => ?_)
                          · exact absurd c_12 (by omega)
                          · have c_12' := Nat.not_lt.mpr c_12
                            refine lv_iconst (v := nI 1) hx hb dL_holds_452 (by decide) ?_
                            refine lv_goto (tgt := 457) hx hb dL_holds_453 (by decide) ?_
                            refine lv_istore (lv' := [(6, .int (nI 1)), (1, .int (nI (((sumC (carC ν) k7) + (carC ν k7))))), (8, .int (nI (k7))), (7, .int (widC ν)), (3, .int (nI ((cntP (ν 1) 0 32)))), (5, .int (nI ((cntH ν 0 32)))), (4, .int (arN ν 16)), (2, .int (nI (((cntP (ν 1) 0 32) + (cntP (ν 7) 0 16))))), (0, .ref ((AD 8) 0))]) hx hb dL_holds_457 hl (by decide) rfl (fun ls hl => ?_)
                            refine fr_iinc (k7) ((k7 + 1)) (nI_inc _) (lv' := [(8, .int (nI ((k7 + 1)))), (6, .int (nI 1)), (1, .int (nI (((sumC (carC ν) k7) + (carC ν k7))))), (7, .int (widC ν)), (3, .int (nI ((cntP (ν 1) 0 32)))), (5, .int (nI ((cntH ν 0 32)))), (4, .int (arN ν 16)), (2, .int (nI (((cntP (ν 1) 0 32) + (cntP (ν 7) 0 16))))), (0, .ref ((AD 8) 0))]) (k := 2) hx hb dL_holds_459 hl rfl (by decide) rfl (fun ls hl => ?_)
                            refine lv_goto (tgt := 367) hx hb dL_holds_462 (by decide) ?_
                            have q_13 : (nI (((sumC (carC ν) k7) + (carC ν k7))) : Int32) = nI ((sumC (carC ν) (k7 + 1))) := rfl
                            have hl : lv_has ls 9 [(8, .int (nI ((k7 + 1)))), (6, .int (nI 1)), (1, .int (nI ((sumC (carC ν) (k7 + 1))))), (7, .int (widC ν)), (3, .int (nI ((cntP (ν 1) 0 32)))), (5, .int (nI ((cntH ν 0 32)))), (4, .int (arN ν 16)), (2, .int (nI (((cntP (ν 1) 0 32) + (cntP (ν 7) 0 16))))), (0, .ref ((AD 8) 0))] := by rw [← q_13]; exact hl
                            exact ih ((k7 + 1)) (by omega) (by omega) H locs hP hD hS ls (lv_sub hl [0, 3, 4, 1, 5, 6, 7, 2, 8] rfl)
                      · exact absurd c_10 (by omega)
                    · have eC : carC ν k7 = 0 := (far_all Hi (by have := Hi.hi.2; omega)).mp c_9
                      refine lv_iconst (v := nI 1) hx hb dL_holds_401 (by decide) ?_
                      refine lv_goto (tgt := 406) hx hb dL_holds_402 (by decide) ?_
                      refine lv_aload_n hx hb dL_holds_406 rfl (lv_at hl 8 rfl) ?_
                      refine lv_iload hx hb dL_holds_407 (lv_at hl 1 rfl) ?_
                      refine fr_Vi (As := [.int (nI (k7))]) (rest := [.int (nI 1)]) (fs' := [stW T (AD 0) ν, [(((AD 8) 0), .inr (5, [.ref ((AD 0) 0), .ref ((AD 1) 0), .ref ((AD 8) 1), .ref ((AD 9) 0), .ref ((AD 7) 0)]))]]) (ci := 5) (q0 := (RX5, TX5, 5)) (i0 := 1) ⟨hx, hb, hml, hown, hts⟩ (kX5_carriers_n l D T Z AD ν k7 Hi.hi (by omega)) (cwV 1 hts gL_holds_X5_carriers rfl rfl rfl (by decide +kernel) ⟨Nat.le_of_ble_eq_true rfl, Nat.le_of_ble_eq_true rfl⟩) hK hN hM hP hD hS hA [0, 1] rfl rfl rfl rfl rfl rfl hl.1 rfl (Nat.le_of_ble_eq_true rfl) dL_holds_409 ⟨Nat.zero_le _, Nat.zero_le _⟩ (fun H locs hP hD hS => ?_)
                      refine fr_if_ne ((carC ν k7)) (by omega) (tgt := 419) hx hb dL_holds_412 (by decide) (fun c_14 => ?_) (fun c_14 => ?_)
                      · exact absurd c_14 (by omega)
                      · refine lv_iconst (v := nI 1) hx hb dL_holds_415 (by decide) ?_
                        refine lv_goto (tgt := 420) hx hb dL_holds_416 (by decide) ?_
                        refine fr_icmp_ne 1 1 (by decide) (by decide) (tgt := 456) hx hb dL_holds_420 (by decide) (fun z => absurd z (by decide)) (fun _ => ?_)
                        refine lv_aload_n hx hb dL_holds_423 rfl (lv_at hl 8 rfl) ?_
                        refine lv_iload hx hb dL_holds_424 (lv_at hl 1 rfl) ?_
                        refine fr_Vi (As := [.int (nI (k7))]) (rest := []) (fs' := [stW T (AD 0) ν, [(((AD 8) 0), .inr (5, [.ref ((AD 0) 0), .ref ((AD 1) 0), .ref ((AD 8) 1), .ref ((AD 9) 0), .ref ((AD 7) 0)]))]]) (ci := 5) (q0 := (RX5, TX5, 5)) (i0 := 1) ⟨hx, hb, hml, hown, hts⟩ (kX5_carriers_n l D T Z AD ν k7 Hi.hi (by omega)) (cwV 1 hts gL_holds_X5_carriers rfl rfl rfl (by decide +kernel) ⟨Nat.le_of_ble_eq_true rfl, Nat.le_of_ble_eq_true rfl⟩) hK hN hM hP hD hS hA [0, 1] rfl rfl rfl rfl rfl rfl hl.1 rfl (Nat.le_of_ble_eq_true rfl) dL_holds_426 ⟨Nat.zero_le _, Nat.zero_le _⟩ (fun H locs hP hD hS => ?_)
                        refine fr_if_eq ((carC ν k7)) (by omega) (tgt := 452) hx hb dL_holds_429 (by decide) (fun c_15 => ?_) (fun c_15 => ?_)
                        · refine lv_iconst (v := nI 1) hx hb dL_holds_452 (by decide) ?_
                          refine lv_goto (tgt := 457) hx hb dL_holds_453 (by decide) ?_
                          refine lv_istore (lv' := [(6, .int (nI 1)), (1, .int (nI (((sumC (carC ν) k7) + (carC ν k7))))), (8, .int (nI (k7))), (7, .int (widC ν)), (3, .int (nI ((cntP (ν 1) 0 32)))), (5, .int (nI ((cntH ν 0 32)))), (4, .int (arN ν 16)), (2, .int (nI (((cntP (ν 1) 0 32) + (cntP (ν 7) 0 16))))), (0, .ref ((AD 8) 0))]) hx hb dL_holds_457 hl (by decide) rfl (fun ls hl => ?_)
                          refine fr_iinc (k7) ((k7 + 1)) (nI_inc _) (lv' := [(8, .int (nI ((k7 + 1)))), (6, .int (nI 1)), (1, .int (nI (((sumC (carC ν) k7) + (carC ν k7))))), (7, .int (widC ν)), (3, .int (nI ((cntP (ν 1) 0 32)))), (5, .int (nI ((cntH ν 0 32)))), (4, .int (arN ν 16)), (2, .int (nI (((cntP (ν 1) 0 32) + (cntP (ν 7) 0 16))))), (0, .ref ((AD 8) 0))]) (k := 2) hx hb dL_holds_459 hl rfl (by decide) rfl (fun ls hl => ?_)
                          refine lv_goto (tgt := 367) hx hb dL_holds_462 (by decide) ?_
                          have q_16 : (nI (((sumC (carC ν) k7) + (carC ν k7))) : Int32) = nI ((sumC (carC ν) (k7 + 1))) := rfl
                          have hl : lv_has ls 9 [(8, .int (nI ((k7 + 1)))), (6, .int (nI 1)), (1, .int (nI ((sumC (carC ν) (k7 + 1))))), (7, .int (widC ν)), (3, .int (nI ((cntP (ν 1) 0 32)))), (5, .int (nI ((cntH ν 0 32)))), (4, .int (arN ν 16)), (2, .int (nI (((cntP (ν 1) 0 32) + (cntP (ν 7) 0 16))))), (0, .ref ((AD 8) 0))] := by rw [← q_16]; exact hl
                          exact ih ((k7 + 1)) (by omega) (by omega) H locs hP hD hS ls (lv_sub hl [0, 3, 4, 1, 5, 6, 7, 2, 8] rfl)
                        · exact absurd c_15 (by omega)
              have q_17 : (nI 0 : Int32) = nI ((sumC (carC ν) 0)) := rfl
              have hl : lv_has ls 9 [(8, .int (nI 0)), (7, .int (widC ν)), (3, .int (nI ((cntP (ν 1) 0 32)))), (6, .int (nI 1)), (5, .int (nI ((cntH ν 0 32)))), (4, .int (arN ν 16)), (2, .int (nI (((cntP (ν 1) 0 32) + (cntP (ν 7) 0 16))))), (1, .int (nI ((sumC (carC ν) 0)))), (0, .ref ((AD 8) 0))] := by rw [← q_17]; exact hl
              exact loop367 ((tn (ν 15 0)) + 1) (0) (by omega) (by omega) _ _ hP hD hS ls (lv_sub hl [0, 1, 2, 3, 4, 5, 6, 7, 8] rfl)
            · have c_2' := Nat.not_le.mpr c_2
              have hV := (Hi.r (k := k8) (by omega)).1.2
              refine lv_aload_n hx hb dL_holds_189 rfl (lv_at hl 7 rfl) ?_
              refine lv_iload hx hb dL_holds_190 (lv_at hl 0 rfl) ?_
              refine lv_iconst (v := nI 4) hx hb dL_holds_192 (by decide) ?_
              refine fr_idiv (k8) (4) (by omega) (by omega) (by omega) hx hb dL_holds_193 ?_
              refine lv_iload hx hb dL_holds_194 (lv_at hl 0 rfl) ?_
              refine lv_iconst (v := nI 4) hx hb dL_holds_196 (by decide) ?_
              refine fr_irem (k8) (4) (by omega) (by omega) (by omega) hx hb dL_holds_197 ?_
              refine fr_Vi (As := [.int (nI ((k8 / 4))), .int (nI ((k8 % 4)))]) (rest := []) (fs' := [stW T (AD 0) ν, [(((AD 8) 0), .inr (5, [.ref ((AD 0) 0), .ref ((AD 1) 0), .ref ((AD 8) 1), .ref ((AD 9) 0), .ref ((AD 7) 0)]))]]) (ci := 5) (q0 := (RX5, TX5, 5)) (i0 := 1) ⟨hx, hb, hml, hown, hts⟩ (kX5_registerOrigin_n l D T Z AD ν (k8 / 4) (k8 % 4) (by omega) (by omega)) (cwV 2 hts gL_holds_X5_registerOrigin rfl rfl rfl (by decide +kernel) ⟨Nat.le_of_ble_eq_true rfl, Nat.le_of_ble_eq_true rfl⟩) hK hN hM hP hD hS hA [0, 1] rfl rfl rfl rfl rfl rfl hl.1 rfl (Nat.le_of_ble_eq_true rfl) dL_holds_198 ⟨Nat.zero_le _, Nat.zero_le _⟩ (fun H locs hP hD hS => ?_)
              refine fr_val (show ν 7 ((k8 / 4) * 4 + (k8 % 4)) = ν 7 k8 from by rw [show k8 / 4 * 4 + k8 % 4 = k8 from by omega]) ?_
              refine lv_bipush (v := (-6)) hx hb dL_holds_201 (by decide) ?_
              refine lv_icmp_eq (tgt := 210) hx hb dL_holds_203 (by decide) (fun c_18 => ?_) (fun c_18 => ?_)
              · have eP := ps_no c_18
                refine lv_iconst (v := nI 0) hx hb dL_holds_210 (by decide) ?_
                refine lv_istore (lv' := [(8, .int (nI 0)), (7, .int (nI (k8))), (3, .int (nI ((cntP (ν 1) 0 32)))), (6, .int (nI 1)), (5, .int (nI ((cntH ν 0 32)))), (4, .int (arN ν k8)), (2, .int (nI (((cntP (ν 1) 0 32) + (cntP (ν 7) 0 k8))))), (1, .int (nI 0)), (0, .ref ((AD 8) 0))]) hx hb dL_holds_211 hl (by decide) rfl (fun ls hl => ?_)
                refine lv_iload hx hb dL_holds_213 (lv_at hl 3 rfl) ?_
                refine lv_if_eq (tgt := 305) hx hb dL_holds_215 (by decide) (fun z => absurd z (by decide)) (fun _ => ?_)
                refine lv_aload_n hx hb dL_holds_218 rfl (lv_at hl 8 rfl) ?_
                refine lv_iload hx hb dL_holds_219 (lv_at hl 1 rfl) ?_
                refine lv_iconst (v := nI 4) hx hb dL_holds_221 (by decide) ?_
                refine fr_idiv (k8) (4) (by omega) (by omega) (by omega) hx hb dL_holds_222 ?_
                refine lv_iload hx hb dL_holds_223 (lv_at hl 1 rfl) ?_
                refine lv_iconst (v := nI 4) hx hb dL_holds_225 (by decide) ?_
                refine fr_irem (k8) (4) (by omega) (by omega) (by omega) hx hb dL_holds_226 ?_
                refine fr_Vi (As := [.int (nI ((k8 / 4))), .int (nI ((k8 % 4)))]) (rest := []) (fs' := [stW T (AD 0) ν, [(((AD 8) 0), .inr (5, [.ref ((AD 0) 0), .ref ((AD 1) 0), .ref ((AD 8) 1), .ref ((AD 9) 0), .ref ((AD 7) 0)]))]]) (ci := 5) (q0 := (RX5, TX5, 5)) (i0 := 1) ⟨hx, hb, hml, hown, hts⟩ (kX5_register_n l D T Z AD ν (k8 / 4) (k8 % 4) (by omega) (by omega)) (cwV 2 hts gL_holds_X5_register rfl rfl rfl (by decide +kernel) ⟨Nat.le_of_ble_eq_true rfl, Nat.le_of_ble_eq_true rfl⟩) hK hN hM hP hD hS hA [0, 1] rfl rfl rfl rfl rfl rfl hl.1 rfl (Nat.le_of_ble_eq_true rfl) dL_holds_227 ⟨Nat.zero_le _, Nat.zero_le _⟩ (fun H locs hP hD hS => ?_)
                refine fr_val (show ν 6 ((k8 / 4) * 4 + (k8 % 4)) = nI (tn (ν 6 k8)) from by rw [show k8 / 4 * 4 + k8 % 4 = k8 from by omega]; exact (Hi.r (k := k8) (by omega)).1.1) ?_
                refine lv_if_lt (tgt := 305) hx hb dL_holds_230 (by decide) (fun z => absurd z (nI_pos (by omega))) (fun _ => ?_)
                refine lv_aload_n hx hb dL_holds_233 rfl (lv_at hl 8 rfl) ?_
                refine lv_iload hx hb dL_holds_234 (lv_at hl 1 rfl) ?_
                refine lv_iconst (v := nI 4) hx hb dL_holds_236 (by decide) ?_
                refine fr_idiv (k8) (4) (by omega) (by omega) (by omega) hx hb dL_holds_237 ?_
                refine lv_iload hx hb dL_holds_238 (lv_at hl 1 rfl) ?_
                refine lv_iconst (v := nI 4) hx hb dL_holds_240 (by decide) ?_
                refine fr_irem (k8) (4) (by omega) (by omega) (by omega) hx hb dL_holds_241 ?_
                refine fr_Vi (As := [.int (nI ((k8 / 4))), .int (nI ((k8 % 4)))]) (rest := []) (fs' := [stW T (AD 0) ν, [(((AD 8) 0), .inr (5, [.ref ((AD 0) 0), .ref ((AD 1) 0), .ref ((AD 8) 1), .ref ((AD 9) 0), .ref ((AD 7) 0)]))]]) (ci := 5) (q0 := (RX5, TX5, 5)) (i0 := 1) ⟨hx, hb, hml, hown, hts⟩ (kX5_register_n l D T Z AD ν (k8 / 4) (k8 % 4) (by omega) (by omega)) (cwV 2 hts gL_holds_X5_register rfl rfl rfl (by decide +kernel) ⟨Nat.le_of_ble_eq_true rfl, Nat.le_of_ble_eq_true rfl⟩) hK hN hM hP hD hS hA [0, 1] rfl rfl rfl rfl rfl rfl hl.1 rfl (Nat.le_of_ble_eq_true rfl) dL_holds_242 ⟨Nat.zero_le _, Nat.zero_le _⟩ (fun H locs hP hD hS => ?_)
                refine fr_val (show ν 6 ((k8 / 4) * 4 + (k8 % 4)) = nI (tn (ν 6 k8)) from by rw [show k8 / 4 * 4 + k8 % 4 = k8 from by omega]; exact (Hi.r (k := k8) (by omega)).1.1) ?_
                refine lv_ldc hx hb hown w_118 dL_holds_245 ?_
                refine fr_val (show (65535 : Int32) = nI 65535 from rfl) ?_
                refine fr_icmp_gt ((tn (ν 6 k8))) (65535) (by omega) (by decide) (tgt := 305) hx hb dL_holds_247 (by decide) (fun c_19 => ?_) (fun c_19 => ?_)
                · exact absurd c_19 (by omega)
                · have c_19' := Nat.not_lt.mpr c_19
                  refine lv_aload_n hx hb dL_holds_250 rfl (lv_at hl 8 rfl) ?_
                  refine lv_aload_n hx hb dL_holds_251 rfl (lv_at hl 8 rfl) ?_
                  refine lv_iload hx hb dL_holds_252 (lv_at hl 1 rfl) ?_
                  refine lv_iconst (v := nI 4) hx hb dL_holds_254 (by decide) ?_
                  refine fr_idiv (k8) (4) (by omega) (by omega) (by omega) hx hb dL_holds_255 ?_
                  refine lv_iload hx hb dL_holds_256 (lv_at hl 1 rfl) ?_
                  refine lv_iconst (v := nI 4) hx hb dL_holds_258 (by decide) ?_
                  refine fr_irem (k8) (4) (by omega) (by omega) (by omega) hx hb dL_holds_259 ?_
                  refine fr_Vi (As := [.int (nI ((k8 / 4))), .int (nI ((k8 % 4)))]) (rest := [.ref ((AD 8) 0)]) (fs' := [stW T (AD 0) ν, [(((AD 8) 0), .inr (5, [.ref ((AD 0) 0), .ref ((AD 1) 0), .ref ((AD 8) 1), .ref ((AD 9) 0), .ref ((AD 7) 0)]))]]) (ci := 5) (q0 := (RX5, TX5, 5)) (i0 := 1) ⟨hx, hb, hml, hown, hts⟩ (kX5_registerOrigin_n l D T Z AD ν (k8 / 4) (k8 % 4) (by omega) (by omega)) (cwV 2 hts gL_holds_X5_registerOrigin rfl rfl rfl (by decide +kernel) ⟨Nat.le_of_ble_eq_true rfl, Nat.le_of_ble_eq_true rfl⟩) hK hN hM hP hD hS hA [0, 1] rfl rfl rfl rfl rfl rfl hl.1 rfl (Nat.le_of_ble_eq_true rfl) dL_holds_260 ⟨Nat.zero_le _, Nat.zero_le _⟩ (fun H locs hP hD hS => ?_)
                  refine fr_val (show ν 7 ((k8 / 4) * 4 + (k8 % 4)) = ν 7 k8 from by rw [show k8 / 4 * 4 + k8 % 4 = k8 from by omega]) ?_
                  refine lv_aload_n hx hb dL_holds_263 rfl (lv_at hl 8 rfl) ?_
                  refine lv_iload hx hb dL_holds_264 (lv_at hl 1 rfl) ?_
                  refine lv_iconst (v := nI 4) hx hb dL_holds_266 (by decide) ?_
                  refine fr_idiv (k8) (4) (by omega) (by omega) (by omega) hx hb dL_holds_267 ?_
                  refine lv_iload hx hb dL_holds_268 (lv_at hl 1 rfl) ?_
                  refine lv_iconst (v := nI 4) hx hb dL_holds_270 (by decide) ?_
                  refine fr_irem (k8) (4) (by omega) (by omega) (by omega) hx hb dL_holds_271 ?_
                  refine fr_Vi (As := [.int (nI ((k8 / 4))), .int (nI ((k8 % 4)))]) (rest := [.int (ν 7 k8), .ref ((AD 8) 0)]) (fs' := [stW T (AD 0) ν, [(((AD 8) 0), .inr (5, [.ref ((AD 0) 0), .ref ((AD 1) 0), .ref ((AD 8) 1), .ref ((AD 9) 0), .ref ((AD 7) 0)]))]]) (ci := 5) (q0 := (RX5, TX5, 5)) (i0 := 1) ⟨hx, hb, hml, hown, hts⟩ (kX5_registerHops_n l D T Z AD ν (k8 / 4) (k8 % 4) (by omega) (by omega)) (cwV 2 hts gL_holds_X5_registerHops rfl rfl rfl (by decide +kernel) ⟨Nat.le_of_ble_eq_true rfl, Nat.le_of_ble_eq_true rfl⟩) hK hN hM hP hD hS hA [0, 1] rfl rfl rfl rfl rfl rfl hl.1 rfl (Nat.le_of_ble_eq_true rfl) dL_holds_272 ⟨Nat.zero_le _, Nat.zero_le _⟩ (fun H locs hP hD hS => ?_)
                  refine fr_val (show ν 8 ((k8 / 4) * 4 + (k8 % 4)) = ν 8 k8 from by rw [show k8 / 4 * 4 + k8 % 4 = k8 from by omega]) ?_
                  refine fr_Si (As := [.ref ((AD 8) 0), .int (ν 7 k8), .int (ν 8 k8)]) (rest := []) (fs' := [stW T (AD 0) ν, [(((AD 8) 0), .inr (5, [.ref ((AD 0) 0), .ref ((AD 1) 0), .ref ((AD 8) 1), .ref ((AD 9) 0), .ref ((AD 7) 0)]))]]) ⟨hx, hb, hml, hown, hts⟩ (kL_isMark l D T Z AD ν (ν 7 k8) (ν 8 k8)) (va_cwS 3 hts gL_holds_L_isMark rfl rfl rfl (by decide +kernel) ⟨Nat.le_of_ble_eq_true rfl, Nat.le_of_ble_eq_true rfl⟩) hK hN hM hP hD hS hA [0, 1] rfl rfl rfl rfl hl.1 rfl (Nat.le_of_ble_eq_true rfl) dL_holds_275 ⟨Nat.zero_le _, Nat.zero_le _⟩ (fun H locs hP hD hS => ?_)
                  refine fr_val (congrArg bI (mkB_t Hi.hi (Hi.r (k := k8) (by omega)).2)) ?_
                  refine fr_ifeq_b (tgt := 305) hx hb dL_holds_278 (by decide) (fun z => absurd z (by decide)) (fun _ => ?_)
                  refine lv_iload hx hb dL_holds_281 (lv_at hl 0 rfl) ?_
                  refine lv_if_eq (tgt := 301) hx hb dL_holds_283 (by decide) (fun _ => ?_) (fun z => absurd (by decide) z)
                  refine lv_iconst (v := nI 1) hx hb dL_holds_301 (by decide) ?_
                  refine lv_goto (tgt := 306) hx hb dL_holds_302 (by decide) ?_
                  refine lv_istore (lv' := [(6, .int (nI 1)), (8, .int (nI 0)), (7, .int (nI (k8))), (3, .int (nI ((cntP (ν 1) 0 32)))), (5, .int (nI ((cntH ν 0 32)))), (4, .int (arN ν k8)), (2, .int (nI (((cntP (ν 1) 0 32) + (cntP (ν 7) 0 k8))))), (1, .int (nI 0)), (0, .ref ((AD 8) 0))]) hx hb dL_holds_306 hl (by decide) rfl (fun ls hl => ?_)
                  refine lv_iload_n hx hb dL_holds_308 rfl (lv_at hl 6 rfl) ?_
                  refine lv_iload hx hb dL_holds_309 (lv_at hl 1 rfl) ?_
                  refine lv_if_eq (tgt := 318) hx hb dL_holds_311 (by decide) (fun _ => ?_) (fun z => absurd (by decide) z)
                  refine lv_iconst (v := nI 0) hx hb dL_holds_318 (by decide) ?_
                  refine fr_iadd (((cntP (ν 1) 0 32) + (cntP (ν 7) 0 k8))) (0) hx hb dL_holds_319 ?_
                  refine lv_istore_n (lv' := [(2, .int (nI ((((cntP (ν 1) 0 32) + (cntP (ν 7) 0 k8)) + 0)))), (6, .int (nI 1)), (8, .int (nI 0)), (7, .int (nI (k8))), (3, .int (nI ((cntP (ν 1) 0 32)))), (5, .int (nI ((cntH ν 0 32)))), (4, .int (arN ν k8)), (1, .int (nI 0)), (0, .ref ((AD 8) 0))]) hx hb dL_holds_320 rfl hl (by decide) rfl (fun ls hl => ?_)
                  refine lv_iload hx hb dL_holds_321 (lv_at hl 6 rfl) ?_
                  refine lv_iload hx hb dL_holds_323 (lv_at hl 2 rfl) ?_
                  refine lv_if_eq (tgt := 348) hx hb dL_holds_325 (by decide) (fun _ => ?_) (fun z => absurd (by decide) z)
                  refine lv_iconst (v := nI 0) hx hb dL_holds_348 (by decide) ?_
                  refine lv_ior hx hb dL_holds_349 ?_
                  refine lv_istore (lv' := [(4, .int ((arN ν k8) ||| (nI 0))), (2, .int (nI ((((cntP (ν 1) 0 32) + (cntP (ν 7) 0 k8)) + 0)))), (6, .int (nI 1)), (8, .int (nI 0)), (7, .int (nI (k8))), (3, .int (nI ((cntP (ν 1) 0 32)))), (5, .int (nI ((cntH ν 0 32)))), (1, .int (nI 0)), (0, .ref ((AD 8) 0))]) hx hb dL_holds_350 hl (by decide) rfl (fun ls hl => ?_)
                  refine fr_iinc (k8) ((k8 + 1)) (nI_inc _) (lv' := [(7, .int (nI ((k8 + 1)))), (4, .int ((arN ν k8) ||| (nI 0))), (2, .int (nI ((((cntP (ν 1) 0 32) + (cntP (ν 7) 0 k8)) + 0)))), (6, .int (nI 1)), (8, .int (nI 0)), (3, .int (nI ((cntP (ν 1) 0 32)))), (5, .int (nI ((cntH ν 0 32)))), (1, .int (nI 0)), (0, .ref ((AD 8) 0))]) (k := 4) hx hb dL_holds_352 hl rfl (by decide) rfl (fun ls hl => ?_)
                  refine lv_goto (tgt := 182) hx hb dL_holds_355 (by decide) ?_
                  have q_20 : ((arN ν k8) ||| (nI 0) : Int32) = arN ν (k8 + 1) := (by first | rfl | first | exact congrArg nI (by rw [cntP_t eP]; omega) | exact congrArg nI (by rw [cntP_f eP]; omega) | exact (arN_t eS eP).symm | exact (arN_p eP).symm | exact (arN_s eS).symm)
                  have q_21 : (nI ((((cntP (ν 1) 0 32) + (cntP (ν 7) 0 k8)) + 0)) : Int32) = nI (((cntP (ν 1) 0 32) + (cntP (ν 7) 0 (k8 + 1)))) := (by first | rfl | first | exact congrArg nI (by rw [cntP_t eP]; omega) | exact congrArg nI (by rw [cntP_f eP]; omega) | exact (arN_t eS eP).symm | exact (arN_p eP).symm | exact (arN_s eS).symm)
                  have hl : lv_has ls 9 [(7, .int (nI ((k8 + 1)))), (4, .int (arN ν (k8 + 1))), (2, .int (nI (((cntP (ν 1) 0 32) + (cntP (ν 7) 0 (k8 + 1)))))), (6, .int (nI 1)), (8, .int (nI 0)), (3, .int (nI ((cntP (ν 1) 0 32)))), (5, .int (nI ((cntH ν 0 32)))), (1, .int (nI 0)), (0, .ref ((AD 8) 0))] := by rw [← q_20, ← q_21]; exact hl
                  exact ih ((k8 + 1)) (by omega) (by omega) H locs hP hD hS ls (lv_sub hl [0, 5, 3, 6, 1, 2, 7, 8] rfl)
              · have eP := ps_of c_18
                have hho := mk_hop Hi (k := k8) (by omega) c_18
                have hho2 := hho.2.1
                have hho3 := hho.2.2
                refine lv_iconst (v := nI 1) hx hb dL_holds_206 (by decide) ?_
                refine lv_goto (tgt := 211) hx hb dL_holds_207 (by decide) ?_
                refine lv_istore (lv' := [(8, .int (nI 1)), (7, .int (nI (k8))), (3, .int (nI ((cntP (ν 1) 0 32)))), (6, .int (nI 1)), (5, .int (nI ((cntH ν 0 32)))), (4, .int (arN ν k8)), (2, .int (nI (((cntP (ν 1) 0 32) + (cntP (ν 7) 0 k8))))), (1, .int (nI 0)), (0, .ref ((AD 8) 0))]) hx hb dL_holds_211 hl (by decide) rfl (fun ls hl => ?_)
                refine lv_iload hx hb dL_holds_213 (lv_at hl 3 rfl) ?_
                refine lv_if_eq (tgt := 305) hx hb dL_holds_215 (by decide) (fun z => absurd z (by decide)) (fun _ => ?_)
                refine lv_aload_n hx hb dL_holds_218 rfl (lv_at hl 8 rfl) ?_
                refine lv_iload hx hb dL_holds_219 (lv_at hl 1 rfl) ?_
                refine lv_iconst (v := nI 4) hx hb dL_holds_221 (by decide) ?_
                refine fr_idiv (k8) (4) (by omega) (by omega) (by omega) hx hb dL_holds_222 ?_
                refine lv_iload hx hb dL_holds_223 (lv_at hl 1 rfl) ?_
                refine lv_iconst (v := nI 4) hx hb dL_holds_225 (by decide) ?_
                refine fr_irem (k8) (4) (by omega) (by omega) (by omega) hx hb dL_holds_226 ?_
                refine fr_Vi (As := [.int (nI ((k8 / 4))), .int (nI ((k8 % 4)))]) (rest := []) (fs' := [stW T (AD 0) ν, [(((AD 8) 0), .inr (5, [.ref ((AD 0) 0), .ref ((AD 1) 0), .ref ((AD 8) 1), .ref ((AD 9) 0), .ref ((AD 7) 0)]))]]) (ci := 5) (q0 := (RX5, TX5, 5)) (i0 := 1) ⟨hx, hb, hml, hown, hts⟩ (kX5_register_n l D T Z AD ν (k8 / 4) (k8 % 4) (by omega) (by omega)) (cwV 2 hts gL_holds_X5_register rfl rfl rfl (by decide +kernel) ⟨Nat.le_of_ble_eq_true rfl, Nat.le_of_ble_eq_true rfl⟩) hK hN hM hP hD hS hA [0, 1] rfl rfl rfl rfl rfl rfl hl.1 rfl (Nat.le_of_ble_eq_true rfl) dL_holds_227 ⟨Nat.zero_le _, Nat.zero_le _⟩ (fun H locs hP hD hS => ?_)
                refine fr_val (show ν 6 ((k8 / 4) * 4 + (k8 % 4)) = nI (tn (ν 6 k8)) from by rw [show k8 / 4 * 4 + k8 % 4 = k8 from by omega]; exact (Hi.r (k := k8) (by omega)).1.1) ?_
                refine lv_if_lt (tgt := 305) hx hb dL_holds_230 (by decide) (fun z => absurd z (nI_pos (by omega))) (fun _ => ?_)
                refine lv_aload_n hx hb dL_holds_233 rfl (lv_at hl 8 rfl) ?_
                refine lv_iload hx hb dL_holds_234 (lv_at hl 1 rfl) ?_
                refine lv_iconst (v := nI 4) hx hb dL_holds_236 (by decide) ?_
                refine fr_idiv (k8) (4) (by omega) (by omega) (by omega) hx hb dL_holds_237 ?_
                refine lv_iload hx hb dL_holds_238 (lv_at hl 1 rfl) ?_
                refine lv_iconst (v := nI 4) hx hb dL_holds_240 (by decide) ?_
                refine fr_irem (k8) (4) (by omega) (by omega) (by omega) hx hb dL_holds_241 ?_
                refine fr_Vi (As := [.int (nI ((k8 / 4))), .int (nI ((k8 % 4)))]) (rest := []) (fs' := [stW T (AD 0) ν, [(((AD 8) 0), .inr (5, [.ref ((AD 0) 0), .ref ((AD 1) 0), .ref ((AD 8) 1), .ref ((AD 9) 0), .ref ((AD 7) 0)]))]]) (ci := 5) (q0 := (RX5, TX5, 5)) (i0 := 1) ⟨hx, hb, hml, hown, hts⟩ (kX5_register_n l D T Z AD ν (k8 / 4) (k8 % 4) (by omega) (by omega)) (cwV 2 hts gL_holds_X5_register rfl rfl rfl (by decide +kernel) ⟨Nat.le_of_ble_eq_true rfl, Nat.le_of_ble_eq_true rfl⟩) hK hN hM hP hD hS hA [0, 1] rfl rfl rfl rfl rfl rfl hl.1 rfl (Nat.le_of_ble_eq_true rfl) dL_holds_242 ⟨Nat.zero_le _, Nat.zero_le _⟩ (fun H locs hP hD hS => ?_)
                refine fr_val (show ν 6 ((k8 / 4) * 4 + (k8 % 4)) = nI (tn (ν 6 k8)) from by rw [show k8 / 4 * 4 + k8 % 4 = k8 from by omega]; exact (Hi.r (k := k8) (by omega)).1.1) ?_
                refine lv_ldc hx hb hown w_118 dL_holds_245 ?_
                refine fr_val (show (65535 : Int32) = nI 65535 from rfl) ?_
                refine fr_icmp_gt ((tn (ν 6 k8))) (65535) (by omega) (by decide) (tgt := 305) hx hb dL_holds_247 (by decide) (fun c_22 => ?_) (fun c_22 => ?_)
                · exact absurd c_22 (by omega)
                · have c_22' := Nat.not_lt.mpr c_22
                  refine lv_aload_n hx hb dL_holds_250 rfl (lv_at hl 8 rfl) ?_
                  refine lv_aload_n hx hb dL_holds_251 rfl (lv_at hl 8 rfl) ?_
                  refine lv_iload hx hb dL_holds_252 (lv_at hl 1 rfl) ?_
                  refine lv_iconst (v := nI 4) hx hb dL_holds_254 (by decide) ?_
                  refine fr_idiv (k8) (4) (by omega) (by omega) (by omega) hx hb dL_holds_255 ?_
                  refine lv_iload hx hb dL_holds_256 (lv_at hl 1 rfl) ?_
                  refine lv_iconst (v := nI 4) hx hb dL_holds_258 (by decide) ?_
                  refine fr_irem (k8) (4) (by omega) (by omega) (by omega) hx hb dL_holds_259 ?_
                  refine fr_Vi (As := [.int (nI ((k8 / 4))), .int (nI ((k8 % 4)))]) (rest := [.ref ((AD 8) 0)]) (fs' := [stW T (AD 0) ν, [(((AD 8) 0), .inr (5, [.ref ((AD 0) 0), .ref ((AD 1) 0), .ref ((AD 8) 1), .ref ((AD 9) 0), .ref ((AD 7) 0)]))]]) (ci := 5) (q0 := (RX5, TX5, 5)) (i0 := 1) ⟨hx, hb, hml, hown, hts⟩ (kX5_registerOrigin_n l D T Z AD ν (k8 / 4) (k8 % 4) (by omega) (by omega)) (cwV 2 hts gL_holds_X5_registerOrigin rfl rfl rfl (by decide +kernel) ⟨Nat.le_of_ble_eq_true rfl, Nat.le_of_ble_eq_true rfl⟩) hK hN hM hP hD hS hA [0, 1] rfl rfl rfl rfl rfl rfl hl.1 rfl (Nat.le_of_ble_eq_true rfl) dL_holds_260 ⟨Nat.zero_le _, Nat.zero_le _⟩ (fun H locs hP hD hS => ?_)
                  refine fr_val (show ν 7 ((k8 / 4) * 4 + (k8 % 4)) = ν 7 k8 from by rw [show k8 / 4 * 4 + k8 % 4 = k8 from by omega]) ?_
                  refine lv_aload_n hx hb dL_holds_263 rfl (lv_at hl 8 rfl) ?_
                  refine lv_iload hx hb dL_holds_264 (lv_at hl 1 rfl) ?_
                  refine lv_iconst (v := nI 4) hx hb dL_holds_266 (by decide) ?_
                  refine fr_idiv (k8) (4) (by omega) (by omega) (by omega) hx hb dL_holds_267 ?_
                  refine lv_iload hx hb dL_holds_268 (lv_at hl 1 rfl) ?_
                  refine lv_iconst (v := nI 4) hx hb dL_holds_270 (by decide) ?_
                  refine fr_irem (k8) (4) (by omega) (by omega) (by omega) hx hb dL_holds_271 ?_
                  refine fr_Vi (As := [.int (nI ((k8 / 4))), .int (nI ((k8 % 4)))]) (rest := [.int (ν 7 k8), .ref ((AD 8) 0)]) (fs' := [stW T (AD 0) ν, [(((AD 8) 0), .inr (5, [.ref ((AD 0) 0), .ref ((AD 1) 0), .ref ((AD 8) 1), .ref ((AD 9) 0), .ref ((AD 7) 0)]))]]) (ci := 5) (q0 := (RX5, TX5, 5)) (i0 := 1) ⟨hx, hb, hml, hown, hts⟩ (kX5_registerHops_n l D T Z AD ν (k8 / 4) (k8 % 4) (by omega) (by omega)) (cwV 2 hts gL_holds_X5_registerHops rfl rfl rfl (by decide +kernel) ⟨Nat.le_of_ble_eq_true rfl, Nat.le_of_ble_eq_true rfl⟩) hK hN hM hP hD hS hA [0, 1] rfl rfl rfl rfl rfl rfl hl.1 rfl (Nat.le_of_ble_eq_true rfl) dL_holds_272 ⟨Nat.zero_le _, Nat.zero_le _⟩ (fun H locs hP hD hS => ?_)
                  refine fr_val (show ν 8 ((k8 / 4) * 4 + (k8 % 4)) = ν 8 k8 from by rw [show k8 / 4 * 4 + k8 % 4 = k8 from by omega]) ?_
                  refine fr_Si (As := [.ref ((AD 8) 0), .int (ν 7 k8), .int (ν 8 k8)]) (rest := []) (fs' := [stW T (AD 0) ν, [(((AD 8) 0), .inr (5, [.ref ((AD 0) 0), .ref ((AD 1) 0), .ref ((AD 8) 1), .ref ((AD 9) 0), .ref ((AD 7) 0)]))]]) ⟨hx, hb, hml, hown, hts⟩ (kL_isMark l D T Z AD ν (ν 7 k8) (ν 8 k8)) (va_cwS 3 hts gL_holds_L_isMark rfl rfl rfl (by decide +kernel) ⟨Nat.le_of_ble_eq_true rfl, Nat.le_of_ble_eq_true rfl⟩) hK hN hM hP hD hS hA [0, 1] rfl rfl rfl rfl hl.1 rfl (Nat.le_of_ble_eq_true rfl) dL_holds_275 ⟨Nat.zero_le _, Nat.zero_le _⟩ (fun H locs hP hD hS => ?_)
                  refine fr_val (congrArg bI (mkB_t Hi.hi (Hi.r (k := k8) (by omega)).2)) ?_
                  refine fr_ifeq_b (tgt := 305) hx hb dL_holds_278 (by decide) (fun z => absurd z (by decide)) (fun _ => ?_)
                  refine lv_iload hx hb dL_holds_281 (lv_at hl 0 rfl) ?_
                  refine lv_if_eq (tgt := 301) hx hb dL_holds_283 (by decide) (fun z => absurd z (by decide)) (fun _ => ?_)
                  refine lv_aload_n hx hb dL_holds_286 rfl (lv_at hl 8 rfl) ?_
                  refine lv_iload hx hb dL_holds_287 (lv_at hl 1 rfl) ?_
                  refine lv_iconst (v := nI 4) hx hb dL_holds_289 (by decide) ?_
                  refine fr_idiv (k8) (4) (by omega) (by omega) (by omega) hx hb dL_holds_290 ?_
                  refine lv_iload hx hb dL_holds_291 (lv_at hl 1 rfl) ?_
                  refine lv_iconst (v := nI 4) hx hb dL_holds_293 (by decide) ?_
                  refine fr_irem (k8) (4) (by omega) (by omega) (by omega) hx hb dL_holds_294 ?_
                  refine fr_Vi (As := [.int (nI ((k8 / 4))), .int (nI ((k8 % 4)))]) (rest := []) (fs' := [stW T (AD 0) ν, [(((AD 8) 0), .inr (5, [.ref ((AD 0) 0), .ref ((AD 1) 0), .ref ((AD 8) 1), .ref ((AD 9) 0), .ref ((AD 7) 0)]))]]) (ci := 5) (q0 := (RX5, TX5, 5)) (i0 := 1) ⟨hx, hb, hml, hown, hts⟩ (kX5_registerHops_n l D T Z AD ν (k8 / 4) (k8 % 4) (by omega) (by omega)) (cwV 2 hts gL_holds_X5_registerHops rfl rfl rfl (by decide +kernel) ⟨Nat.le_of_ble_eq_true rfl, Nat.le_of_ble_eq_true rfl⟩) hK hN hM hP hD hS hA [0, 1] rfl rfl rfl rfl rfl rfl hl.1 rfl (Nat.le_of_ble_eq_true rfl) dL_holds_295 ⟨Nat.zero_le _, Nat.zero_le _⟩ (fun H locs hP hD hS => ?_)
                  refine fr_val (show ν 8 ((k8 / 4) * 4 + (k8 % 4)) = nI (tn (ν 8 k8)) from by rw [show k8 / 4 * 4 + k8 % 4 = k8 from by omega]; exact hho.1) ?_
                  refine fr_if_le ((tn (ν 8 k8))) (by omega) (tgt := 305) hx hb dL_holds_298 (by decide) (fun c_23 => ?_) (fun c_23 => ?_)
                  · exact absurd c_23 (by omega)
                  · refine lv_iconst (v := nI 1) hx hb dL_holds_301 (by decide) ?_
                    refine lv_goto (tgt := 306) hx hb dL_holds_302 (by decide) ?_
                    refine lv_istore (lv' := [(6, .int (nI 1)), (8, .int (nI 1)), (7, .int (nI (k8))), (3, .int (nI ((cntP (ν 1) 0 32)))), (5, .int (nI ((cntH ν 0 32)))), (4, .int (arN ν k8)), (2, .int (nI (((cntP (ν 1) 0 32) + (cntP (ν 7) 0 k8))))), (1, .int (nI 0)), (0, .ref ((AD 8) 0))]) hx hb dL_holds_306 hl (by decide) rfl (fun ls hl => ?_)
                    refine lv_iload_n hx hb dL_holds_308 rfl (lv_at hl 6 rfl) ?_
                    refine lv_iload hx hb dL_holds_309 (lv_at hl 1 rfl) ?_
                    refine lv_if_eq (tgt := 318) hx hb dL_holds_311 (by decide) (fun z => absurd z (by decide)) (fun _ => ?_)
                    refine lv_iconst (v := nI 1) hx hb dL_holds_314 (by decide) ?_
                    refine lv_goto (tgt := 319) hx hb dL_holds_315 (by decide) ?_
                    refine fr_iadd (((cntP (ν 1) 0 32) + (cntP (ν 7) 0 k8))) (1) hx hb dL_holds_319 ?_
                    refine lv_istore_n (lv' := [(2, .int (nI ((((cntP (ν 1) 0 32) + (cntP (ν 7) 0 k8)) + 1)))), (6, .int (nI 1)), (8, .int (nI 1)), (7, .int (nI (k8))), (3, .int (nI ((cntP (ν 1) 0 32)))), (5, .int (nI ((cntH ν 0 32)))), (4, .int (arN ν k8)), (1, .int (nI 0)), (0, .ref ((AD 8) 0))]) hx hb dL_holds_320 rfl hl (by decide) rfl (fun ls hl => ?_)
                    refine lv_iload hx hb dL_holds_321 (lv_at hl 6 rfl) ?_
                    refine lv_iload hx hb dL_holds_323 (lv_at hl 2 rfl) ?_
                    refine lv_if_eq (tgt := 348) hx hb dL_holds_325 (by decide) (fun z => absurd z (by decide)) (fun _ => ?_)
                    refine lv_aload_n hx hb dL_holds_328 rfl (lv_at hl 8 rfl) ?_
                    refine lv_iload hx hb dL_holds_329 (lv_at hl 3 rfl) ?_
                    refine lv_iconst (v := nI 4) hx hb dL_holds_331 (by decide) ?_
                    refine fr_idiv (k8) (4) (by omega) (by omega) (by omega) hx hb dL_holds_332 ?_
                    refine fr_Vi (As := [.int (nI ((k8 / 4)))]) (rest := [.int (arN ν k8)]) (fs' := [stW T (AD 0) ν, [(((AD 8) 0), .inr (5, [.ref ((AD 0) 0), .ref ((AD 1) 0), .ref ((AD 8) 1), .ref ((AD 9) 0), .ref ((AD 7) 0)]))]]) (ci := 5) (q0 := (RX5, TX5, 5)) (i0 := 1) ⟨hx, hb, hml, hown, hts⟩ (kX5_stopped_n l D T Z AD ν (k8 / 4) (by omega)) (cwV 1 hts gL_holds_X5_stopped rfl rfl rfl (by decide +kernel) ⟨Nat.le_of_ble_eq_true rfl, Nat.le_of_ble_eq_true rfl⟩) hK hN hM hP hD hS hA [0, 1] rfl rfl rfl rfl rfl rfl hl.1 rfl (Nat.le_of_ble_eq_true rfl) dL_holds_333 ⟨Nat.zero_le _, Nat.zero_le _⟩ (fun H locs hP hD hS => ?_)
                    cases eS : bz (ν 11 (k8 / 4))
                    · refine fr_ifne_b (tgt := 348) hx hb dL_holds_336 (by decide) (fun z => absurd z (by decide)) (fun _ => ?_)
                      refine lv_iconst (v := nI 1) hx hb dL_holds_339 (by decide) ?_
                      refine lv_iload hx hb dL_holds_340 (lv_at hl 3 rfl) ?_
                      refine lv_iconst (v := nI 4) hx hb dL_holds_342 (by decide) ?_
                      refine fr_idiv (k8) (4) (by omega) (by omega) (by omega) hx hb dL_holds_343 ?_
                      refine lv_ishl hx hb dL_holds_344 ?_
                      refine lv_goto (tgt := 349) hx hb dL_holds_345 (by decide) ?_
                      refine lv_ior hx hb dL_holds_349 ?_
                      refine lv_istore (lv' := [(4, .int ((arN ν k8) ||| ((nI 1) <<< ((nI ((k8 / 4))) &&& 31)))), (2, .int (nI ((((cntP (ν 1) 0 32) + (cntP (ν 7) 0 k8)) + 1)))), (6, .int (nI 1)), (8, .int (nI 1)), (7, .int (nI (k8))), (3, .int (nI ((cntP (ν 1) 0 32)))), (5, .int (nI ((cntH ν 0 32)))), (1, .int (nI 0)), (0, .ref ((AD 8) 0))]) hx hb dL_holds_350 hl (by decide) rfl (fun ls hl => ?_)
                      refine fr_iinc (k8) ((k8 + 1)) (nI_inc _) (lv' := [(7, .int (nI ((k8 + 1)))), (4, .int ((arN ν k8) ||| ((nI 1) <<< ((nI ((k8 / 4))) &&& 31)))), (2, .int (nI ((((cntP (ν 1) 0 32) + (cntP (ν 7) 0 k8)) + 1)))), (6, .int (nI 1)), (8, .int (nI 1)), (3, .int (nI ((cntP (ν 1) 0 32)))), (5, .int (nI ((cntH ν 0 32)))), (1, .int (nI 0)), (0, .ref ((AD 8) 0))]) (k := 4) hx hb dL_holds_352 hl rfl (by decide) rfl (fun ls hl => ?_)
                      refine lv_goto (tgt := 182) hx hb dL_holds_355 (by decide) ?_
                      have q_24 : ((arN ν k8) ||| ((nI 1) <<< ((nI ((k8 / 4))) &&& 31)) : Int32) = arN ν (k8 + 1) := (by first | rfl | first | exact congrArg nI (by rw [cntP_t eP]; omega) | exact congrArg nI (by rw [cntP_f eP]; omega) | exact (arN_t eS eP).symm | exact (arN_p eP).symm | exact (arN_s eS).symm)
                      have q_25 : (nI ((((cntP (ν 1) 0 32) + (cntP (ν 7) 0 k8)) + 1)) : Int32) = nI (((cntP (ν 1) 0 32) + (cntP (ν 7) 0 (k8 + 1)))) := (by first | rfl | first | exact congrArg nI (by rw [cntP_t eP]; omega) | exact congrArg nI (by rw [cntP_f eP]; omega) | exact (arN_t eS eP).symm | exact (arN_p eP).symm | exact (arN_s eS).symm)
                      have hl : lv_has ls 9 [(7, .int (nI ((k8 + 1)))), (4, .int (arN ν (k8 + 1))), (2, .int (nI (((cntP (ν 1) 0 32) + (cntP (ν 7) 0 (k8 + 1)))))), (6, .int (nI 1)), (8, .int (nI 1)), (3, .int (nI ((cntP (ν 1) 0 32)))), (5, .int (nI ((cntH ν 0 32)))), (1, .int (nI 0)), (0, .ref ((AD 8) 0))] := by rw [← q_24, ← q_25]; exact hl
                      exact ih ((k8 + 1)) (by omega) (by omega) H locs hP hD hS ls (lv_sub hl [0, 5, 3, 6, 1, 2, 7, 8] rfl)
                    · refine fr_ifne_b (tgt := 348) hx hb dL_holds_336 (by decide) (fun _ => ?_) (fun z => absurd z (by decide))
                      refine lv_iconst (v := nI 0) hx hb dL_holds_348 (by decide) ?_
                      refine lv_ior hx hb dL_holds_349 ?_
                      refine lv_istore (lv' := [(4, .int ((arN ν k8) ||| (nI 0))), (2, .int (nI ((((cntP (ν 1) 0 32) + (cntP (ν 7) 0 k8)) + 1)))), (6, .int (nI 1)), (8, .int (nI 1)), (7, .int (nI (k8))), (3, .int (nI ((cntP (ν 1) 0 32)))), (5, .int (nI ((cntH ν 0 32)))), (1, .int (nI 0)), (0, .ref ((AD 8) 0))]) hx hb dL_holds_350 hl (by decide) rfl (fun ls hl => ?_)
                      refine fr_iinc (k8) ((k8 + 1)) (nI_inc _) (lv' := [(7, .int (nI ((k8 + 1)))), (4, .int ((arN ν k8) ||| (nI 0))), (2, .int (nI ((((cntP (ν 1) 0 32) + (cntP (ν 7) 0 k8)) + 1)))), (6, .int (nI 1)), (8, .int (nI 1)), (3, .int (nI ((cntP (ν 1) 0 32)))), (5, .int (nI ((cntH ν 0 32)))), (1, .int (nI 0)), (0, .ref ((AD 8) 0))]) (k := 4) hx hb dL_holds_352 hl rfl (by decide) rfl (fun ls hl => ?_)
                      refine lv_goto (tgt := 182) hx hb dL_holds_355 (by decide) ?_
                      have q_26 : ((arN ν k8) ||| (nI 0) : Int32) = arN ν (k8 + 1) := (by first | rfl | first | exact congrArg nI (by rw [cntP_t eP]; omega) | exact congrArg nI (by rw [cntP_f eP]; omega) | exact (arN_t eS eP).symm | exact (arN_p eP).symm | exact (arN_s eS).symm)
                      have q_27 : (nI ((((cntP (ν 1) 0 32) + (cntP (ν 7) 0 k8)) + 1)) : Int32) = nI (((cntP (ν 1) 0 32) + (cntP (ν 7) 0 (k8 + 1)))) := (by first | rfl | first | exact congrArg nI (by rw [cntP_t eP]; omega) | exact congrArg nI (by rw [cntP_f eP]; omega) | exact (arN_t eS eP).symm | exact (arN_p eP).symm | exact (arN_s eS).symm)
                      have hl : lv_has ls 9 [(7, .int (nI ((k8 + 1)))), (4, .int (arN ν (k8 + 1))), (2, .int (nI (((cntP (ν 1) 0 32) + (cntP (ν 7) 0 (k8 + 1)))))), (6, .int (nI 1)), (8, .int (nI 1)), (3, .int (nI ((cntP (ν 1) 0 32)))), (5, .int (nI ((cntH ν 0 32)))), (1, .int (nI 0)), (0, .ref ((AD 8) 0))] := by rw [← q_26, ← q_27]; exact hl
                      exact ih ((k8 + 1)) (by omega) (by omega) H locs hP hD hS ls (lv_sub hl [0, 5, 3, 6, 1, 2, 7, 8] rfl)
        have q_28 : (nI 0 : Int32) = arN ν 0 := (by first | rfl | exact congrArg nI (by omega))
        have q_29 : (nI ((cntP (ν 1) 0 32)) : Int32) = nI (((cntP (ν 1) 0 32) + (cntP (ν 7) 0 0))) := (by first | rfl | exact congrArg nI (by omega))
        have hl : lv_has ls 9 [(7, .int (nI 0)), (3, .int (nI ((cntP (ν 1) 0 32)))), (6, .int (nI 1)), (5, .int (nI ((cntH ν 0 32)))), (4, .int (arN ν 0)), (2, .int (nI (((cntP (ν 1) 0 32) + (cntP (ν 7) 0 0))))), (1, .int (nI 0)), (0, .ref ((AD 8) 0))] := by rw [← q_28, ← q_29]; exact hl
        exact loop182 (16 + 1) (0) (by omega) (by omega) _ _ hP hD hS ls (lv_sub hl [0, 1, 2, 3, 4, 5, 6, 7] rfl)
      · have c_1' := Nat.not_le.mpr c_1
        have hV := (Hi.w (k := k9) (by omega)).1.2
        refine lv_aload_n hx hb dL_holds_25 rfl (lv_at hl 7 rfl) ?_
        refine lv_iload hx hb dL_holds_26 (lv_at hl 0 rfl) ?_
        refine fr_Vi (As := [.int (nI (k9))]) (rest := []) (fs' := [stW T (AD 0) ν, [(((AD 8) 0), .inr (5, [.ref ((AD 0) 0), .ref ((AD 1) 0), .ref ((AD 8) 1), .ref ((AD 9) 0), .ref ((AD 7) 0)]))]]) (ci := 5) (q0 := (RX5, TX5, 5)) (i0 := 1) ⟨hx, hb, hml, hown, hts⟩ (kX5_origin_n l D T Z AD ν k9 (by omega)) (cwV 1 hts gL_holds_X5_origin rfl rfl rfl (by decide +kernel) ⟨Nat.le_of_ble_eq_true rfl, Nat.le_of_ble_eq_true rfl⟩) hK hN hM hP hD hS hA [0, 1] rfl rfl rfl rfl rfl rfl hl.1 rfl (Nat.le_of_ble_eq_true rfl) dL_holds_28 ⟨Nat.zero_le _, Nat.zero_le _⟩ (fun H locs hP hD hS => ?_)
        refine lv_bipush (v := (-6)) hx hb dL_holds_31 (by decide) ?_
        refine lv_icmp_eq (tgt := 40) hx hb dL_holds_33 (by decide) (fun c_30 => ?_) (fun c_30 => ?_)
        · have eP := ps_no c_30
          have eH : canH ν k9 = false := cH_p eP
          refine lv_iconst (v := nI 0) hx hb dL_holds_40 (by decide) ?_
          refine lv_istore (lv' := [(8, .int (nI 0)), (7, .int (nI (k9))), (6, .int (nI 1)), (5, .int (nI ((cntH ν 0 k9)))), (4, .int (nI 0)), (3, .int (nI 0)), (2, .int (nI ((cntP (ν 1) 0 k9)))), (1, .int (nI 0)), (0, .ref ((AD 8) 0))]) hx hb dL_holds_41 hl (by decide) rfl (fun ls hl => ?_)
          refine lv_iload hx hb dL_holds_43 (lv_at hl 2 rfl) ?_
          refine lv_if_eq (tgt := 120) hx hb dL_holds_45 (by decide) (fun z => absurd z (by decide)) (fun _ => ?_)
          refine lv_aload_n hx hb dL_holds_48 rfl (lv_at hl 8 rfl) ?_
          refine lv_iload hx hb dL_holds_49 (lv_at hl 1 rfl) ?_
          refine fr_Vi (As := [.int (nI (k9))]) (rest := []) (fs' := [stW T (AD 0) ν, [(((AD 8) 0), .inr (5, [.ref ((AD 0) 0), .ref ((AD 1) 0), .ref ((AD 8) 1), .ref ((AD 9) 0), .ref ((AD 7) 0)]))]]) (ci := 5) (q0 := (RX5, TX5, 5)) (i0 := 1) ⟨hx, hb, hml, hown, hts⟩ (kX5_value_n l D T Z AD ν k9 (by omega)) (cwV 1 hts gL_holds_X5_value rfl rfl rfl (by decide +kernel) ⟨Nat.le_of_ble_eq_true rfl, Nat.le_of_ble_eq_true rfl⟩) hK hN hM hP hD hS hA [0, 1] rfl rfl rfl rfl rfl rfl hl.1 rfl (Nat.le_of_ble_eq_true rfl) dL_holds_51 ⟨Nat.zero_le _, Nat.zero_le _⟩ (fun H locs hP hD hS => ?_)
          refine fr_val (Hi.w (k := k9) (by omega)).1.1 ?_
          refine lv_if_lt (tgt := 120) hx hb dL_holds_54 (by decide) (fun z => absurd z (nI_pos (by omega))) (fun _ => ?_)
          refine lv_aload_n hx hb dL_holds_57 rfl (lv_at hl 8 rfl) ?_
          refine lv_iload hx hb dL_holds_58 (lv_at hl 1 rfl) ?_
          refine fr_Vi (As := [.int (nI (k9))]) (rest := []) (fs' := [stW T (AD 0) ν, [(((AD 8) 0), .inr (5, [.ref ((AD 0) 0), .ref ((AD 1) 0), .ref ((AD 8) 1), .ref ((AD 9) 0), .ref ((AD 7) 0)]))]]) (ci := 5) (q0 := (RX5, TX5, 5)) (i0 := 1) ⟨hx, hb, hml, hown, hts⟩ (kX5_value_n l D T Z AD ν k9 (by omega)) (cwV 1 hts gL_holds_X5_value rfl rfl rfl (by decide +kernel) ⟨Nat.le_of_ble_eq_true rfl, Nat.le_of_ble_eq_true rfl⟩) hK hN hM hP hD hS hA [0, 1] rfl rfl rfl rfl rfl rfl hl.1 rfl (Nat.le_of_ble_eq_true rfl) dL_holds_60 ⟨Nat.zero_le _, Nat.zero_le _⟩ (fun H locs hP hD hS => ?_)
          refine fr_val (Hi.w (k := k9) (by omega)).1.1 ?_
          refine lv_ldc hx hb hown w_118 dL_holds_63 ?_
          refine fr_val (show (65535 : Int32) = nI 65535 from rfl) ?_
          refine fr_icmp_gt ((tn (ν 0 k9))) (65535) (by omega) (by decide) (tgt := 120) hx hb dL_holds_65 (by decide) (fun c_31 => ?_) (fun c_31 => ?_)
          · exact absurd c_31 (by omega)
          · have c_31' := Nat.not_lt.mpr c_31
            refine lv_aload_n hx hb dL_holds_68 rfl (lv_at hl 8 rfl) ?_
            refine lv_aload_n hx hb dL_holds_69 rfl (lv_at hl 8 rfl) ?_
            refine lv_iload hx hb dL_holds_70 (lv_at hl 1 rfl) ?_
            refine fr_Vi (As := [.int (nI (k9))]) (rest := [.ref ((AD 8) 0)]) (fs' := [stW T (AD 0) ν, [(((AD 8) 0), .inr (5, [.ref ((AD 0) 0), .ref ((AD 1) 0), .ref ((AD 8) 1), .ref ((AD 9) 0), .ref ((AD 7) 0)]))]]) (ci := 5) (q0 := (RX5, TX5, 5)) (i0 := 1) ⟨hx, hb, hml, hown, hts⟩ (kX5_origin_n l D T Z AD ν k9 (by omega)) (cwV 1 hts gL_holds_X5_origin rfl rfl rfl (by decide +kernel) ⟨Nat.le_of_ble_eq_true rfl, Nat.le_of_ble_eq_true rfl⟩) hK hN hM hP hD hS hA [0, 1] rfl rfl rfl rfl rfl rfl hl.1 rfl (Nat.le_of_ble_eq_true rfl) dL_holds_72 ⟨Nat.zero_le _, Nat.zero_le _⟩ (fun H locs hP hD hS => ?_)
            refine lv_aload_n hx hb dL_holds_75 rfl (lv_at hl 8 rfl) ?_
            refine lv_iload hx hb dL_holds_76 (lv_at hl 1 rfl) ?_
            refine fr_Vi (As := [.int (nI (k9))]) (rest := [.int (ν 1 k9), .ref ((AD 8) 0)]) (fs' := [stW T (AD 0) ν, [(((AD 8) 0), .inr (5, [.ref ((AD 0) 0), .ref ((AD 1) 0), .ref ((AD 8) 1), .ref ((AD 9) 0), .ref ((AD 7) 0)]))]]) (ci := 5) (q0 := (RX5, TX5, 5)) (i0 := 1) ⟨hx, hb, hml, hown, hts⟩ (kX5_hops_n l D T Z AD ν k9 (by omega)) (cwV 1 hts gL_holds_X5_hops rfl rfl rfl (by decide +kernel) ⟨Nat.le_of_ble_eq_true rfl, Nat.le_of_ble_eq_true rfl⟩) hK hN hM hP hD hS hA [0, 1] rfl rfl rfl rfl rfl rfl hl.1 rfl (Nat.le_of_ble_eq_true rfl) dL_holds_78 ⟨Nat.zero_le _, Nat.zero_le _⟩ (fun H locs hP hD hS => ?_)
            refine fr_Si (As := [.ref ((AD 8) 0), .int (ν 1 k9), .int (ν 2 k9)]) (rest := []) (fs' := [stW T (AD 0) ν, [(((AD 8) 0), .inr (5, [.ref ((AD 0) 0), .ref ((AD 1) 0), .ref ((AD 8) 1), .ref ((AD 9) 0), .ref ((AD 7) 0)]))]]) ⟨hx, hb, hml, hown, hts⟩ (kL_isMark l D T Z AD ν (ν 1 k9) (ν 2 k9)) (va_cwS 3 hts gL_holds_L_isMark rfl rfl rfl (by decide +kernel) ⟨Nat.le_of_ble_eq_true rfl, Nat.le_of_ble_eq_true rfl⟩) hK hN hM hP hD hS hA [0, 1] rfl rfl rfl rfl hl.1 rfl (Nat.le_of_ble_eq_true rfl) dL_holds_81 ⟨Nat.zero_le _, Nat.zero_le _⟩ (fun H locs hP hD hS => ?_)
            refine fr_val (congrArg bI (mkB_t Hi.hi (Hi.w (k := k9) (by omega)).2)) ?_
            refine fr_ifeq_b (tgt := 120) hx hb dL_holds_84 (by decide) (fun z => absurd z (by decide)) (fun _ => ?_)
            refine lv_iload hx hb dL_holds_87 (lv_at hl 0 rfl) ?_
            refine lv_if_eq (tgt := 116) hx hb dL_holds_89 (by decide) (fun _ => ?_) (fun z => absurd (by decide) z)
            refine lv_iconst (v := nI 1) hx hb dL_holds_116 (by decide) ?_
            refine lv_goto (tgt := 121) hx hb dL_holds_117 (by decide) ?_
            refine lv_istore (lv' := [(6, .int (nI 1)), (8, .int (nI 0)), (7, .int (nI (k9))), (5, .int (nI ((cntH ν 0 k9)))), (4, .int (nI 0)), (3, .int (nI 0)), (2, .int (nI ((cntP (ν 1) 0 k9)))), (1, .int (nI 0)), (0, .ref ((AD 8) 0))]) hx hb dL_holds_121 hl (by decide) rfl (fun ls hl => ?_)
            refine lv_iload_n hx hb dL_holds_123 rfl (lv_at hl 6 rfl) ?_
            refine lv_iload hx hb dL_holds_124 (lv_at hl 1 rfl) ?_
            refine lv_if_eq (tgt := 133) hx hb dL_holds_126 (by decide) (fun _ => ?_) (fun z => absurd (by decide) z)
            refine lv_iconst (v := nI 0) hx hb dL_holds_133 (by decide) ?_
            refine fr_iadd ((cntP (ν 1) 0 k9)) (0) hx hb dL_holds_134 ?_
            refine lv_istore_n (lv' := [(2, .int (nI (((cntP (ν 1) 0 k9) + 0)))), (6, .int (nI 1)), (8, .int (nI 0)), (7, .int (nI (k9))), (5, .int (nI ((cntH ν 0 k9)))), (4, .int (nI 0)), (3, .int (nI 0)), (1, .int (nI 0)), (0, .ref ((AD 8) 0))]) hx hb dL_holds_135 rfl hl (by decide) rfl (fun ls hl => ?_)
            refine lv_iload hx hb dL_holds_136 (lv_at hl 4 rfl) ?_
            refine lv_iload hx hb dL_holds_138 (lv_at hl 2 rfl) ?_
            refine lv_if_eq (tgt := 167) hx hb dL_holds_140 (by decide) (fun _ => ?_) (fun z => absurd (by decide) z)
            refine lv_iconst (v := nI 0) hx hb dL_holds_167 (by decide) ?_
            refine fr_iadd ((cntH ν 0 k9)) (0) hx hb dL_holds_168 ?_
            refine lv_istore (lv' := [(5, .int (nI (((cntH ν 0 k9) + 0)))), (2, .int (nI (((cntP (ν 1) 0 k9) + 0)))), (6, .int (nI 1)), (8, .int (nI 0)), (7, .int (nI (k9))), (4, .int (nI 0)), (3, .int (nI 0)), (1, .int (nI 0)), (0, .ref ((AD 8) 0))]) hx hb dL_holds_169 hl (by decide) rfl (fun ls hl => ?_)
            refine fr_iinc (k9) ((k9 + 1)) (nI_inc _) (lv' := [(7, .int (nI ((k9 + 1)))), (5, .int (nI (((cntH ν 0 k9) + 0)))), (2, .int (nI (((cntP (ν 1) 0 k9) + 0)))), (6, .int (nI 1)), (8, .int (nI 0)), (4, .int (nI 0)), (3, .int (nI 0)), (1, .int (nI 0)), (0, .ref ((AD 8) 0))]) (k := 4) hx hb dL_holds_171 hl rfl (by decide) rfl (fun ls hl => ?_)
            refine lv_goto (tgt := 18) hx hb dL_holds_174 (by decide) ?_
            have q_32 : (nI (((cntH ν 0 k9) + 0)) : Int32) = nI ((cntH ν 0 (k9 + 1))) := (by first | rfl | first | exact congrArg nI (cntP_t eP).symm | exact congrArg nI (cntP_f eP).symm | exact congrArg nI (cntH_t (i := 0) (zadd.trans eH)).symm | exact congrArg nI (cntH_f (i := 0) (zadd.trans eH)).symm)
            have q_33 : (nI (((cntP (ν 1) 0 k9) + 0)) : Int32) = nI ((cntP (ν 1) 0 (k9 + 1))) := (by first | rfl | first | exact congrArg nI (cntP_t eP).symm | exact congrArg nI (cntP_f eP).symm | exact congrArg nI (cntH_t (i := 0) (zadd.trans eH)).symm | exact congrArg nI (cntH_f (i := 0) (zadd.trans eH)).symm)
            have hl : lv_has ls 9 [(7, .int (nI ((k9 + 1)))), (5, .int (nI ((cntH ν 0 (k9 + 1))))), (2, .int (nI ((cntP (ν 1) 0 (k9 + 1))))), (6, .int (nI 1)), (8, .int (nI 0)), (4, .int (nI 0)), (3, .int (nI 0)), (1, .int (nI 0)), (0, .ref ((AD 8) 0))] := by rw [← q_32, ← q_33]; exact hl
            exact ih ((k9 + 1)) (by omega) (by omega) H locs hP hD hS ls (lv_sub hl [0, 3, 1, 5, 6, 2, 7, 8] rfl)
        · have eP := ps_of c_30
          refine lv_iconst (v := nI 1) hx hb dL_holds_36 (by decide) ?_
          refine lv_goto (tgt := 41) hx hb dL_holds_37 (by decide) ?_
          refine lv_istore (lv' := [(8, .int (nI 1)), (7, .int (nI (k9))), (6, .int (nI 1)), (5, .int (nI ((cntH ν 0 k9)))), (4, .int (nI 0)), (3, .int (nI 0)), (2, .int (nI ((cntP (ν 1) 0 k9)))), (1, .int (nI 0)), (0, .ref ((AD 8) 0))]) hx hb dL_holds_41 hl (by decide) rfl (fun ls hl => ?_)
          refine lv_iload hx hb dL_holds_43 (lv_at hl 2 rfl) ?_
          refine lv_if_eq (tgt := 120) hx hb dL_holds_45 (by decide) (fun z => absurd z (by decide)) (fun _ => ?_)
          refine lv_aload_n hx hb dL_holds_48 rfl (lv_at hl 8 rfl) ?_
          refine lv_iload hx hb dL_holds_49 (lv_at hl 1 rfl) ?_
          refine fr_Vi (As := [.int (nI (k9))]) (rest := []) (fs' := [stW T (AD 0) ν, [(((AD 8) 0), .inr (5, [.ref ((AD 0) 0), .ref ((AD 1) 0), .ref ((AD 8) 1), .ref ((AD 9) 0), .ref ((AD 7) 0)]))]]) (ci := 5) (q0 := (RX5, TX5, 5)) (i0 := 1) ⟨hx, hb, hml, hown, hts⟩ (kX5_value_n l D T Z AD ν k9 (by omega)) (cwV 1 hts gL_holds_X5_value rfl rfl rfl (by decide +kernel) ⟨Nat.le_of_ble_eq_true rfl, Nat.le_of_ble_eq_true rfl⟩) hK hN hM hP hD hS hA [0, 1] rfl rfl rfl rfl rfl rfl hl.1 rfl (Nat.le_of_ble_eq_true rfl) dL_holds_51 ⟨Nat.zero_le _, Nat.zero_le _⟩ (fun H locs hP hD hS => ?_)
          refine fr_val (Hi.w (k := k9) (by omega)).1.1 ?_
          refine lv_if_lt (tgt := 120) hx hb dL_holds_54 (by decide) (fun z => absurd z (nI_pos (by omega))) (fun _ => ?_)
          refine lv_aload_n hx hb dL_holds_57 rfl (lv_at hl 8 rfl) ?_
          refine lv_iload hx hb dL_holds_58 (lv_at hl 1 rfl) ?_
          refine fr_Vi (As := [.int (nI (k9))]) (rest := []) (fs' := [stW T (AD 0) ν, [(((AD 8) 0), .inr (5, [.ref ((AD 0) 0), .ref ((AD 1) 0), .ref ((AD 8) 1), .ref ((AD 9) 0), .ref ((AD 7) 0)]))]]) (ci := 5) (q0 := (RX5, TX5, 5)) (i0 := 1) ⟨hx, hb, hml, hown, hts⟩ (kX5_value_n l D T Z AD ν k9 (by omega)) (cwV 1 hts gL_holds_X5_value rfl rfl rfl (by decide +kernel) ⟨Nat.le_of_ble_eq_true rfl, Nat.le_of_ble_eq_true rfl⟩) hK hN hM hP hD hS hA [0, 1] rfl rfl rfl rfl rfl rfl hl.1 rfl (Nat.le_of_ble_eq_true rfl) dL_holds_60 ⟨Nat.zero_le _, Nat.zero_le _⟩ (fun H locs hP hD hS => ?_)
          refine fr_val (Hi.w (k := k9) (by omega)).1.1 ?_
          refine lv_ldc hx hb hown w_118 dL_holds_63 ?_
          refine fr_val (show (65535 : Int32) = nI 65535 from rfl) ?_
          refine fr_icmp_gt ((tn (ν 0 k9))) (65535) (by omega) (by decide) (tgt := 120) hx hb dL_holds_65 (by decide) (fun c_34 => ?_) (fun c_34 => ?_)
          · exact absurd c_34 (by omega)
          · have c_34' := Nat.not_lt.mpr c_34
            refine lv_aload_n hx hb dL_holds_68 rfl (lv_at hl 8 rfl) ?_
            refine lv_aload_n hx hb dL_holds_69 rfl (lv_at hl 8 rfl) ?_
            refine lv_iload hx hb dL_holds_70 (lv_at hl 1 rfl) ?_
            refine fr_Vi (As := [.int (nI (k9))]) (rest := [.ref ((AD 8) 0)]) (fs' := [stW T (AD 0) ν, [(((AD 8) 0), .inr (5, [.ref ((AD 0) 0), .ref ((AD 1) 0), .ref ((AD 8) 1), .ref ((AD 9) 0), .ref ((AD 7) 0)]))]]) (ci := 5) (q0 := (RX5, TX5, 5)) (i0 := 1) ⟨hx, hb, hml, hown, hts⟩ (kX5_origin_n l D T Z AD ν k9 (by omega)) (cwV 1 hts gL_holds_X5_origin rfl rfl rfl (by decide +kernel) ⟨Nat.le_of_ble_eq_true rfl, Nat.le_of_ble_eq_true rfl⟩) hK hN hM hP hD hS hA [0, 1] rfl rfl rfl rfl rfl rfl hl.1 rfl (Nat.le_of_ble_eq_true rfl) dL_holds_72 ⟨Nat.zero_le _, Nat.zero_le _⟩ (fun H locs hP hD hS => ?_)
            refine lv_aload_n hx hb dL_holds_75 rfl (lv_at hl 8 rfl) ?_
            refine lv_iload hx hb dL_holds_76 (lv_at hl 1 rfl) ?_
            refine fr_Vi (As := [.int (nI (k9))]) (rest := [.int (ν 1 k9), .ref ((AD 8) 0)]) (fs' := [stW T (AD 0) ν, [(((AD 8) 0), .inr (5, [.ref ((AD 0) 0), .ref ((AD 1) 0), .ref ((AD 8) 1), .ref ((AD 9) 0), .ref ((AD 7) 0)]))]]) (ci := 5) (q0 := (RX5, TX5, 5)) (i0 := 1) ⟨hx, hb, hml, hown, hts⟩ (kX5_hops_n l D T Z AD ν k9 (by omega)) (cwV 1 hts gL_holds_X5_hops rfl rfl rfl (by decide +kernel) ⟨Nat.le_of_ble_eq_true rfl, Nat.le_of_ble_eq_true rfl⟩) hK hN hM hP hD hS hA [0, 1] rfl rfl rfl rfl rfl rfl hl.1 rfl (Nat.le_of_ble_eq_true rfl) dL_holds_78 ⟨Nat.zero_le _, Nat.zero_le _⟩ (fun H locs hP hD hS => ?_)
            refine fr_Si (As := [.ref ((AD 8) 0), .int (ν 1 k9), .int (ν 2 k9)]) (rest := []) (fs' := [stW T (AD 0) ν, [(((AD 8) 0), .inr (5, [.ref ((AD 0) 0), .ref ((AD 1) 0), .ref ((AD 8) 1), .ref ((AD 9) 0), .ref ((AD 7) 0)]))]]) ⟨hx, hb, hml, hown, hts⟩ (kL_isMark l D T Z AD ν (ν 1 k9) (ν 2 k9)) (va_cwS 3 hts gL_holds_L_isMark rfl rfl rfl (by decide +kernel) ⟨Nat.le_of_ble_eq_true rfl, Nat.le_of_ble_eq_true rfl⟩) hK hN hM hP hD hS hA [0, 1] rfl rfl rfl rfl hl.1 rfl (Nat.le_of_ble_eq_true rfl) dL_holds_81 ⟨Nat.zero_le _, Nat.zero_le _⟩ (fun H locs hP hD hS => ?_)
            refine fr_val (congrArg bI (mkB_t Hi.hi (Hi.w (k := k9) (by omega)).2)) ?_
            refine fr_ifeq_b (tgt := 120) hx hb dL_holds_84 (by decide) (fun z => absurd z (by decide)) (fun _ => ?_)
            refine lv_iload hx hb dL_holds_87 (lv_at hl 0 rfl) ?_
            refine lv_if_eq (tgt := 116) hx hb dL_holds_89 (by decide) (fun z => absurd z (by decide)) (fun _ => ?_)
            refine lv_aload_n hx hb dL_holds_92 rfl (lv_at hl 8 rfl) ?_
            refine lv_iload hx hb dL_holds_93 (lv_at hl 1 rfl) ?_
            refine fr_Vi (As := [.int (nI (k9))]) (rest := []) (fs' := [stW T (AD 0) ν, [(((AD 8) 0), .inr (5, [.ref ((AD 0) 0), .ref ((AD 1) 0), .ref ((AD 8) 1), .ref ((AD 9) 0), .ref ((AD 7) 0)]))]]) (ci := 5) (q0 := (RX5, TX5, 5)) (i0 := 1) ⟨hx, hb, hml, hown, hts⟩ (kX5_hops_n l D T Z AD ν k9 (by omega)) (cwV 1 hts gL_holds_X5_hops rfl rfl rfl (by decide +kernel) ⟨Nat.le_of_ble_eq_true rfl, Nat.le_of_ble_eq_true rfl⟩) hK hN hM hP hD hS hA [0, 1] rfl rfl rfl rfl rfl rfl hl.1 rfl (Nat.le_of_ble_eq_true rfl) dL_holds_95 ⟨Nat.zero_le _, Nat.zero_le _⟩ (fun H locs hP hD hS => ?_)
            refine lv_if_gt (tgt := 116) hx hb dL_holds_98 (by decide) (fun c_35 => ?_) (fun c_35 => ?_)
            · have c_35' := Int32.not_le.mpr c_35
              refine lv_iconst (v := nI 1) hx hb dL_holds_116 (by decide) ?_
              refine lv_goto (tgt := 121) hx hb dL_holds_117 (by decide) ?_
              refine lv_istore (lv' := [(6, .int (nI 1)), (8, .int (nI 1)), (7, .int (nI (k9))), (5, .int (nI ((cntH ν 0 k9)))), (4, .int (nI 0)), (3, .int (nI 0)), (2, .int (nI ((cntP (ν 1) 0 k9)))), (1, .int (nI 0)), (0, .ref ((AD 8) 0))]) hx hb dL_holds_121 hl (by decide) rfl (fun ls hl => ?_)
              refine lv_iload_n hx hb dL_holds_123 rfl (lv_at hl 6 rfl) ?_
              refine lv_iload hx hb dL_holds_124 (lv_at hl 1 rfl) ?_
              refine lv_if_eq (tgt := 133) hx hb dL_holds_126 (by decide) (fun z => absurd z (by decide)) (fun _ => ?_)
              refine lv_iconst (v := nI 1) hx hb dL_holds_129 (by decide) ?_
              refine lv_goto (tgt := 134) hx hb dL_holds_130 (by decide) ?_
              refine fr_iadd ((cntP (ν 1) 0 k9)) (1) hx hb dL_holds_134 ?_
              refine lv_istore_n (lv' := [(2, .int (nI (((cntP (ν 1) 0 k9) + 1)))), (6, .int (nI 1)), (8, .int (nI 1)), (7, .int (nI (k9))), (5, .int (nI ((cntH ν 0 k9)))), (4, .int (nI 0)), (3, .int (nI 0)), (1, .int (nI 0)), (0, .ref ((AD 8) 0))]) hx hb dL_holds_135 rfl hl (by decide) rfl (fun ls hl => ?_)
              refine lv_iload hx hb dL_holds_136 (lv_at hl 4 rfl) ?_
              refine lv_iload hx hb dL_holds_138 (lv_at hl 2 rfl) ?_
              refine lv_if_eq (tgt := 167) hx hb dL_holds_140 (by decide) (fun z => absurd z (by decide)) (fun _ => ?_)
              refine lv_aload_n hx hb dL_holds_143 rfl (lv_at hl 8 rfl) ?_
              refine lv_iload hx hb dL_holds_144 (lv_at hl 3 rfl) ?_
              refine fr_Vi (As := [.int (nI (k9))]) (rest := [.int (nI ((cntH ν 0 k9)))]) (fs' := [stW T (AD 0) ν, [(((AD 8) 0), .inr (5, [.ref ((AD 0) 0), .ref ((AD 1) 0), .ref ((AD 8) 1), .ref ((AD 9) 0), .ref ((AD 7) 0)]))]]) (ci := 5) (q0 := (RX5, TX5, 5)) (i0 := 1) ⟨hx, hb, hml, hown, hts⟩ (kX5_mirrorValue_n l D T Z AD ν k9 (by omega)) (cwV 1 hts gL_holds_X5_mirrorValue rfl rfl rfl (by decide +kernel) ⟨Nat.le_of_ble_eq_true rfl, Nat.le_of_ble_eq_true rfl⟩) hK hN hM hP hD hS hA [0, 1] rfl rfl rfl rfl rfl rfl hl.1 rfl (Nat.le_of_ble_eq_true rfl) dL_holds_146 ⟨Nat.zero_le _, Nat.zero_le _⟩ (fun H locs hP hD hS => ?_)
              cases eB : bz (ν 9 (k9 / 4))
              · refine fr_val (show mvF ν k9 = (-6) from by unfold mvF; rw [eB, if_neg Bool.false_ne_true]) ?_
                have eH : canH ν k9 = false := cH_m eB
                refine lv_if_lt (tgt := 167) hx hb dL_holds_149 (by decide) (fun _ => ?_) (fun z => absurd (by decide) z)
                refine lv_iconst (v := nI 0) hx hb dL_holds_167 (by decide) ?_
                refine fr_iadd ((cntH ν 0 k9)) (0) hx hb dL_holds_168 ?_
                refine lv_istore (lv' := [(5, .int (nI (((cntH ν 0 k9) + 0)))), (2, .int (nI (((cntP (ν 1) 0 k9) + 1)))), (6, .int (nI 1)), (8, .int (nI 1)), (7, .int (nI (k9))), (4, .int (nI 0)), (3, .int (nI 0)), (1, .int (nI 0)), (0, .ref ((AD 8) 0))]) hx hb dL_holds_169 hl (by decide) rfl (fun ls hl => ?_)
                refine fr_iinc (k9) ((k9 + 1)) (nI_inc _) (lv' := [(7, .int (nI ((k9 + 1)))), (5, .int (nI (((cntH ν 0 k9) + 0)))), (2, .int (nI (((cntP (ν 1) 0 k9) + 1)))), (6, .int (nI 1)), (8, .int (nI 1)), (4, .int (nI 0)), (3, .int (nI 0)), (1, .int (nI 0)), (0, .ref ((AD 8) 0))]) (k := 4) hx hb dL_holds_171 hl rfl (by decide) rfl (fun ls hl => ?_)
                refine lv_goto (tgt := 18) hx hb dL_holds_174 (by decide) ?_
                have q_36 : (nI (((cntH ν 0 k9) + 0)) : Int32) = nI ((cntH ν 0 (k9 + 1))) := (by first | rfl | first | exact congrArg nI (cntP_t eP).symm | exact congrArg nI (cntP_f eP).symm | exact congrArg nI (cntH_t (i := 0) (zadd.trans eH)).symm | exact congrArg nI (cntH_f (i := 0) (zadd.trans eH)).symm)
                have q_37 : (nI (((cntP (ν 1) 0 k9) + 1)) : Int32) = nI ((cntP (ν 1) 0 (k9 + 1))) := (by first | rfl | first | exact congrArg nI (cntP_t eP).symm | exact congrArg nI (cntP_f eP).symm | exact congrArg nI (cntH_t (i := 0) (zadd.trans eH)).symm | exact congrArg nI (cntH_f (i := 0) (zadd.trans eH)).symm)
                have hl : lv_has ls 9 [(7, .int (nI ((k9 + 1)))), (5, .int (nI ((cntH ν 0 (k9 + 1))))), (2, .int (nI ((cntP (ν 1) 0 (k9 + 1))))), (6, .int (nI 1)), (8, .int (nI 1)), (4, .int (nI 0)), (3, .int (nI 0)), (1, .int (nI 0)), (0, .ref ((AD 8) 0))] := by rw [← q_36, ← q_37]; exact hl
                exact ih ((k9 + 1)) (by omega) (by omega) H locs hP hD hS ls (lv_sub hl [0, 3, 1, 5, 6, 2, 7, 8] rfl)
              · refine fr_val (show mvF ν k9 = nI (tn (ν 3 k9)) from by unfold mvF; rw [eB, if_pos rfl]; exact (Hi.s (k := k9) (by omega)).1.1) ?_
                have hms := (Hi.s (k := k9) (by omega)).1.2
                refine lv_if_lt (tgt := 167) hx hb dL_holds_149 (by decide) (fun z => absurd z (nI_pos (by omega))) (fun _ => ?_)
                refine lv_aload_n hx hb dL_holds_152 rfl (lv_at hl 8 rfl) ?_
                refine lv_iload hx hb dL_holds_153 (lv_at hl 3 rfl) ?_
                refine fr_Vi (As := [.int (nI (k9))]) (rest := [.int (nI ((cntH ν 0 k9)))]) (fs' := [stW T (AD 0) ν, [(((AD 8) 0), .inr (5, [.ref ((AD 0) 0), .ref ((AD 1) 0), .ref ((AD 8) 1), .ref ((AD 9) 0), .ref ((AD 7) 0)]))]]) (ci := 5) (q0 := (RX5, TX5, 5)) (i0 := 1) ⟨hx, hb, hml, hown, hts⟩ (kX5_mirrorOrigin_n l D T Z AD ν k9 (by omega)) (cwV 1 hts gL_holds_X5_mirrorOrigin rfl rfl rfl (by decide +kernel) ⟨Nat.le_of_ble_eq_true rfl, Nat.le_of_ble_eq_true rfl⟩) hK hN hM hP hD hS hA [0, 1] rfl rfl rfl rfl rfl rfl hl.1 rfl (Nat.le_of_ble_eq_true rfl) dL_holds_155 ⟨Nat.zero_le _, Nat.zero_le _⟩ (fun H locs hP hD hS => ?_)
                refine fr_val (show moF ν k9 = ν 4 k9 from by unfold moF; rw [eB, if_pos rfl]) ?_
                refine lv_bipush (v := (-6)) hx hb dL_holds_158 (by decide) ?_
                refine lv_icmp_ne (tgt := 167) hx hb dL_holds_160 (by decide) (fun c_38 => ?_) (fun c_38 => ?_)
                · have eH : canH ν k9 = false := cH_s (ps_of c_38)
                  refine lv_iconst (v := nI 0) hx hb dL_holds_167 (by decide) ?_
                  refine fr_iadd ((cntH ν 0 k9)) (0) hx hb dL_holds_168 ?_
                  refine lv_istore (lv' := [(5, .int (nI (((cntH ν 0 k9) + 0)))), (2, .int (nI (((cntP (ν 1) 0 k9) + 1)))), (6, .int (nI 1)), (8, .int (nI 1)), (7, .int (nI (k9))), (4, .int (nI 0)), (3, .int (nI 0)), (1, .int (nI 0)), (0, .ref ((AD 8) 0))]) hx hb dL_holds_169 hl (by decide) rfl (fun ls hl => ?_)
                  refine fr_iinc (k9) ((k9 + 1)) (nI_inc _) (lv' := [(7, .int (nI ((k9 + 1)))), (5, .int (nI (((cntH ν 0 k9) + 0)))), (2, .int (nI (((cntP (ν 1) 0 k9) + 1)))), (6, .int (nI 1)), (8, .int (nI 1)), (4, .int (nI 0)), (3, .int (nI 0)), (1, .int (nI 0)), (0, .ref ((AD 8) 0))]) (k := 4) hx hb dL_holds_171 hl rfl (by decide) rfl (fun ls hl => ?_)
                  refine lv_goto (tgt := 18) hx hb dL_holds_174 (by decide) ?_
                  have q_39 : (nI (((cntH ν 0 k9) + 0)) : Int32) = nI ((cntH ν 0 (k9 + 1))) := (by first | rfl | first | exact congrArg nI (cntP_t eP).symm | exact congrArg nI (cntP_f eP).symm | exact congrArg nI (cntH_t (i := 0) (zadd.trans eH)).symm | exact congrArg nI (cntH_f (i := 0) (zadd.trans eH)).symm)
                  have q_40 : (nI (((cntP (ν 1) 0 k9) + 1)) : Int32) = nI ((cntP (ν 1) 0 (k9 + 1))) := (by first | rfl | first | exact congrArg nI (cntP_t eP).symm | exact congrArg nI (cntP_f eP).symm | exact congrArg nI (cntH_t (i := 0) (zadd.trans eH)).symm | exact congrArg nI (cntH_f (i := 0) (zadd.trans eH)).symm)
                  have hl : lv_has ls 9 [(7, .int (nI ((k9 + 1)))), (5, .int (nI ((cntH ν 0 (k9 + 1))))), (2, .int (nI ((cntP (ν 1) 0 (k9 + 1))))), (6, .int (nI 1)), (8, .int (nI 1)), (4, .int (nI 0)), (3, .int (nI 0)), (1, .int (nI 0)), (0, .ref ((AD 8) 0))] := by rw [← q_39, ← q_40]; exact hl
                  exact ih ((k9 + 1)) (by omega) (by omega) H locs hP hD hS ls (lv_sub hl [0, 3, 1, 5, 6, 2, 7, 8] rfl)
                · have eH : canH ν k9 = true := cH_t eP eB (ps_no c_38)
                  refine lv_iconst (v := nI 1) hx hb dL_holds_163 (by decide) ?_
                  refine lv_goto (tgt := 168) hx hb dL_holds_164 (by decide) ?_
                  refine fr_iadd ((cntH ν 0 k9)) (1) hx hb dL_holds_168 ?_
                  refine lv_istore (lv' := [(5, .int (nI (((cntH ν 0 k9) + 1)))), (2, .int (nI (((cntP (ν 1) 0 k9) + 1)))), (6, .int (nI 1)), (8, .int (nI 1)), (7, .int (nI (k9))), (4, .int (nI 0)), (3, .int (nI 0)), (1, .int (nI 0)), (0, .ref ((AD 8) 0))]) hx hb dL_holds_169 hl (by decide) rfl (fun ls hl => ?_)
                  refine fr_iinc (k9) ((k9 + 1)) (nI_inc _) (lv' := [(7, .int (nI ((k9 + 1)))), (5, .int (nI (((cntH ν 0 k9) + 1)))), (2, .int (nI (((cntP (ν 1) 0 k9) + 1)))), (6, .int (nI 1)), (8, .int (nI 1)), (4, .int (nI 0)), (3, .int (nI 0)), (1, .int (nI 0)), (0, .ref ((AD 8) 0))]) (k := 4) hx hb dL_holds_171 hl rfl (by decide) rfl (fun ls hl => ?_)
                  refine lv_goto (tgt := 18) hx hb dL_holds_174 (by decide) ?_
                  have q_41 : (nI (((cntH ν 0 k9) + 1)) : Int32) = nI ((cntH ν 0 (k9 + 1))) := (by first | rfl | first | exact congrArg nI (cntP_t eP).symm | exact congrArg nI (cntP_f eP).symm | exact congrArg nI (cntH_t (i := 0) (zadd.trans eH)).symm | exact congrArg nI (cntH_f (i := 0) (zadd.trans eH)).symm)
                  have q_42 : (nI (((cntP (ν 1) 0 k9) + 1)) : Int32) = nI ((cntP (ν 1) 0 (k9 + 1))) := (by first | rfl | first | exact congrArg nI (cntP_t eP).symm | exact congrArg nI (cntP_f eP).symm | exact congrArg nI (cntH_t (i := 0) (zadd.trans eH)).symm | exact congrArg nI (cntH_f (i := 0) (zadd.trans eH)).symm)
                  have hl : lv_has ls 9 [(7, .int (nI ((k9 + 1)))), (5, .int (nI ((cntH ν 0 (k9 + 1))))), (2, .int (nI ((cntP (ν 1) 0 (k9 + 1))))), (6, .int (nI 1)), (8, .int (nI 1)), (4, .int (nI 0)), (3, .int (nI 0)), (1, .int (nI 0)), (0, .ref ((AD 8) 0))] := by rw [← q_41, ← q_42]; exact hl
                  exact ih ((k9 + 1)) (by omega) (by omega) H locs hP hD hS ls (lv_sub hl [0, 3, 1, 5, 6, 2, 7, 8] rfl)
            · have c_35' := Int32.not_lt.mp c_35
              refine lv_aload_n hx hb dL_holds_101 rfl (lv_at hl 8 rfl) ?_
              refine lv_aload_n hx hb dL_holds_102 rfl (lv_at hl 8 rfl) ?_
              refine lv_iload hx hb dL_holds_103 (lv_at hl 1 rfl) ?_
              refine fr_Vi (As := [.int (nI (k9))]) (rest := [.ref ((AD 8) 0)]) (fs' := [stW T (AD 0) ν, [(((AD 8) 0), .inr (5, [.ref ((AD 0) 0), .ref ((AD 1) 0), .ref ((AD 8) 1), .ref ((AD 9) 0), .ref ((AD 7) 0)]))]]) (ci := 5) (q0 := (RX5, TX5, 5)) (i0 := 1) ⟨hx, hb, hml, hown, hts⟩ (kX5_origin_n l D T Z AD ν k9 (by omega)) (cwV 1 hts gL_holds_X5_origin rfl rfl rfl (by decide +kernel) ⟨Nat.le_of_ble_eq_true rfl, Nat.le_of_ble_eq_true rfl⟩) hK hN hM hP hD hS hA [0, 1] rfl rfl rfl rfl rfl rfl hl.1 rfl (Nat.le_of_ble_eq_true rfl) dL_holds_105 ⟨Nat.zero_le _, Nat.zero_le _⟩ (fun H locs hP hD hS => ?_)
              refine fr_Vi (As := [.int (ν 1 k9)]) (rest := []) (fs' := [stW T (AD 0) ν, [(((AD 8) 0), .inr (5, [.ref ((AD 0) 0), .ref ((AD 1) 0), .ref ((AD 8) 1), .ref ((AD 9) 0), .ref ((AD 7) 0)]))]]) (ci := 5) (q0 := (RX5, TX5, 5)) (i0 := 1) ⟨hx, hb, hml, hown, hts⟩ (kX5_source_n l D T Z AD ν (ν 1 k9) Hi.hi) (cwV 1 hts gL_holds_X5_source rfl rfl rfl (by decide +kernel) ⟨Nat.le_of_ble_eq_true rfl, Nat.le_of_ble_eq_true rfl⟩) hK hN hM hP hD hS hA [0, 1] rfl rfl rfl rfl rfl rfl hl.1 rfl (Nat.le_of_ble_eq_true rfl) dL_holds_108 ⟨Nat.zero_le _, Nat.zero_le _⟩ (fun H locs hP hD hS => ?_)
              refine fr_val (mk_src Hi (by omega) c_30 c_35) ?_
              refine lv_iload hx hb dL_holds_111 (lv_at hl 1 rfl) ?_
              refine fr_icmp_ne (k9) (k9) (by omega) (by omega) (tgt := 120) hx hb dL_holds_113 (by decide) (fun z => absurd z (by omega)) (fun _ => ?_)
              refine lv_iconst (v := nI 1) hx hb dL_holds_116 (by decide) ?_
              refine lv_goto (tgt := 121) hx hb dL_holds_117 (by decide) ?_
              refine lv_istore (lv' := [(6, .int (nI 1)), (8, .int (nI 1)), (7, .int (nI (k9))), (5, .int (nI ((cntH ν 0 k9)))), (4, .int (nI 0)), (3, .int (nI 0)), (2, .int (nI ((cntP (ν 1) 0 k9)))), (1, .int (nI 0)), (0, .ref ((AD 8) 0))]) hx hb dL_holds_121 hl (by decide) rfl (fun ls hl => ?_)
              refine lv_iload_n hx hb dL_holds_123 rfl (lv_at hl 6 rfl) ?_
              refine lv_iload hx hb dL_holds_124 (lv_at hl 1 rfl) ?_
              refine lv_if_eq (tgt := 133) hx hb dL_holds_126 (by decide) (fun z => absurd z (by decide)) (fun _ => ?_)
              refine lv_iconst (v := nI 1) hx hb dL_holds_129 (by decide) ?_
              refine lv_goto (tgt := 134) hx hb dL_holds_130 (by decide) ?_
              refine fr_iadd ((cntP (ν 1) 0 k9)) (1) hx hb dL_holds_134 ?_
              refine lv_istore_n (lv' := [(2, .int (nI (((cntP (ν 1) 0 k9) + 1)))), (6, .int (nI 1)), (8, .int (nI 1)), (7, .int (nI (k9))), (5, .int (nI ((cntH ν 0 k9)))), (4, .int (nI 0)), (3, .int (nI 0)), (1, .int (nI 0)), (0, .ref ((AD 8) 0))]) hx hb dL_holds_135 rfl hl (by decide) rfl (fun ls hl => ?_)
              refine lv_iload hx hb dL_holds_136 (lv_at hl 4 rfl) ?_
              refine lv_iload hx hb dL_holds_138 (lv_at hl 2 rfl) ?_
              refine lv_if_eq (tgt := 167) hx hb dL_holds_140 (by decide) (fun z => absurd z (by decide)) (fun _ => ?_)
              refine lv_aload_n hx hb dL_holds_143 rfl (lv_at hl 8 rfl) ?_
              refine lv_iload hx hb dL_holds_144 (lv_at hl 3 rfl) ?_
              refine fr_Vi (As := [.int (nI (k9))]) (rest := [.int (nI ((cntH ν 0 k9)))]) (fs' := [stW T (AD 0) ν, [(((AD 8) 0), .inr (5, [.ref ((AD 0) 0), .ref ((AD 1) 0), .ref ((AD 8) 1), .ref ((AD 9) 0), .ref ((AD 7) 0)]))]]) (ci := 5) (q0 := (RX5, TX5, 5)) (i0 := 1) ⟨hx, hb, hml, hown, hts⟩ (kX5_mirrorValue_n l D T Z AD ν k9 (by omega)) (cwV 1 hts gL_holds_X5_mirrorValue rfl rfl rfl (by decide +kernel) ⟨Nat.le_of_ble_eq_true rfl, Nat.le_of_ble_eq_true rfl⟩) hK hN hM hP hD hS hA [0, 1] rfl rfl rfl rfl rfl rfl hl.1 rfl (Nat.le_of_ble_eq_true rfl) dL_holds_146 ⟨Nat.zero_le _, Nat.zero_le _⟩ (fun H locs hP hD hS => ?_)
              cases eB : bz (ν 9 (k9 / 4))
              · refine fr_val (show mvF ν k9 = (-6) from by unfold mvF; rw [eB, if_neg Bool.false_ne_true]) ?_
                have eH : canH ν k9 = false := cH_m eB
                refine lv_if_lt (tgt := 167) hx hb dL_holds_149 (by decide) (fun _ => ?_) (fun z => absurd (by decide) z)
                refine lv_iconst (v := nI 0) hx hb dL_holds_167 (by decide) ?_
                refine fr_iadd ((cntH ν 0 k9)) (0) hx hb dL_holds_168 ?_
                refine lv_istore (lv' := [(5, .int (nI (((cntH ν 0 k9) + 0)))), (2, .int (nI (((cntP (ν 1) 0 k9) + 1)))), (6, .int (nI 1)), (8, .int (nI 1)), (7, .int (nI (k9))), (4, .int (nI 0)), (3, .int (nI 0)), (1, .int (nI 0)), (0, .ref ((AD 8) 0))]) hx hb dL_holds_169 hl (by decide) rfl (fun ls hl => ?_)
                refine fr_iinc (k9) ((k9 + 1)) (nI_inc _) (lv' := [(7, .int (nI ((k9 + 1)))), (5, .int (nI (((cntH ν 0 k9) + 0)))), (2, .int (nI (((cntP (ν 1) 0 k9) + 1)))), (6, .int (nI 1)), (8, .int (nI 1)), (4, .int (nI 0)), (3, .int (nI 0)), (1, .int (nI 0)), (0, .ref ((AD 8) 0))]) (k := 4) hx hb dL_holds_171 hl rfl (by decide) rfl (fun ls hl => ?_)
                refine lv_goto (tgt := 18) hx hb dL_holds_174 (by decide) ?_
                have q_43 : (nI (((cntH ν 0 k9) + 0)) : Int32) = nI ((cntH ν 0 (k9 + 1))) := (by first | rfl | first | exact congrArg nI (cntP_t eP).symm | exact congrArg nI (cntP_f eP).symm | exact congrArg nI (cntH_t (i := 0) (zadd.trans eH)).symm | exact congrArg nI (cntH_f (i := 0) (zadd.trans eH)).symm)
                have q_44 : (nI (((cntP (ν 1) 0 k9) + 1)) : Int32) = nI ((cntP (ν 1) 0 (k9 + 1))) := (by first | rfl | first | exact congrArg nI (cntP_t eP).symm | exact congrArg nI (cntP_f eP).symm | exact congrArg nI (cntH_t (i := 0) (zadd.trans eH)).symm | exact congrArg nI (cntH_f (i := 0) (zadd.trans eH)).symm)
                have hl : lv_has ls 9 [(7, .int (nI ((k9 + 1)))), (5, .int (nI ((cntH ν 0 (k9 + 1))))), (2, .int (nI ((cntP (ν 1) 0 (k9 + 1))))), (6, .int (nI 1)), (8, .int (nI 1)), (4, .int (nI 0)), (3, .int (nI 0)), (1, .int (nI 0)), (0, .ref ((AD 8) 0))] := by rw [← q_43, ← q_44]; exact hl
                exact ih ((k9 + 1)) (by omega) (by omega) H locs hP hD hS ls (lv_sub hl [0, 3, 1, 5, 6, 2, 7, 8] rfl)
              · refine fr_val (show mvF ν k9 = nI (tn (ν 3 k9)) from by unfold mvF; rw [eB, if_pos rfl]; exact (Hi.s (k := k9) (by omega)).1.1) ?_
                have hms := (Hi.s (k := k9) (by omega)).1.2
                refine lv_if_lt (tgt := 167) hx hb dL_holds_149 (by decide) (fun z => absurd z (nI_pos (by omega))) (fun _ => ?_)
                refine lv_aload_n hx hb dL_holds_152 rfl (lv_at hl 8 rfl) ?_
                refine lv_iload hx hb dL_holds_153 (lv_at hl 3 rfl) ?_
                refine fr_Vi (As := [.int (nI (k9))]) (rest := [.int (nI ((cntH ν 0 k9)))]) (fs' := [stW T (AD 0) ν, [(((AD 8) 0), .inr (5, [.ref ((AD 0) 0), .ref ((AD 1) 0), .ref ((AD 8) 1), .ref ((AD 9) 0), .ref ((AD 7) 0)]))]]) (ci := 5) (q0 := (RX5, TX5, 5)) (i0 := 1) ⟨hx, hb, hml, hown, hts⟩ (kX5_mirrorOrigin_n l D T Z AD ν k9 (by omega)) (cwV 1 hts gL_holds_X5_mirrorOrigin rfl rfl rfl (by decide +kernel) ⟨Nat.le_of_ble_eq_true rfl, Nat.le_of_ble_eq_true rfl⟩) hK hN hM hP hD hS hA [0, 1] rfl rfl rfl rfl rfl rfl hl.1 rfl (Nat.le_of_ble_eq_true rfl) dL_holds_155 ⟨Nat.zero_le _, Nat.zero_le _⟩ (fun H locs hP hD hS => ?_)
                refine fr_val (show moF ν k9 = ν 4 k9 from by unfold moF; rw [eB, if_pos rfl]) ?_
                refine lv_bipush (v := (-6)) hx hb dL_holds_158 (by decide) ?_
                refine lv_icmp_ne (tgt := 167) hx hb dL_holds_160 (by decide) (fun c_45 => ?_) (fun c_45 => ?_)
                · have eH : canH ν k9 = false := cH_s (ps_of c_45)
                  refine lv_iconst (v := nI 0) hx hb dL_holds_167 (by decide) ?_
                  refine fr_iadd ((cntH ν 0 k9)) (0) hx hb dL_holds_168 ?_
                  refine lv_istore (lv' := [(5, .int (nI (((cntH ν 0 k9) + 0)))), (2, .int (nI (((cntP (ν 1) 0 k9) + 1)))), (6, .int (nI 1)), (8, .int (nI 1)), (7, .int (nI (k9))), (4, .int (nI 0)), (3, .int (nI 0)), (1, .int (nI 0)), (0, .ref ((AD 8) 0))]) hx hb dL_holds_169 hl (by decide) rfl (fun ls hl => ?_)
                  refine fr_iinc (k9) ((k9 + 1)) (nI_inc _) (lv' := [(7, .int (nI ((k9 + 1)))), (5, .int (nI (((cntH ν 0 k9) + 0)))), (2, .int (nI (((cntP (ν 1) 0 k9) + 1)))), (6, .int (nI 1)), (8, .int (nI 1)), (4, .int (nI 0)), (3, .int (nI 0)), (1, .int (nI 0)), (0, .ref ((AD 8) 0))]) (k := 4) hx hb dL_holds_171 hl rfl (by decide) rfl (fun ls hl => ?_)
                  refine lv_goto (tgt := 18) hx hb dL_holds_174 (by decide) ?_
                  have q_46 : (nI (((cntH ν 0 k9) + 0)) : Int32) = nI ((cntH ν 0 (k9 + 1))) := (by first | rfl | first | exact congrArg nI (cntP_t eP).symm | exact congrArg nI (cntP_f eP).symm | exact congrArg nI (cntH_t (i := 0) (zadd.trans eH)).symm | exact congrArg nI (cntH_f (i := 0) (zadd.trans eH)).symm)
                  have q_47 : (nI (((cntP (ν 1) 0 k9) + 1)) : Int32) = nI ((cntP (ν 1) 0 (k9 + 1))) := (by first | rfl | first | exact congrArg nI (cntP_t eP).symm | exact congrArg nI (cntP_f eP).symm | exact congrArg nI (cntH_t (i := 0) (zadd.trans eH)).symm | exact congrArg nI (cntH_f (i := 0) (zadd.trans eH)).symm)
                  have hl : lv_has ls 9 [(7, .int (nI ((k9 + 1)))), (5, .int (nI ((cntH ν 0 (k9 + 1))))), (2, .int (nI ((cntP (ν 1) 0 (k9 + 1))))), (6, .int (nI 1)), (8, .int (nI 1)), (4, .int (nI 0)), (3, .int (nI 0)), (1, .int (nI 0)), (0, .ref ((AD 8) 0))] := by rw [← q_46, ← q_47]; exact hl
                  exact ih ((k9 + 1)) (by omega) (by omega) H locs hP hD hS ls (lv_sub hl [0, 3, 1, 5, 6, 2, 7, 8] rfl)
                · have eH : canH ν k9 = true := cH_t eP eB (ps_no c_45)
                  refine lv_iconst (v := nI 1) hx hb dL_holds_163 (by decide) ?_
                  refine lv_goto (tgt := 168) hx hb dL_holds_164 (by decide) ?_
                  refine fr_iadd ((cntH ν 0 k9)) (1) hx hb dL_holds_168 ?_
                  refine lv_istore (lv' := [(5, .int (nI (((cntH ν 0 k9) + 1)))), (2, .int (nI (((cntP (ν 1) 0 k9) + 1)))), (6, .int (nI 1)), (8, .int (nI 1)), (7, .int (nI (k9))), (4, .int (nI 0)), (3, .int (nI 0)), (1, .int (nI 0)), (0, .ref ((AD 8) 0))]) hx hb dL_holds_169 hl (by decide) rfl (fun ls hl => ?_)
                  refine fr_iinc (k9) ((k9 + 1)) (nI_inc _) (lv' := [(7, .int (nI ((k9 + 1)))), (5, .int (nI (((cntH ν 0 k9) + 1)))), (2, .int (nI (((cntP (ν 1) 0 k9) + 1)))), (6, .int (nI 1)), (8, .int (nI 1)), (4, .int (nI 0)), (3, .int (nI 0)), (1, .int (nI 0)), (0, .ref ((AD 8) 0))]) (k := 4) hx hb dL_holds_171 hl rfl (by decide) rfl (fun ls hl => ?_)
                  refine lv_goto (tgt := 18) hx hb dL_holds_174 (by decide) ?_
                  have q_48 : (nI (((cntH ν 0 k9) + 1)) : Int32) = nI ((cntH ν 0 (k9 + 1))) := (by first | rfl | first | exact congrArg nI (cntP_t eP).symm | exact congrArg nI (cntP_f eP).symm | exact congrArg nI (cntH_t (i := 0) (zadd.trans eH)).symm | exact congrArg nI (cntH_f (i := 0) (zadd.trans eH)).symm)
                  have q_49 : (nI (((cntP (ν 1) 0 k9) + 1)) : Int32) = nI ((cntP (ν 1) 0 (k9 + 1))) := (by first | rfl | first | exact congrArg nI (cntP_t eP).symm | exact congrArg nI (cntP_f eP).symm | exact congrArg nI (cntH_t (i := 0) (zadd.trans eH)).symm | exact congrArg nI (cntH_f (i := 0) (zadd.trans eH)).symm)
                  have hl : lv_has ls 9 [(7, .int (nI ((k9 + 1)))), (5, .int (nI ((cntH ν 0 (k9 + 1))))), (2, .int (nI ((cntP (ν 1) 0 (k9 + 1))))), (6, .int (nI 1)), (8, .int (nI 1)), (4, .int (nI 0)), (3, .int (nI 0)), (1, .int (nI 0)), (0, .ref ((AD 8) 0))] := by rw [← q_48, ← q_49]; exact hl
                  exact ih ((k9 + 1)) (by omega) (by omega) H locs hP hD hS ls (lv_sub hl [0, 3, 1, 5, 6, 2, 7, 8] rfl)
  have q_50 : (nI 0 : Int32) = nI ((cntH ν 0 0)) := (by first | rfl | exact congrArg nI (by omega))
  have q_51 : (nI 0 : Int32) = nI ((cntP (ν 1) 0 0)) := (by first | rfl | exact congrArg nI (by omega))
  have hl : lv_has ls 9 [(7, .int (nI 0)), (6, .int (nI 1)), (5, .int (nI ((cntH ν 0 0)))), (4, .int (nI 0)), (3, .int (nI 0)), (2, .int (nI ((cntP (ν 1) 0 0)))), (1, .int (nI 0)), (0, .ref ((AD 8) 0))] := by rw [← q_50, ← q_51]; exact hl
  exact loop18 (32 + 1) (0) (by omega) (by omega) _ _ hP hD hS ls (lv_sub hl [0, 1, 2, 3, 4, 5, 6, 7] rfl)
