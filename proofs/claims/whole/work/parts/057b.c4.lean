
set_option maxHeartbeats 8000000 in
set_option maxRecDepth 100000 in
theorem kX4_readNumber (l : Launch) (D : va_G) (T : Nat → ClassId) (Z : ZZ) (td : Nat → Nat) (ch : Nat → Nat) (len : Nat) (kd : Nat) (q : Q4) (g : Nat) (hch : ∀ k, ch k < 128) (hlen : len ≤ 90) (hq : q.1 ≤ 90) (hpc : q.2.2 ≤ 5) (hg : g ≤ 65535) (hg9 : 9 ≤ g) : CtI l D T Z yX4_readNumber wsX4_readNumber ({ frames := 1, cells := 0, slots := 0, locals := 21 }) (teF T td ch len kd q) [.ref (td 0), .int (nI (g))] (bI (isd ch len q.1)) (teF T td ch len kd (rN ch len g q)) := by
  have hc9 := hch q.1
  refine CtI.of (cc := cX4_readNumber) (maxL := 5) (ret := (some .boolean)) (plainFor_of_name (by decide)) rfl rfl ?_
  intro pP eE s mM bW mE cC A hE hK hN hM hP hD hA
  obtain ⟨hx, hb, hr, hts, hown, hml, hlk⟩ := hE
  have hown : s.vm.findClass RX4 = some mM.cls := hown
  have hP : frP D [[((td 0), .inr (4, [.ref (td 1), .int (nI (len)), .int (nI (q.1)), .int (nI (kd)), .ref (td 2), .int (nI (q.2.2))]))], [((td 1), .inl (T 2, 90, .inl (nf ch)))], [((td 2), .inl (T 0, 5, .inl (nf q.2.1)))]] s.heap := hP
  have hD : va_D A ([[((td 0), .inr (4, [.ref (td 1), .int (nI (len)), .int (nI (q.1)), .int (nI (kd)), .ref (td 2), .int (nI (q.2.2))]))], [((td 1), .inl (T 2, 90, .inl (nf ch)))], [((td 2), .inl (T 0, 5, .inl (nf q.2.1)))]] : List va_W).flatten := hD
  have hS : va_S A s.heap s.heap [] := va_S.rf
  have hl := lv_entry ([.ref (td 0), .int (nI (g))]) (n := 5) (Nat.le_of_ble_eq_true rfl)
  rw [lg_entry_eq]
  generalize (lg_sl ([.ref (td 0), .int (nI (g))]) ++ List.replicate (5 - (lg_sl ([.ref (td 0), .int (nI (g))])).length) Slot.unset).toArray = ls at hl ⊢
  have hl : lv_has ls 5 [(0, .ref (td 0)), (1, .int (nI (g)))] := hl
  have w_23 := hts (.fieldLink RX4 23 "PoisonedMemory$Text" "position" "I") (by decide +kernel)
  have hinX4 : ∀ w ∈ wsX40, w ∈ wsX4_readNumber := by decide +kernel
  refine lv_aload_n hx hb dX4_readNumber_0 rfl (lv_at hl 0 rfl) ?_
  refine fr_Vi (As := []) (rest := []) (fs' := [[((td 0), .inr (4, [.ref (td 1), .int (nI (len)), .int (nI (q.1)), .int (nI (kd)), .ref (td 2), .int (nI (q.2.2))]))], [((td 1), .inl (T 2, 90, .inl (nf ch)))], [((td 2), .inl (T 0, 5, .inl (nf q.2.1)))]]) (ci := 4) (q0 := (RX4, TX4, 6)) (i0 := 0) ⟨hx, hb, hml, hown, hts⟩ (kX4_digitHere l D T Z td ch len kd q hch hlen (by first | omega | (dsimp only; omega))) (cwV 0 hts gX4_readNumber_X4_digitHere rfl rfl rfl (by decide +kernel) ⟨Nat.le_of_ble_eq_true rfl, Nat.le_of_ble_eq_true rfl⟩) hK hN hM hP hD hS hA [0, 1, 2] rfl rfl rfl rfl rfl rfl hl.1 rfl (Nat.le_of_ble_eq_true rfl) dX4_readNumber_1 ⟨Nat.zero_le _, Nat.zero_le _⟩ (fun H locs hP hD hS => ?_)
  rcases Bool.eq_false_or_eq_true (isd ch len q.1) with c_1 | c_1
  · refine fr_val (dh_t c_1) ?_
    have c_1d := isd_t c_1
    refine lv_istore_n (lv' := [(2, .int (nI ((ch q.1 - 48)))), (0, .ref (td 0)), (1, .int (nI (g)))]) hx hb dX4_readNumber_4 rfl hl (by decide) rfl (fun ls hl => ?_)
    refine lv_iload_n hx hb dX4_readNumber_5 rfl (lv_at hl 0 rfl) ?_
    refine lv_if_ge (tgt := 11) hx hb dX4_readNumber_6 (by decide) (fun _ => ?_) (fun z => absurd (nI_pos' (by omega)) z)
    refine lv_iload_n hx hb dX4_readNumber_11 rfl (lv_at hl 0 rfl) ?_
    refine lv_istore_n (lv' := [(3, .int (nI ((ch q.1 - 48)))), (2, .int (nI ((ch q.1 - 48)))), (0, .ref (td 0)), (1, .int (nI (g)))]) hx hb dX4_readNumber_12 rfl hl (by decide) rfl (fun ls hl => ?_)
    refine lv_aload_n hx hb dX4_readNumber_13 rfl (lv_at hl 2 rfl) ?_
    refine lv_dup hx hb dX4_readNumber_14 rfl ?_
    refine va_get (D := D) (ci := 4) (v := .int (nI (q.1))) (C := RX4) (T := TX4) (N := 6) hx hb hts hinX4 hown hK (hP.at 0 rfl) 0 rfl rfl 2 (by decide) w_23 (fun _ h9 => h9) rfl dX4_readNumber_15 ?_
    refine lv_iconst (v := nI 1) hx hb dX4_readNumber_18 (by decide) ?_
    refine fr_iadd (q.1) (1) hx hb dX4_readNumber_19 ?_
    refine fr_put (T := T) (C := RX4) (TT := TX4) (N := 6) (ci := 4) (v := .int (nI ((q.1 + 1)))) (fs' := [[((td 0), .inr (4, [.ref (td 1), .int (nI (len)), .int (nI ((q.1 + 1))), .int (nI (kd)), .ref (td 2), .int (nI (q.2.2))]))], [((td 1), .inl (T 2, 90, .inl (nf ch)))], [((td 2), .inl (T 0, 5, .inl (nf q.2.1)))]]) (ty := .int) hx hb hts hinX4 tyX4 tyX4_ok nmX4 hown hK hP hD hS 0 rfl rfl 2 (by decide) rfl w_23 rfl rfl (by decide +kernel) rfl rfl (Nat.le_of_ble_eq_true rfl) dX4_readNumber_20 (fun H locs hP hD hS => ?_)
    refine lv_iconst (v := nI 0) hx hb dX4_readNumber_23 (by decide) ?_
    refine lv_istore (lv' := [(4, .int (nI 0)), (3, .int (nI ((ch q.1 - 48)))), (2, .int (nI ((ch q.1 - 48)))), (0, .ref (td 0)), (1, .int (nI (g)))]) hx hb dX4_readNumber_24 hl (by decide) rfl (fun ls hl => ?_)
    have loop26 : ∀ (n9 k9 : Nat), k9 ≤ 90 → 90 < k9 + n9 → ∀ (p9 v9 : Nat), p9 ≤ 90 → v9 ≤ g → nlp ch len g (90 - k9) p9 v9 = nlp ch len g 90 (q.1 + 1) (ch q.1 - 48) → ∀ (H : Heap) (locs : List Loc), frP D [[((td 0), .inr (4, [.ref (td 1), .int (nI (len)), .int (nI ((p9, q.2).1)), .int (nI (kd)), .ref (td 2), .int (nI ((p9, q.2).2.2))]))], [((td 1), .inl (T 2, 90, .inl (nf ch)))], [((td 2), .inl (T 0, 5, .inl (nf (p9, q.2).2.1)))]] H → va_D A ([[((td 0), .inr (4, [.ref (td 1), .int (nI (len)), .int (nI ((p9, q.2).1)), .int (nI (kd)), .ref (td 2), .int (nI ((p9, q.2).2.2))]))], [((td 1), .inl (T 2, 90, .inl (nf ch)))], [((td 2), .inl (T 0, 5, .inl (nf (p9, q.2).2.1)))]] : List va_W).flatten → va_S A s.heap H locs → ∀ (ls : Array Slot), lv_has ls 5 [(4, .int (nI (k9))), (3, .int (nI (v9))), (0, .ref (td 0)), (1, .int (nI (g)))] → W pP l eE ({ frames := 1, cells := 0, slots := 0, locals := 21 }) s mM ([.ref (td 0), .int (nI (g))] : List Value).toArray bW mE cC H locs 0 0 (MQ bW (QcI D (teF T td ch len kd (rN ch len g q)) (bI (isd ch len q.1)) A) ([.ref (td 0), .int (nI (g))] : List Value).toArray s 0 0 A) (F0 mM 26 ls []) := by
      intro n9
      induction n9 with
      | zero => intro k9 h1 h2; exact absurd h2 (by omega)
      | succ n9 ih =>
        intro k9 hk1 hk2 p9 v9 hp9 hv9 hinv H locs hP hD hS ls hl
        have hc8 := hch p9
        refine lv_iload hx hb dX4_readNumber_26 (lv_at hl 0 rfl) ?_
        refine lv_bipush (v := nI 90) hx hb dX4_readNumber_28 (by decide) ?_
        refine fr_icmp_ge (k9) (90) (by omega) (by decide) (tgt := 82) hx hb dX4_readNumber_30 (by decide) (fun c_2 => ?_) (fun c_2 => ?_)
        · have c_2' := Nat.not_lt.mpr c_2
          refine lv_aload_n hx hb dX4_readNumber_82 rfl (lv_at hl 2 rfl) ?_
          refine lv_iload_n hx hb dX4_readNumber_83 rfl (lv_at hl 1 rfl) ?_
          refine fr_Vv (As := [.int (nI (v9))]) (rest := []) (fs' := [[((td 0), .inr (4, [.ref (td 1), .int (nI (len)), .int (nI ((addQ (p9, q.2) (p9, q.2).1 v9).1)), .int (nI (kd)), .ref (td 2), .int (nI ((addQ (p9, q.2) (p9, q.2).1 v9).2.2))]))], [((td 1), .inl (T 2, 90, .inl (nf ch)))], [((td 2), .inl (T 0, 5, .inl (nf (addQ (p9, q.2) (p9, q.2).1 v9).2.1)))]]) (ci := 4) (q0 := (RX4, TX4, 6)) (i0 := 0) ⟨hx, hb, hml, hown, hts⟩ (kX4_addPart l D T Z td ch len kd (p9, q.2) v9 (by first | omega | (dsimp only; omega))) (cwV 1 hts gX4_readNumber_X4_addPart rfl rfl rfl (by decide +kernel) ⟨Nat.le_of_ble_eq_true rfl, Nat.le_of_ble_eq_true rfl⟩) hK hN hM hP hD hS hA [0, 1, 2] rfl rfl rfl rfl rfl rfl hl.1 rfl (Nat.le_of_ble_eq_true rfl) dX4_readNumber_84 ⟨Nat.zero_le _, Nat.zero_le _⟩ (fun H locs hP hD hS => ?_)
          refine lv_iconst (v := nI 1) hx hb dX4_readNumber_87 (by decide) ?_
          exact fr_zret hx hb hr hlk hP hS (by rw [c_1]; rfl) (by have h9 : (p9, v9) = nlp ch len g 90 (q.1 + 1) (ch q.1 - 48) := (by rw [← hinv, show 90 - k9 = 0 from by omega]; rfl); simp only [rN, c_1, ↓reduceIte]; rw [← h9]; rfl) rfl dX4_readNumber_88
        · have c_2' := Nat.not_le.mpr c_2
          refine lv_aload_n hx hb dX4_readNumber_33 rfl (lv_at hl 2 rfl) ?_
          refine fr_Vi (As := []) (rest := []) (fs' := [[((td 0), .inr (4, [.ref (td 1), .int (nI (len)), .int (nI ((p9, q.2).1)), .int (nI (kd)), .ref (td 2), .int (nI ((p9, q.2).2.2))]))], [((td 1), .inl (T 2, 90, .inl (nf ch)))], [((td 2), .inl (T 0, 5, .inl (nf (p9, q.2).2.1)))]]) (ci := 4) (q0 := (RX4, TX4, 6)) (i0 := 0) ⟨hx, hb, hml, hown, hts⟩ (kX4_digitHere l D T Z td ch len kd (p9, q.2) hch hlen (by first | omega | (dsimp only; omega))) (cwV 0 hts gX4_readNumber_X4_digitHere rfl rfl rfl (by decide +kernel) ⟨Nat.le_of_ble_eq_true rfl, Nat.le_of_ble_eq_true rfl⟩) hK hN hM hP hD hS hA [0, 1, 2] rfl rfl rfl rfl rfl rfl hl.1 rfl (Nat.le_of_ble_eq_true rfl) dX4_readNumber_34 ⟨Nat.zero_le _, Nat.zero_le _⟩ (fun H locs hP hD hS => ?_)
          rcases Bool.eq_false_or_eq_true (isd ch len (p9, q.2).1) with c_3 | c_3
          · refine fr_val (dh_t c_3) ?_
            have c_3d := isd_t c_3
            refine lv_istore_n (lv' := [(2, .int (nI ((ch ((p9, q.2).1) - 48)))), (4, .int (nI (k9))), (3, .int (nI (v9))), (0, .ref (td 0)), (1, .int (nI (g)))]) hx hb dX4_readNumber_37 rfl hl (by decide) rfl (fun ls hl => ?_)
            refine lv_iload_n hx hb dX4_readNumber_38 rfl (lv_at hl 0 rfl) ?_
            refine lv_if_lt (tgt := 82) hx hb dX4_readNumber_39 (by decide) (fun z => absurd z (nI_pos (by omega))) (fun _ => ?_)
            refine lv_iload_n hx hb dX4_readNumber_42 rfl (lv_at hl 2 rfl) ?_
            refine fr_if_eq (v9) (by omega) (tgt := 82) hx hb dX4_readNumber_43 (by decide) (fun c_4 => ?_) (fun c_4 => ?_)
            · refine lv_aload_n hx hb dX4_readNumber_82 rfl (lv_at hl 3 rfl) ?_
              refine lv_iload_n hx hb dX4_readNumber_83 rfl (lv_at hl 2 rfl) ?_
              refine fr_Vv (As := [.int (nI (v9))]) (rest := []) (fs' := [[((td 0), .inr (4, [.ref (td 1), .int (nI (len)), .int (nI ((addQ (p9, q.2) (p9, q.2).1 v9).1)), .int (nI (kd)), .ref (td 2), .int (nI ((addQ (p9, q.2) (p9, q.2).1 v9).2.2))]))], [((td 1), .inl (T 2, 90, .inl (nf ch)))], [((td 2), .inl (T 0, 5, .inl (nf (addQ (p9, q.2) (p9, q.2).1 v9).2.1)))]]) (ci := 4) (q0 := (RX4, TX4, 6)) (i0 := 0) ⟨hx, hb, hml, hown, hts⟩ (kX4_addPart l D T Z td ch len kd (p9, q.2) v9 (by first | omega | (dsimp only; omega))) (cwV 1 hts gX4_readNumber_X4_addPart rfl rfl rfl (by decide +kernel) ⟨Nat.le_of_ble_eq_true rfl, Nat.le_of_ble_eq_true rfl⟩) hK hN hM hP hD hS hA [0, 1, 2] rfl rfl rfl rfl rfl rfl hl.1 rfl (Nat.le_of_ble_eq_true rfl) dX4_readNumber_84 ⟨Nat.zero_le _, Nat.zero_le _⟩ (fun H locs hP hD hS => ?_)
              refine lv_iconst (v := nI 1) hx hb dX4_readNumber_87 (by decide) ?_
              exact fr_zret hx hb hr hlk hP hS (by rw [c_1]; rfl) (by have h9 : (p9, v9) = nlp ch len g 90 (q.1 + 1) (ch q.1 - 48) := (by rw [← hinv, nlp_stop (fun z => z.2.1 (by omega))]); simp only [rN, c_1, ↓reduceIte]; rw [← h9]; rfl) rfl dX4_readNumber_88
            · refine lv_iload_n hx hb dX4_readNumber_46 rfl (lv_at hl 2 rfl) ?_
              refine lv_bipush (v := nI 10) hx hb dX4_readNumber_47 (by decide) ?_
              refine fr_imul (v9) (10) hx hb dX4_readNumber_49 ?_
              refine lv_iload_n hx hb dX4_readNumber_50 rfl (lv_at hl 0 rfl) ?_
              refine fr_iadd ((v9 * 10)) ((ch ((p9, q.2).1) - 48)) hx hb dX4_readNumber_51 ?_
              refine lv_iload_n hx hb dX4_readNumber_52 rfl (lv_at hl 4 rfl) ?_
              refine fr_icmp_le (((v9 * 10) + (ch ((p9, q.2).1) - 48))) (g) (by omega) (by omega) (tgt := 59) hx hb dX4_readNumber_53 (by decide) (fun c_5 => ?_) (fun c_5 => ?_)
              · have c_5' := Nat.not_lt.mpr c_5
                refine lv_iload_n hx hb dX4_readNumber_59 rfl (lv_at hl 2 rfl) ?_
                refine lv_bipush (v := nI 10) hx hb dX4_readNumber_60 (by decide) ?_
                refine fr_imul (v9) (10) hx hb dX4_readNumber_62 ?_
                refine lv_iload_n hx hb dX4_readNumber_63 rfl (lv_at hl 0 rfl) ?_
                refine fr_iadd ((v9 * 10)) ((ch ((p9, q.2).1) - 48)) hx hb dX4_readNumber_64 ?_
                refine lv_istore_n (lv' := [(3, .int (nI (((v9 * 10) + (ch ((p9, q.2).1) - 48))))), (2, .int (nI ((ch ((p9, q.2).1) - 48)))), (4, .int (nI (k9))), (0, .ref (td 0)), (1, .int (nI (g)))]) hx hb dX4_readNumber_65 rfl hl (by decide) rfl (fun ls hl => ?_)
                refine lv_aload_n hx hb dX4_readNumber_66 rfl (lv_at hl 3 rfl) ?_
                refine lv_dup hx hb dX4_readNumber_67 rfl ?_
                refine va_get (D := D) (ci := 4) (v := .int (nI ((p9, q.2).1))) (C := RX4) (T := TX4) (N := 6) hx hb hts hinX4 hown hK (hP.at 0 rfl) 0 rfl rfl 2 (by decide) w_23 (fun _ h9 => h9) rfl dX4_readNumber_68 ?_
                refine lv_iconst (v := nI 1) hx hb dX4_readNumber_71 (by decide) ?_
                refine fr_iadd ((p9, q.2).1) (1) hx hb dX4_readNumber_72 ?_
                refine fr_put (T := T) (C := RX4) (TT := TX4) (N := 6) (ci := 4) (v := .int (nI (((p9, q.2).1 + 1)))) (fs' := [[((td 0), .inr (4, [.ref (td 1), .int (nI (len)), .int (nI (((p9, q.2).1 + 1))), .int (nI (kd)), .ref (td 2), .int (nI ((p9, q.2).2.2))]))], [((td 1), .inl (T 2, 90, .inl (nf ch)))], [((td 2), .inl (T 0, 5, .inl (nf (p9, q.2).2.1)))]]) (ty := .int) hx hb hts hinX4 tyX4 tyX4_ok nmX4 hown hK hP hD hS 0 rfl rfl 2 (by decide) rfl w_23 rfl rfl (by decide +kernel) rfl rfl (Nat.le_of_ble_eq_true rfl) dX4_readNumber_73 (fun H locs hP hD hS => ?_)
                refine fr_iinc (k9) ((k9 + 1)) (nI_inc _) (lv' := [(4, .int (nI ((k9 + 1)))), (3, .int (nI (((v9 * 10) + (ch ((p9, q.2).1) - 48))))), (2, .int (nI ((ch ((p9, q.2).1) - 48)))), (0, .ref (td 0)), (1, .int (nI (g)))]) (k := 2) hx hb dX4_readNumber_76 hl rfl (by decide) rfl (fun ls hl => ?_)
                refine lv_goto (tgt := 26) hx hb dX4_readNumber_79 (by decide) ?_
                have hgo : isd ch len p9 = true ∧ v9 ≠ 0 ∧ v9 * 10 + (ch p9 - 48) ≤ g := ⟨c_3, by omega, by omega⟩
                exact ih (k9 + 1) (by omega) (by omega) (p9 + 1) (v9 * 10 + (ch p9 - 48)) (by omega) (by omega) ((nlp_go hgo (by omega) rfl).symm.trans hinv) H locs (show frP D [[((td 0), .inr (4, [.ref (td 1), .int (nI (len)), .int (nI ((p9 + 1, q.2).1)), .int (nI (kd)), .ref (td 2), .int (nI ((p9 + 1, q.2).2.2))]))], [((td 1), .inl (T 2, 90, .inl (nf ch)))], [((td 2), .inl (T 0, 5, .inl (nf (p9 + 1, q.2).2.1)))]] H from hP) (show va_D A ([[((td 0), .inr (4, [.ref (td 1), .int (nI (len)), .int (nI ((p9 + 1, q.2).1)), .int (nI (kd)), .ref (td 2), .int (nI ((p9 + 1, q.2).2.2))]))], [((td 1), .inl (T 2, 90, .inl (nf ch)))], [((td 2), .inl (T 0, 5, .inl (nf (p9 + 1, q.2).2.1)))]] : List va_W).flatten from hD) hS ls (lv_sub hl [0, 1, 3, 4] rfl)
              · have c_5' := Nat.not_le.mpr c_5
                refine lv_goto (tgt := 82) hx hb dX4_readNumber_56 (by decide) ?_
                refine lv_aload_n hx hb dX4_readNumber_82 rfl (lv_at hl 3 rfl) ?_
                refine lv_iload_n hx hb dX4_readNumber_83 rfl (lv_at hl 2 rfl) ?_
                refine fr_Vv (As := [.int (nI (v9))]) (rest := []) (fs' := [[((td 0), .inr (4, [.ref (td 1), .int (nI (len)), .int (nI ((addQ (p9, q.2) (p9, q.2).1 v9).1)), .int (nI (kd)), .ref (td 2), .int (nI ((addQ (p9, q.2) (p9, q.2).1 v9).2.2))]))], [((td 1), .inl (T 2, 90, .inl (nf ch)))], [((td 2), .inl (T 0, 5, .inl (nf (addQ (p9, q.2) (p9, q.2).1 v9).2.1)))]]) (ci := 4) (q0 := (RX4, TX4, 6)) (i0 := 0) ⟨hx, hb, hml, hown, hts⟩ (kX4_addPart l D T Z td ch len kd (p9, q.2) v9 (by first | omega | (dsimp only; omega))) (cwV 1 hts gX4_readNumber_X4_addPart rfl rfl rfl (by decide +kernel) ⟨Nat.le_of_ble_eq_true rfl, Nat.le_of_ble_eq_true rfl⟩) hK hN hM hP hD hS hA [0, 1, 2] rfl rfl rfl rfl rfl rfl hl.1 rfl (Nat.le_of_ble_eq_true rfl) dX4_readNumber_84 ⟨Nat.zero_le _, Nat.zero_le _⟩ (fun H locs hP hD hS => ?_)
                refine lv_iconst (v := nI 1) hx hb dX4_readNumber_87 (by decide) ?_
                exact fr_zret hx hb hr hlk hP hS (by rw [c_1]; rfl) (by have h9 : (p9, v9) = nlp ch len g 90 (q.1 + 1) (ch q.1 - 48) := (by rw [← hinv, nlp_stop (fun z => absurd z.2.2 (by omega))]); simp only [rN, c_1, ↓reduceIte]; rw [← h9]; rfl) rfl dX4_readNumber_88
          · refine fr_val (dh_f c_3) ?_
            refine lv_istore_n (lv' := [(2, .int ((-6))), (4, .int (nI (k9))), (3, .int (nI (v9))), (0, .ref (td 0)), (1, .int (nI (g)))]) hx hb dX4_readNumber_37 rfl hl (by decide) rfl (fun ls hl => ?_)
            refine lv_iload_n hx hb dX4_readNumber_38 rfl (lv_at hl 0 rfl) ?_
            refine lv_if_lt (tgt := 82) hx hb dX4_readNumber_39 (by decide) (fun _ => ?_) (fun z => absurd (by decide) z)
            refine lv_aload_n hx hb dX4_readNumber_82 rfl (lv_at hl 3 rfl) ?_
            refine lv_iload_n hx hb dX4_readNumber_83 rfl (lv_at hl 2 rfl) ?_
            refine fr_Vv (As := [.int (nI (v9))]) (rest := []) (fs' := [[((td 0), .inr (4, [.ref (td 1), .int (nI (len)), .int (nI ((addQ (p9, q.2) (p9, q.2).1 v9).1)), .int (nI (kd)), .ref (td 2), .int (nI ((addQ (p9, q.2) (p9, q.2).1 v9).2.2))]))], [((td 1), .inl (T 2, 90, .inl (nf ch)))], [((td 2), .inl (T 0, 5, .inl (nf (addQ (p9, q.2) (p9, q.2).1 v9).2.1)))]]) (ci := 4) (q0 := (RX4, TX4, 6)) (i0 := 0) ⟨hx, hb, hml, hown, hts⟩ (kX4_addPart l D T Z td ch len kd (p9, q.2) v9 (by first | omega | (dsimp only; omega))) (cwV 1 hts gX4_readNumber_X4_addPart rfl rfl rfl (by decide +kernel) ⟨Nat.le_of_ble_eq_true rfl, Nat.le_of_ble_eq_true rfl⟩) hK hN hM hP hD hS hA [0, 1, 2] rfl rfl rfl rfl rfl rfl hl.1 rfl (Nat.le_of_ble_eq_true rfl) dX4_readNumber_84 ⟨Nat.zero_le _, Nat.zero_le _⟩ (fun H locs hP hD hS => ?_)
            refine lv_iconst (v := nI 1) hx hb dX4_readNumber_87 (by decide) ?_
            exact fr_zret hx hb hr hlk hP hS (by rw [c_1]; rfl) (by have h9 : (p9, v9) = nlp ch len g 90 (q.1 + 1) (ch q.1 - 48) := (by rw [← hinv, nlp_stop (fun z => absurd (c_3.symm.trans z.1) (by decide))]); simp only [rN, c_1, ↓reduceIte]; rw [← h9]; rfl) rfl dX4_readNumber_88
    have q_6 : ([[((td 0), .inr (4, [.ref (td 1), .int (nI (len)), .int (nI ((q.1 + 1))), .int (nI (kd)), .ref (td 2), .int (nI (q.2.2))]))], [((td 1), .inl (T 2, 90, .inl (nf ch)))], [((td 2), .inl (T 0, 5, .inl (nf q.2.1)))]] : List va_W) = [[((td 0), .inr (4, [.ref (td 1), .int (nI (len)), .int (nI (((q.1 + 1), q.2).1)), .int (nI (kd)), .ref (td 2), .int (nI (((q.1 + 1), q.2).2.2))]))], [((td 1), .inl (T 2, 90, .inl (nf ch)))], [((td 2), .inl (T 0, 5, .inl (nf ((q.1 + 1), q.2).2.1)))]] := (by first | rfl | (simp only [c_1, ↓reduceIte, Bool.false_eq_true, bI_true, bI_false, Bool.true_and, Bool.and_true, Bool.and_false, Bool.false_and, Bool.not_true, Bool.not_false, Bool.or_true, Bool.true_or, Bool.or_false, Bool.false_or] <;> rfl) | (simp [c_1]; done))
    rw [q_6] at hP hD
    exact loop26 (90 + 1) (0) (by omega) (by omega) (q.1 + 1) (ch q.1 - 48) (by omega) (by omega) rfl _ _ hP hD hS ls (lv_sub hl [0, 1, 3, 4] rfl)
  · refine fr_val (dh_f c_1) ?_
    refine lv_istore_n (lv' := [(2, .int ((-6))), (0, .ref (td 0)), (1, .int (nI (g)))]) hx hb dX4_readNumber_4 rfl hl (by decide) rfl (fun ls hl => ?_)
    refine lv_iload_n hx hb dX4_readNumber_5 rfl (lv_at hl 0 rfl) ?_
    refine lv_if_ge (tgt := 11) hx hb dX4_readNumber_6 (by decide) (fun z => absurd z (by decide)) (fun _ => ?_)
    refine lv_iconst (v := nI 0) hx hb dX4_readNumber_9 (by decide) ?_
    exact fr_zret hx hb hr hlk hP hS (by rw [c_1]; rfl) (by simp only [rN, c_1, ↓reduceIte, Bool.false_eq_true] <;> rfl) rfl dX4_readNumber_10
