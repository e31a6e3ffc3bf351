set_option maxHeartbeats 8000000 in
set_option maxRecDepth 100000 in
theorem kL_told (l : Launch) (D : va_G) (T : Nat → ClassId) (Z : ZZ) (AD : Nat → Nat → Nat) (ν : NS) (hh : WH (ν 14 0) 8) : CtL l D T Z yL_told wsL_told ({ frames := 2, cells := 0, slots := 0, locals := 43 }) [stW T (AD 0) ν, [(((AD 8) 0), .inr (5, [.ref ((AD 0) 0), .ref ((AD 1) 0), .ref ((AD 8) 1), .ref ((AD 9) 0), .ref ((AD 7) 0)]))]] [.ref ((AD 8) 0)] (tolF ν) [stW T (AD 0) ν, [(((AD 8) 0), .inr (5, [.ref ((AD 0) 0), .ref ((AD 1) 0), .ref ((AD 8) 1), .ref ((AD 9) 0), .ref ((AD 7) 0)]))]] := by
  refine CtL.of (cc := cL_told) (maxL := 4) (ret := (some .long)) (by decide +kernel) rfl rfl ?_
  intro pP eE s mM bW mE cC A hE hK hN hM hP hD hA
  obtain ⟨hx, hb, hr, hts, hown, hml, hlk⟩ := hE
  have hown : s.vm.findClass RL = some mM.cls := hown
  have hS : va_S A s.heap s.heap [] := va_S.rf
  have hl := lv_entry ([.ref ((AD 8) 0)]) (n := 4) (Nat.le_of_ble_eq_true rfl)
  rw [lg_entry_eq]
  generalize (lg_sl ([.ref ((AD 8) 0)]) ++ List.replicate (4 - (lg_sl ([.ref ((AD 8) 0)])).length) Slot.unset).toArray = ls at hl ⊢
  have hl : lv_has ls 4 [(0, .ref ((AD 8) 0))] := hl
  have w_9 := hts (.constantLong RL 9 (97)) (by decide +kernel)
  have w_17 := hts (.constantLong RL 17 (31)) (by decide +kernel)
  refine lv_ldc2 hx hb hown w_9 dL_told_0 ?_
  refine lv_aload_n hx hb dL_told_3 rfl (lv_at hl 0 rfl) ?_
  refine fr_Vi (As := []) (rest := [.long ((97 : Int64))]) (fs' := [stW T (AD 0) ν, [(((AD 8) 0), .inr (5, [.ref ((AD 0) 0), .ref ((AD 1) 0), .ref ((AD 8) 1), .ref ((AD 9) 0), .ref ((AD 7) 0)]))]]) (ci := 5) (q0 := (RX5, TX5, 5)) (i0 := 1) ⟨hx, hb, hml, hown, hts⟩ (kX5_injections_n l D T Z AD ν) (cwV 0 hts gL_told_X5_injections rfl rfl rfl (by decide +kernel) ⟨Nat.le_of_ble_eq_true rfl, Nat.le_of_ble_eq_true rfl⟩) hK hN hM hP hD hS hA [0, 1] rfl rfl rfl rfl rfl rfl hl.1 rfl (Nat.le_of_ble_eq_true rfl) dL_told_4 ⟨Nat.zero_le _, Nat.zero_le _⟩ (fun H locs hP hD hS => ?_)
  refine lv_i2l hx hb dL_told_7 rfl ?_
  refine lv_lmul hx hb dL_told_8 ?_
  refine lv_ldc2 hx hb hown w_17 dL_told_9 ?_
  refine lv_aload_n hx hb dL_told_12 rfl (lv_at hl 0 rfl) ?_
  refine fr_Vi (As := []) (rest := [.long ((31 : Int64)), .long ((97 : Int64) * ((ν 15 0).toInt64))]) (fs' := [stW T (AD 0) ν, [(((AD 8) 0), .inr (5, [.ref ((AD 0) 0), .ref ((AD 1) 0), .ref ((AD 8) 1), .ref ((AD 9) 0), .ref ((AD 7) 0)]))]]) (ci := 5) (q0 := (RX5, TX5, 5)) (i0 := 1) ⟨hx, hb, hml, hown, hts⟩ (kX5_faults_n l D T Z AD ν) (cwV 0 hts gL_told_X5_faults rfl rfl rfl (by decide +kernel) ⟨Nat.le_of_ble_eq_true rfl, Nat.le_of_ble_eq_true rfl⟩) hK hN hM hP hD hS hA [0, 1] rfl rfl rfl rfl rfl rfl hl.1 rfl (Nat.le_of_ble_eq_true rfl) dL_told_13 ⟨Nat.zero_le _, Nat.zero_le _⟩ (fun H locs hP hD hS => ?_)
  refine lv_i2l hx hb dL_told_16 rfl ?_
  refine lv_lmul hx hb dL_told_17 ?_
  refine lv_ladd hx hb dL_told_18 ?_
  refine lv_aload_n hx hb dL_told_19 rfl (lv_at hl 0 rfl) ?_
  refine fr_Vi (As := []) (rest := [.long (((97 : Int64) * ((ν 15 0).toInt64)) + ((31 : Int64) * ((ν 14 1).toInt64)))]) (fs' := [stW T (AD 0) ν, [(((AD 8) 0), .inr (5, [.ref ((AD 0) 0), .ref ((AD 1) 0), .ref ((AD 8) 1), .ref ((AD 9) 0), .ref ((AD 7) 0)]))]]) (ci := 5) (q0 := (RX5, TX5, 5)) (i0 := 1) ⟨hx, hb, hml, hown, hts⟩ (kX5_healed_n l D T Z AD ν) (cwV 0 hts gL_told_X5_healed rfl rfl rfl (by decide +kernel) ⟨Nat.le_of_ble_eq_true rfl, Nat.le_of_ble_eq_true rfl⟩) hK hN hM hP hD hS hA [0, 1] rfl rfl rfl rfl rfl rfl hl.1 rfl (Nat.le_of_ble_eq_true rfl) dL_told_20 ⟨Nat.zero_le _, Nat.zero_le _⟩ (fun H locs hP hD hS => ?_)
  refine lv_i2l hx hb dL_told_23 rfl ?_
  refine lv_ladd hx hb dL_told_24 ?_
  refine lv_lstore_n (lv' := [(1, .long ((((97 : Int64) * ((ν 15 0).toInt64)) + ((31 : Int64) * ((ν 14 1).toInt64))) + ((ν 15 1).toInt64))), (0, .ref ((AD 8) 0))]) hx hb dL_told_25 rfl hl (by decide) rfl (fun ls hl => ?_)
  refine lv_iconst (v := nI 0) hx hb dL_told_26 (by decide) ?_
  refine lv_istore_n (lv' := [(3, .int (nI 0)), (1, .long ((((97 : Int64) * ((ν 15 0).toInt64)) + ((31 : Int64) * ((ν 14 1).toInt64))) + ((ν 15 1).toInt64))), (0, .ref ((AD 8) 0))]) hx hb dL_told_27 rfl hl (by decide) rfl (fun ls hl => ?_)
  have loop28 : ∀ (n9 k9 : Nat), k9 ≤ 32 → 32 < k9 + n9 → ∀ (H : Heap) (locs : List Loc), frP D [stW T (AD 0) ν, [(((AD 8) 0), .inr (5, [.ref ((AD 0) 0), .ref ((AD 1) 0), .ref ((AD 8) 1), .ref ((AD 9) 0), .ref ((AD 7) 0)]))]] H → va_D A ([stW T (AD 0) ν, [(((AD 8) 0), .inr (5, [.ref ((AD 0) 0), .ref ((AD 1) 0), .ref ((AD 8) 1), .ref ((AD 9) 0), .ref ((AD 7) 0)]))]] : List va_W).flatten → va_S A s.heap H locs → ∀ (ls : Array Slot), lv_has ls 4 [(3, .int (nI (k9))), (1, .long (tlA ν k9)), (0, .ref ((AD 8) 0))] → W pP l eE ({ frames := 2, cells := 0, slots := 0, locals := 43 }) s mM ([.ref ((AD 8) 0)] : List Value).toArray bW mE cC H locs 0 0 (MQ bW (QcL D [stW T (AD 0) ν, [(((AD 8) 0), .inr (5, [.ref ((AD 0) 0), .ref ((AD 1) 0), .ref ((AD 8) 1), .ref ((AD 9) 0), .ref ((AD 7) 0)]))]] (tolF ν) A) ([.ref ((AD 8) 0)] : List Value).toArray s 0 0 A) (F0 mM 28 ls []) := by
    intro n9
    induction n9 with
    | zero => intro k9 h1 h2; exact absurd h2 (by omega)
    | succ n9 ih =>
      intro k9 hk1 hk2 H locs hP hD hS ls hl
      refine lv_iload_n hx hb dL_told_28 rfl (lv_at hl 0 rfl) ?_
      refine lv_bipush (v := nI 32) hx hb dL_told_29 (by decide) ?_
      refine fr_icmp_ge (k9) (32) (by omega) (by decide) (tgt := 115) hx hb dL_told_31 (by decide) (fun c_1 => ?_) (fun c_1 => ?_)
      · have c_1' := Nat.not_lt.mpr c_1
        obtain rfl : k9 = 32 := by omega
        refine lv_iconst (v := nI 0) hx hb dL_told_115 (by decide) ?_
        refine lv_istore_n (lv' := [(3, .int (nI 0)), (1, .long (tlA ν 32)), (0, .ref ((AD 8) 0))]) hx hb dL_told_116 rfl hl (by decide) rfl (fun ls hl => ?_)
        have loop117 : ∀ (n9 k8 : Nat), k8 ≤ 16 → 16 < k8 + n9 → ∀ (H : Heap) (locs : List Loc), frP D [stW T (AD 0) ν, [(((AD 8) 0), .inr (5, [.ref ((AD 0) 0), .ref ((AD 1) 0), .ref ((AD 8) 1), .ref ((AD 9) 0), .ref ((AD 7) 0)]))]] H → va_D A ([stW T (AD 0) ν, [(((AD 8) 0), .inr (5, [.ref ((AD 0) 0), .ref ((AD 1) 0), .ref ((AD 8) 1), .ref ((AD 9) 0), .ref ((AD 7) 0)]))]] : List va_W).flatten → va_S A s.heap H locs → ∀ (ls : Array Slot), lv_has ls 4 [(3, .int (nI (k8))), (1, .long (tlB ν k8)), (0, .ref ((AD 8) 0))] → W pP l eE ({ frames := 2, cells := 0, slots := 0, locals := 43 }) s mM ([.ref ((AD 8) 0)] : List Value).toArray bW mE cC H locs 0 0 (MQ bW (QcL D [stW T (AD 0) ν, [(((AD 8) 0), .inr (5, [.ref ((AD 0) 0), .ref ((AD 1) 0), .ref ((AD 8) 1), .ref ((AD 9) 0), .ref ((AD 7) 0)]))]] (tolF ν) A) ([.ref ((AD 8) 0)] : List Value).toArray s 0 0 A) (F0 mM 117 ls []) := by
          intro n9
          induction n9 with
          | zero => intro k8 h1 h2; exact absurd h2 (by omega)
          | succ n9 ih =>
            intro k8 hk1 hk2 H locs hP hD hS ls hl
            refine lv_iload_n hx hb dL_told_117 rfl (lv_at hl 0 rfl) ?_
            refine lv_bipush (v := nI 16) hx hb dL_told_118 (by decide) ?_
            refine fr_icmp_ge (k8) (16) (by omega) (by decide) (tgt := 179) hx hb dL_told_120 (by decide) (fun c_2 => ?_) (fun c_2 => ?_)
            · have c_2' := Nat.not_lt.mpr c_2
              obtain rfl : k8 = 16 := by omega
              refine lv_iconst (v := nI 0) hx hb dL_told_179 (by decide) ?_
              refine lv_istore_n (lv' := [(3, .int (nI 0)), (1, .long (tlB ν 16)), (0, .ref ((AD 8) 0))]) hx hb dL_told_180 rfl hl (by decide) rfl (fun ls hl => ?_)
              have loop181 : ∀ (n9 k7 : Nat), k7 ≤ 4 → 4 < k7 + n9 → ∀ (H : Heap) (locs : List Loc), frP D [stW T (AD 0) ν, [(((AD 8) 0), .inr (5, [.ref ((AD 0) 0), .ref ((AD 1) 0), .ref ((AD 8) 1), .ref ((AD 9) 0), .ref ((AD 7) 0)]))]] H → va_D A ([stW T (AD 0) ν, [(((AD 8) 0), .inr (5, [.ref ((AD 0) 0), .ref ((AD 1) 0), .ref ((AD 8) 1), .ref ((AD 9) 0), .ref ((AD 7) 0)]))]] : List va_W).flatten → va_S A s.heap H locs → ∀ (ls : Array Slot), lv_has ls 4 [(3, .int (nI (k7))), (1, .long (tlC ν k7)), (0, .ref ((AD 8) 0))] → W pP l eE ({ frames := 2, cells := 0, slots := 0, locals := 43 }) s mM ([.ref ((AD 8) 0)] : List Value).toArray bW mE cC H locs 0 0 (MQ bW (QcL D [stW T (AD 0) ν, [(((AD 8) 0), .inr (5, [.ref ((AD 0) 0), .ref ((AD 1) 0), .ref ((AD 8) 1), .ref ((AD 9) 0), .ref ((AD 7) 0)]))]] (tolF ν) A) ([.ref ((AD 8) 0)] : List Value).toArray s 0 0 A) (F0 mM 181 ls []) := by
                intro n9
                induction n9 with
                | zero => intro k7 h1 h2; exact absurd h2 (by omega)
                | succ n9 ih =>
                  intro k7 hk1 hk2 H locs hP hD hS ls hl
                  refine lv_iload_n hx hb dL_told_181 rfl (lv_at hl 0 rfl) ?_
                  refine lv_iconst (v := nI 4) hx hb dL_told_182 (by decide) ?_
                  refine fr_icmp_ge (k7) (4) (by omega) (by decide) (tgt := 216) hx hb dL_told_183 (by decide) (fun c_3 => ?_) (fun c_3 => ?_)
                  · have c_3' := Nat.not_lt.mpr c_3
                    obtain rfl : k7 = 4 := by omega
                    refine lv_lload_n hx hb dL_told_216 rfl (lv_at hl 1 rfl) ?_
                    exact fr_lret hx hb hr hlk hP hS (by first | rfl | exact rfl) rfl dL_told_217
                  · have c_3' := Nat.not_le.mpr c_3
                    refine lv_ldc2 hx hb hown w_17 dL_told_186 ?_
                    refine lv_ldc2 hx hb hown w_17 dL_told_189 ?_
                    refine lv_lload_n hx hb dL_told_192 rfl (lv_at hl 1 rfl) ?_
                    refine lv_lmul hx hb dL_told_193 ?_
                    refine lv_aload_n hx hb dL_told_194 rfl (lv_at hl 2 rfl) ?_
                    refine lv_iload_n hx hb dL_told_195 rfl (lv_at hl 0 rfl) ?_
                    refine fr_Vi (As := [.int (nI (k7))]) (rest := [.long ((31 : Int64) * (tlC ν k7)), .long ((31 : Int64))]) (fs' := [stW T (AD 0) ν, [(((AD 8) 0), .inr (5, [.ref ((AD 0) 0), .ref ((AD 1) 0), .ref ((AD 8) 1), .ref ((AD 9) 0), .ref ((AD 7) 0)]))]]) (ci := 5) (q0 := (RX5, TX5, 5)) (i0 := 1) ⟨hx, hb, hml, hown, hts⟩ (kX5_mode_n l D T Z AD ν k7 (by omega)) (cwV 1 hts gL_told_X5_mode rfl rfl rfl (by decide +kernel) ⟨Nat.le_of_ble_eq_true rfl, Nat.le_of_ble_eq_true rfl⟩) hK hN hM hP hD hS hA [0, 1] rfl rfl rfl rfl rfl rfl hl.1 rfl (Nat.le_of_ble_eq_true rfl) dL_told_196 ⟨Nat.zero_le _, Nat.zero_le _⟩ (fun H locs hP hD hS => ?_)
                    refine lv_i2l hx hb dL_told_199 rfl ?_
                    refine lv_ladd hx hb dL_told_200 ?_
                    refine lv_lmul hx hb dL_told_201 ?_
                    refine lv_aload_n hx hb dL_told_202 rfl (lv_at hl 2 rfl) ?_
                    refine lv_iload_n hx hb dL_told_203 rfl (lv_at hl 0 rfl) ?_
                    refine fr_Vi (As := [.int (nI (k7))]) (rest := [.long ((31 : Int64) * (((31 : Int64) * (tlC ν k7)) + ((ν 10 k7).toInt64)))]) (fs' := [stW T (AD 0) ν, [(((AD 8) 0), .inr (5, [.ref ((AD 0) 0), .ref ((AD 1) 0), .ref ((AD 8) 1), .ref ((AD 9) 0), .ref ((AD 7) 0)]))]]) (ci := 5) (q0 := (RX5, TX5, 5)) (i0 := 1) ⟨hx, hb, hml, hown, hts⟩ (kX5_stopped_n l D T Z AD ν k7 (by omega)) (cwV 1 hts gL_told_X5_stopped rfl rfl rfl (by decide +kernel) ⟨Nat.le_of_ble_eq_true rfl, Nat.le_of_ble_eq_true rfl⟩) hK hN hM hP hD hS hA [0, 1] rfl rfl rfl rfl rfl rfl hl.1 rfl (Nat.le_of_ble_eq_true rfl) dL_told_204 ⟨Nat.zero_le _, Nat.zero_le _⟩ (fun H locs hP hD hS => ?_)
                    refine lv_i2l hx hb dL_told_207 rfl ?_
                    refine lv_ladd hx hb dL_told_208 ?_
                    refine lv_lstore_n (lv' := [(1, .long (((31 : Int64) * (((31 : Int64) * (tlC ν k7)) + ((ν 10 k7).toInt64))) + ((bI (bz (ν 11 k7))).toInt64))), (3, .int (nI (k7))), (0, .ref ((AD 8) 0))]) hx hb dL_told_209 rfl hl (by decide) rfl (fun ls hl => ?_)
                    refine fr_iinc (k7) ((k7 + 1)) (nI_inc _) (lv' := [(3, .int (nI ((k7 + 1)))), (1, .long (((31 : Int64) * (((31 : Int64) * (tlC ν k7)) + ((ν 10 k7).toInt64))) + ((bI (bz (ν 11 k7))).toInt64))), (0, .ref ((AD 8) 0))]) (k := 1) hx hb dL_told_210 hl rfl (by decide) rfl (fun ls hl => ?_)
                    refine lv_goto (tgt := 181) hx hb dL_told_213 (by decide) ?_
                    have q_4 : (((31 : Int64) * (((31 : Int64) * (tlC ν k7)) + ((ν 10 k7).toInt64))) + ((bI (bz (ν 11 k7))).toInt64) : Int64) = tlC ν (k7 + 1) := rfl
                    have hl : lv_has ls 4 [(3, .int (nI ((k7 + 1)))), (1, .long (tlC ν (k7 + 1))), (0, .ref ((AD 8) 0))] := by rw [← q_4]; exact hl
                    exact ih ((k7 + 1)) (by omega) (by omega) H locs hP hD hS ls (lv_sub hl [0, 1, 2] rfl)
              have q_5 : (tlB ν 16 : Int64) = tlC ν 0 := rfl
              have hl : lv_has ls 4 [(3, .int (nI 0)), (1, .long (tlC ν 0)), (0, .ref ((AD 8) 0))] := by rw [← q_5]; exact hl
              exact loop181 (4 + 1) (0) (by omega) (by omega) _ _ hP hD hS ls (lv_sub hl [0, 1, 2] rfl)
            · have c_2' := Nat.not_le.mpr c_2
              refine lv_ldc2 hx hb hown w_17 dL_told_123 ?_
              refine lv_ldc2 hx hb hown w_17 dL_told_126 ?_
              refine lv_ldc2 hx hb hown w_17 dL_told_129 ?_
              refine lv_lload_n hx hb dL_told_132 rfl (lv_at hl 1 rfl) ?_
              refine lv_lmul hx hb dL_told_133 ?_
              refine lv_aload_n hx hb dL_told_134 rfl (lv_at hl 2 rfl) ?_
              refine lv_iload_n hx hb dL_told_135 rfl (lv_at hl 0 rfl) ?_
              refine lv_iconst (v := nI 4) hx hb dL_told_136 (by decide) ?_
              refine fr_idiv (k8) (4) (by omega) (by omega) (by omega) hx hb dL_told_137 ?_
              refine lv_iload_n hx hb dL_told_138 rfl (lv_at hl 0 rfl) ?_
              refine lv_iconst (v := nI 4) hx hb dL_told_139 (by decide) ?_
              refine fr_irem (k8) (4) (by omega) (by omega) (by omega) hx hb dL_told_140 ?_
              refine fr_Vi (As := [.int (nI ((k8 / 4))), .int (nI ((k8 % 4)))]) (rest := [.long ((31 : Int64) * (tlB ν k8)), .long ((31 : Int64)), .long ((31 : Int64))]) (fs' := [stW T (AD 0) ν, [(((AD 8) 0), .inr (5, [.ref ((AD 0) 0), .ref ((AD 1) 0), .ref ((AD 8) 1), .ref ((AD 9) 0), .ref ((AD 7) 0)]))]]) (ci := 5) (q0 := (RX5, TX5, 5)) (i0 := 1) ⟨hx, hb, hml, hown, hts⟩ (kX5_register_n l D T Z AD ν (k8 / 4) (k8 % 4) (by omega) (by omega)) (cwV 2 hts gL_told_X5_register rfl rfl rfl (by decide +kernel) ⟨Nat.le_of_ble_eq_true rfl, Nat.le_of_ble_eq_true rfl⟩) hK hN hM hP hD hS hA [0, 1] rfl rfl rfl rfl rfl rfl hl.1 rfl (Nat.le_of_ble_eq_true rfl) dL_told_141 ⟨Nat.zero_le _, Nat.zero_le _⟩ (fun H locs hP hD hS => ?_)
              refine lv_i2l hx hb dL_told_144 rfl ?_
              refine lv_ladd hx hb dL_told_145 ?_
              refine lv_lmul hx hb dL_told_146 ?_
              refine lv_aload_n hx hb dL_told_147 rfl (lv_at hl 2 rfl) ?_
              refine lv_iload_n hx hb dL_told_148 rfl (lv_at hl 0 rfl) ?_
              refine lv_iconst (v := nI 4) hx hb dL_told_149 (by decide) ?_
              refine fr_idiv (k8) (4) (by omega) (by omega) (by omega) hx hb dL_told_150 ?_
              refine lv_iload_n hx hb dL_told_151 rfl (lv_at hl 0 rfl) ?_
              refine lv_iconst (v := nI 4) hx hb dL_told_152 (by decide) ?_
              refine fr_irem (k8) (4) (by omega) (by omega) (by omega) hx hb dL_told_153 ?_
              refine fr_Vi (As := [.int (nI ((k8 / 4))), .int (nI ((k8 % 4)))]) (rest := [.long ((31 : Int64) * (((31 : Int64) * (tlB ν k8)) + ((ν 6 ((k8 / 4) * 4 + (k8 % 4))).toInt64))), .long ((31 : Int64))]) (fs' := [stW T (AD 0) ν, [(((AD 8) 0), .inr (5, [.ref ((AD 0) 0), .ref ((AD 1) 0), .ref ((AD 8) 1), .ref ((AD 9) 0), .ref ((AD 7) 0)]))]]) (ci := 5) (q0 := (RX5, TX5, 5)) (i0 := 1) ⟨hx, hb, hml, hown, hts⟩ (kX5_registerOrigin_n l D T Z AD ν (k8 / 4) (k8 % 4) (by omega) (by omega)) (cwV 2 hts gL_told_X5_registerOrigin rfl rfl rfl (by decide +kernel) ⟨Nat.le_of_ble_eq_true rfl, Nat.le_of_ble_eq_true rfl⟩) hK hN hM hP hD hS hA [0, 1] rfl rfl rfl rfl rfl rfl hl.1 rfl (Nat.le_of_ble_eq_true rfl) dL_told_154 ⟨Nat.zero_le _, Nat.zero_le _⟩ (fun H locs hP hD hS => ?_)
              refine lv_i2l hx hb dL_told_157 rfl ?_
              refine lv_ladd hx hb dL_told_158 ?_
              refine lv_lmul hx hb dL_told_159 ?_
              refine lv_aload_n hx hb dL_told_160 rfl (lv_at hl 2 rfl) ?_
              refine lv_iload_n hx hb dL_told_161 rfl (lv_at hl 0 rfl) ?_
              refine lv_iconst (v := nI 4) hx hb dL_told_162 (by decide) ?_
              refine fr_idiv (k8) (4) (by omega) (by omega) (by omega) hx hb dL_told_163 ?_
              refine lv_iload_n hx hb dL_told_164 rfl (lv_at hl 0 rfl) ?_
              refine lv_iconst (v := nI 4) hx hb dL_told_165 (by decide) ?_
              refine fr_irem (k8) (4) (by omega) (by omega) (by omega) hx hb dL_told_166 ?_
              refine fr_Vi (As := [.int (nI ((k8 / 4))), .int (nI ((k8 % 4)))]) (rest := [.long ((31 : Int64) * (((31 : Int64) * (((31 : Int64) * (tlB ν k8)) + ((ν 6 ((k8 / 4) * 4 + (k8 % 4))).toInt64))) + ((ν 7 ((k8 / 4) * 4 + (k8 % 4))).toInt64)))]) (fs' := [stW T (AD 0) ν, [(((AD 8) 0), .inr (5, [.ref ((AD 0) 0), .ref ((AD 1) 0), .ref ((AD 8) 1), .ref ((AD 9) 0), .ref ((AD 7) 0)]))]]) (ci := 5) (q0 := (RX5, TX5, 5)) (i0 := 1) ⟨hx, hb, hml, hown, hts⟩ (kX5_registerHops_n l D T Z AD ν (k8 / 4) (k8 % 4) (by omega) (by omega)) (cwV 2 hts gL_told_X5_registerHops rfl rfl rfl (by decide +kernel) ⟨Nat.le_of_ble_eq_true rfl, Nat.le_of_ble_eq_true rfl⟩) hK hN hM hP hD hS hA [0, 1] rfl rfl rfl rfl rfl rfl hl.1 rfl (Nat.le_of_ble_eq_true rfl) dL_told_167 ⟨Nat.zero_le _, Nat.zero_le _⟩ (fun H locs hP hD hS => ?_)
              refine lv_i2l hx hb dL_told_170 rfl ?_
              refine lv_ladd hx hb dL_told_171 ?_
              refine lv_lstore_n (lv' := [(1, .long (((31 : Int64) * (((31 : Int64) * (((31 : Int64) * (tlB ν k8)) + ((ν 6 ((k8 / 4) * 4 + (k8 % 4))).toInt64))) + ((ν 7 ((k8 / 4) * 4 + (k8 % 4))).toInt64))) + ((ν 8 ((k8 / 4) * 4 + (k8 % 4))).toInt64))), (3, .int (nI (k8))), (0, .ref ((AD 8) 0))]) hx hb dL_told_172 rfl hl (by decide) rfl (fun ls hl => ?_)
              refine fr_iinc (k8) ((k8 + 1)) (nI_inc _) (lv' := [(3, .int (nI ((k8 + 1)))), (1, .long (((31 : Int64) * (((31 : Int64) * (((31 : Int64) * (tlB ν k8)) + ((ν 6 ((k8 / 4) * 4 + (k8 % 4))).toInt64))) + ((ν 7 ((k8 / 4) * 4 + (k8 % 4))).toInt64))) + ((ν 8 ((k8 / 4) * 4 + (k8 % 4))).toInt64))), (0, .ref ((AD 8) 0))]) (k := 1) hx hb dL_told_173 hl rfl (by decide) rfl (fun ls hl => ?_)
              refine lv_goto (tgt := 117) hx hb dL_told_176 (by decide) ?_
              have q_6 : (((31 : Int64) * (((31 : Int64) * (((31 : Int64) * (tlB ν k8)) + ((ν 6 ((k8 / 4) * 4 + (k8 % 4))).toInt64))) + ((ν 7 ((k8 / 4) * 4 + (k8 % 4))).toInt64))) + ((ν 8 ((k8 / 4) * 4 + (k8 % 4))).toInt64) : Int64) = tlB ν (k8 + 1) := rfl
              have hl : lv_has ls 4 [(3, .int (nI ((k8 + 1)))), (1, .long (tlB ν (k8 + 1))), (0, .ref ((AD 8) 0))] := by rw [← q_6]; exact hl
              exact ih ((k8 + 1)) (by omega) (by omega) H locs hP hD hS ls (lv_sub hl [0, 1, 2] rfl)
        have q_7 : (tlA ν 32 : Int64) = tlB ν 0 := rfl
        have hl : lv_has ls 4 [(3, .int (nI 0)), (1, .long (tlB ν 0)), (0, .ref ((AD 8) 0))] := by rw [← q_7]; exact hl
        exact loop117 (16 + 1) (0) (by omega) (by omega) _ _ hP hD hS ls (lv_sub hl [0, 1, 2] rfl)
      · have c_1' := Nat.not_le.mpr c_1
        refine lv_ldc2 hx hb hown w_17 dL_told_34 ?_
        refine lv_ldc2 hx hb hown w_17 dL_told_37 ?_
        refine lv_ldc2 hx hb hown w_17 dL_told_40 ?_
        refine lv_lload_n hx hb dL_told_43 rfl (lv_at hl 1 rfl) ?_
        refine lv_lmul hx hb dL_told_44 ?_
        refine lv_aload_n hx hb dL_told_45 rfl (lv_at hl 2 rfl) ?_
        refine lv_iload_n hx hb dL_told_46 rfl (lv_at hl 0 rfl) ?_
        refine fr_Vi (As := [.int (nI (k9))]) (rest := [.long ((31 : Int64) * (tlA ν k9)), .long ((31 : Int64)), .long ((31 : Int64))]) (fs' := [stW T (AD 0) ν, [(((AD 8) 0), .inr (5, [.ref ((AD 0) 0), .ref ((AD 1) 0), .ref ((AD 8) 1), .ref ((AD 9) 0), .ref ((AD 7) 0)]))]]) (ci := 5) (q0 := (RX5, TX5, 5)) (i0 := 1) ⟨hx, hb, hml, hown, hts⟩ (kX5_value_n l D T Z AD ν k9 (by omega)) (cwV 1 hts gL_told_X5_value rfl rfl rfl (by decide +kernel) ⟨Nat.le_of_ble_eq_true rfl, Nat.le_of_ble_eq_true rfl⟩) hK hN hM hP hD hS hA [0, 1] rfl rfl rfl rfl rfl rfl hl.1 rfl (Nat.le_of_ble_eq_true rfl) dL_told_47 ⟨Nat.zero_le _, Nat.zero_le _⟩ (fun H locs hP hD hS => ?_)
        refine lv_i2l hx hb dL_told_50 rfl ?_
        refine lv_ladd hx hb dL_told_51 ?_
        refine lv_lmul hx hb dL_told_52 ?_
        refine lv_aload_n hx hb dL_told_53 rfl (lv_at hl 2 rfl) ?_
        refine lv_iload_n hx hb dL_told_54 rfl (lv_at hl 0 rfl) ?_
        refine fr_Vi (As := [.int (nI (k9))]) (rest := [.long ((31 : Int64) * (((31 : Int64) * (tlA ν k9)) + ((ν 0 k9).toInt64))), .long ((31 : Int64))]) (fs' := [stW T (AD 0) ν, [(((AD 8) 0), .inr (5, [.ref ((AD 0) 0), .ref ((AD 1) 0), .ref ((AD 8) 1), .ref ((AD 9) 0), .ref ((AD 7) 0)]))]]) (ci := 5) (q0 := (RX5, TX5, 5)) (i0 := 1) ⟨hx, hb, hml, hown, hts⟩ (kX5_origin_n l D T Z AD ν k9 (by omega)) (cwV 1 hts gL_told_X5_origin rfl rfl rfl (by decide +kernel) ⟨Nat.le_of_ble_eq_true rfl, Nat.le_of_ble_eq_true rfl⟩) hK hN hM hP hD hS hA [0, 1] rfl rfl rfl rfl rfl rfl hl.1 rfl (Nat.le_of_ble_eq_true rfl) dL_told_55 ⟨Nat.zero_le _, Nat.zero_le _⟩ (fun H locs hP hD hS => ?_)
        refine lv_i2l hx hb dL_told_58 rfl ?_
        refine lv_ladd hx hb dL_told_59 ?_
        refine lv_lmul hx hb dL_told_60 ?_
        refine lv_aload_n hx hb dL_told_61 rfl (lv_at hl 2 rfl) ?_
        refine lv_iload_n hx hb dL_told_62 rfl (lv_at hl 0 rfl) ?_
        refine fr_Vi (As := [.int (nI (k9))]) (rest := [.long ((31 : Int64) * (((31 : Int64) * (((31 : Int64) * (tlA ν k9)) + ((ν 0 k9).toInt64))) + ((ν 1 k9).toInt64)))]) (fs' := [stW T (AD 0) ν, [(((AD 8) 0), .inr (5, [.ref ((AD 0) 0), .ref ((AD 1) 0), .ref ((AD 8) 1), .ref ((AD 9) 0), .ref ((AD 7) 0)]))]]) (ci := 5) (q0 := (RX5, TX5, 5)) (i0 := 1) ⟨hx, hb, hml, hown, hts⟩ (kX5_hops_n l D T Z AD ν k9 (by omega)) (cwV 1 hts gL_told_X5_hops rfl rfl rfl (by decide +kernel) ⟨Nat.le_of_ble_eq_true rfl, Nat.le_of_ble_eq_true rfl⟩) hK hN hM hP hD hS hA [0, 1] rfl rfl rfl rfl rfl rfl hl.1 rfl (Nat.le_of_ble_eq_true rfl) dL_told_63 ⟨Nat.zero_le _, Nat.zero_le _⟩ (fun H locs hP hD hS => ?_)
        refine lv_i2l hx hb dL_told_66 rfl ?_
        refine lv_ladd hx hb dL_told_67 ?_
        refine lv_lstore_n (lv' := [(1, .long (((31 : Int64) * (((31 : Int64) * (((31 : Int64) * (tlA ν k9)) + ((ν 0 k9).toInt64))) + ((ν 1 k9).toInt64))) + ((ν 2 k9).toInt64))), (3, .int (nI (k9))), (0, .ref ((AD 8) 0))]) hx hb dL_told_68 rfl hl (by decide) rfl (fun ls hl => ?_)
        refine lv_ldc2 hx hb hown w_17 dL_told_69 ?_
        refine lv_ldc2 hx hb hown w_17 dL_told_72 ?_
        refine lv_ldc2 hx hb hown w_17 dL_told_75 ?_
        refine lv_lload_n hx hb dL_told_78 rfl (lv_at hl 0 rfl) ?_
        refine lv_lmul hx hb dL_told_79 ?_
        refine lv_aload_n hx hb dL_told_80 rfl (lv_at hl 2 rfl) ?_
        refine lv_iload_n hx hb dL_told_81 rfl (lv_at hl 1 rfl) ?_
        refine fr_Vi (As := [.int (nI (k9))]) (rest := [.long ((31 : Int64) * (((31 : Int64) * (((31 : Int64) * (((31 : Int64) * (tlA ν k9)) + ((ν 0 k9).toInt64))) + ((ν 1 k9).toInt64))) + ((ν 2 k9).toInt64))), .long ((31 : Int64)), .long ((31 : Int64))]) (fs' := [stW T (AD 0) ν, [(((AD 8) 0), .inr (5, [.ref ((AD 0) 0), .ref ((AD 1) 0), .ref ((AD 8) 1), .ref ((AD 9) 0), .ref ((AD 7) 0)]))]]) (ci := 5) (q0 := (RX5, TX5, 5)) (i0 := 1) ⟨hx, hb, hml, hown, hts⟩ (kX5_mirrorValue_n l D T Z AD ν k9 (by omega)) (cwV 1 hts gL_told_X5_mirrorValue rfl rfl rfl (by decide +kernel) ⟨Nat.le_of_ble_eq_true rfl, Nat.le_of_ble_eq_true rfl⟩) hK hN hM hP hD hS hA [0, 1] rfl rfl rfl rfl rfl rfl hl.1 rfl (Nat.le_of_ble_eq_true rfl) dL_told_82 ⟨Nat.zero_le _, Nat.zero_le _⟩ (fun H locs hP hD hS => ?_)
        refine lv_i2l hx hb dL_told_85 rfl ?_
        refine lv_ladd hx hb dL_told_86 ?_
        refine lv_lmul hx hb dL_told_87 ?_
        refine lv_aload_n hx hb dL_told_88 rfl (lv_at hl 2 rfl) ?_
        refine lv_iload_n hx hb dL_told_89 rfl (lv_at hl 1 rfl) ?_
        refine fr_Vi (As := [.int (nI (k9))]) (rest := [.long ((31 : Int64) * (((31 : Int64) * (((31 : Int64) * (((31 : Int64) * (((31 : Int64) * (tlA ν k9)) + ((ν 0 k9).toInt64))) + ((ν 1 k9).toInt64))) + ((ν 2 k9).toInt64))) + ((mvF ν k9).toInt64))), .long ((31 : Int64))]) (fs' := [stW T (AD 0) ν, [(((AD 8) 0), .inr (5, [.ref ((AD 0) 0), .ref ((AD 1) 0), .ref ((AD 8) 1), .ref ((AD 9) 0), .ref ((AD 7) 0)]))]]) (ci := 5) (q0 := (RX5, TX5, 5)) (i0 := 1) ⟨hx, hb, hml, hown, hts⟩ (kX5_mirrorOrigin_n l D T Z AD ν k9 (by omega)) (cwV 1 hts gL_told_X5_mirrorOrigin rfl rfl rfl (by decide +kernel) ⟨Nat.le_of_ble_eq_true rfl, Nat.le_of_ble_eq_true rfl⟩) hK hN hM hP hD hS hA [0, 1] rfl rfl rfl rfl rfl rfl hl.1 rfl (Nat.le_of_ble_eq_true rfl) dL_told_90 ⟨Nat.zero_le _, Nat.zero_le _⟩ (fun H locs hP hD hS => ?_)
        refine lv_i2l hx hb dL_told_93 rfl ?_
        refine lv_ladd hx hb dL_told_94 ?_
        refine lv_lmul hx hb dL_told_95 ?_
        refine lv_aload_n hx hb dL_told_96 rfl (lv_at hl 2 rfl) ?_
        refine lv_iload_n hx hb dL_told_97 rfl (lv_at hl 1 rfl) ?_
        refine lv_iconst (v := nI 4) hx hb dL_told_98 (by decide) ?_
        refine fr_idiv (k9) (4) (by omega) (by omega) (by omega) hx hb dL_told_99 ?_
        refine lv_iload_n hx hb dL_told_100 rfl (lv_at hl 1 rfl) ?_
        refine lv_iconst (v := nI 4) hx hb dL_told_101 (by decide) ?_
        refine fr_irem (k9) (4) (by omega) (by omega) (by omega) hx hb dL_told_102 ?_
        refine fr_Vi (As := [.int (nI ((k9 / 4))), .int (nI ((k9 % 4)))]) (rest := [.long ((31 : Int64) * (((31 : Int64) * (((31 : Int64) * (((31 : Int64) * (((31 : Int64) * (((31 : Int64) * (tlA ν k9)) + ((ν 0 k9).toInt64))) + ((ν 1 k9).toInt64))) + ((ν 2 k9).toInt64))) + ((mvF ν k9).toInt64))) + ((moF ν k9).toInt64)))]) (fs' := [stW T (AD 0) ν, [(((AD 8) 0), .inr (5, [.ref ((AD 0) 0), .ref ((AD 1) 0), .ref ((AD 8) 1), .ref ((AD 9) 0), .ref ((AD 7) 0)]))]]) (ci := 5) (q0 := (RX5, TX5, 5)) (i0 := 1) ⟨hx, hb, hml, hown, hts⟩ (kX5_log_n l D T Z AD ν (k9 / 4) (k9 % 4) hh (by omega) (by omega)) (cwV 2 hts gL_told_X5_log rfl rfl rfl (by decide +kernel) ⟨Nat.le_of_ble_eq_true rfl, Nat.le_of_ble_eq_true rfl⟩) hK hN hM hP hD hS hA [0, 1] rfl rfl rfl rfl rfl rfl hl.1 rfl (Nat.le_of_ble_eq_true rfl) dL_told_103 ⟨Nat.zero_le _, Nat.zero_le _⟩ (fun H locs hP hD hS => ?_)
        refine lv_i2l hx hb dL_told_106 rfl ?_
        refine lv_ladd hx hb dL_told_107 ?_
        refine lv_lstore_n (lv' := [(1, .long (((31 : Int64) * (((31 : Int64) * (((31 : Int64) * (((31 : Int64) * (((31 : Int64) * (((31 : Int64) * (tlA ν k9)) + ((ν 0 k9).toInt64))) + ((ν 1 k9).toInt64))) + ((ν 2 k9).toInt64))) + ((mvF ν k9).toInt64))) + ((moF ν k9).toInt64))) + ((loF ν (k9 / 4) (k9 % 4)).toInt64))), (3, .int (nI (k9))), (0, .ref ((AD 8) 0))]) hx hb dL_told_108 rfl hl (by decide) rfl (fun ls hl => ?_)
        refine fr_iinc (k9) ((k9 + 1)) (nI_inc _) (lv' := [(3, .int (nI ((k9 + 1)))), (1, .long (((31 : Int64) * (((31 : Int64) * (((31 : Int64) * (((31 : Int64) * (((31 : Int64) * (((31 : Int64) * (tlA ν k9)) + ((ν 0 k9).toInt64))) + ((ν 1 k9).toInt64))) + ((ν 2 k9).toInt64))) + ((mvF ν k9).toInt64))) + ((moF ν k9).toInt64))) + ((loF ν (k9 / 4) (k9 % 4)).toInt64))), (0, .ref ((AD 8) 0))]) (k := 1) hx hb dL_told_109 hl rfl (by decide) rfl (fun ls hl => ?_)
        refine lv_goto (tgt := 28) hx hb dL_told_112 (by decide) ?_
        have q_8 : (((31 : Int64) * (((31 : Int64) * (((31 : Int64) * (((31 : Int64) * (((31 : Int64) * (((31 : Int64) * (tlA ν k9)) + ((ν 0 k9).toInt64))) + ((ν 1 k9).toInt64))) + ((ν 2 k9).toInt64))) + ((mvF ν k9).toInt64))) + ((moF ν k9).toInt64))) + ((loF ν (k9 / 4) (k9 % 4)).toInt64) : Int64) = tlA ν (k9 + 1) := rfl
        have hl : lv_has ls 4 [(3, .int (nI ((k9 + 1)))), (1, .long (tlA ν (k9 + 1))), (0, .ref ((AD 8) 0))] := by rw [← q_8]; exact hl
        exact ih ((k9 + 1)) (by omega) (by omega) H locs hP hD hS ls (lv_sub hl [0, 1, 2] rfl)
  have q_9 : ((((97 : Int64) * ((ν 15 0).toInt64)) + ((31 : Int64) * ((ν 14 1).toInt64))) + ((ν 15 1).toInt64) : Int64) = tlA ν 0 := rfl
  have hl : lv_has ls 4 [(3, .int (nI 0)), (1, .long (tlA ν 0)), (0, .ref ((AD 8) 0))] := by rw [← q_9]; exact hl
  exact loop28 (32 + 1) (0) (by omega) (by omega) _ _ hP hD hS ls (lv_sub hl [0, 1, 2] rfl)
