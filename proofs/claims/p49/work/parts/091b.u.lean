set_option maxHeartbeats 8000000 in
set_option maxRecDepth 100000 in
theorem kL_up (l : Launch) (D : va_G) (T : Nat → ClassId) (Z : ZZ) (v : Int32) (n : Nat) (hn0 : 0 < n) (hn1 : n < 2 ^ 31) : CtI l D T Z yL_up wsL_up ({ frames := 0, cells := 0, slots := 0, locals := 0 }) ([] : List va_W) [.int (v), .int (nI (n))] (nI ((upN v % n))) ([] : List va_W) := by
  have hup := upN_lt v
  refine CtI.of (cc := cL_up) (maxL := 2) (ret := (some .int)) (by decide +kernel) rfl rfl ?_
  intro pP eE s mM bW mE cC A hE hK hN hM hP hD hA
  obtain ⟨hx, hb, hr, hts, hown, hml, hlk⟩ := hE
  have hown : s.vm.findClass RL = some mM.cls := hown
  have hS : va_S A s.heap s.heap [] := va_S.rf
  have hl := lv_entry ([.int (v), .int (nI (n))]) (n := 2) (Nat.le_of_ble_eq_true rfl)
  rw [lg_entry_eq]
  generalize (lg_sl ([.int (v), .int (nI (n))]) ++ List.replicate (2 - (lg_sl ([.int (v), .int (nI (n))])).length) Slot.unset).toArray = ls at hl ⊢
  have hl : lv_has ls 2 [(0, .int (v)), (1, .int (nI (n)))] := hl
  have w_8 := hts (.constant RL 8 (2147483647)) (by decide +kernel)
  refine lv_iload_n hx hb dL_up_0 rfl (lv_at hl 0 rfl) ?_
  refine lv_ldc hx hb hown w_8 dL_up_1 ?_
  refine fr_val (show (2147483647 : Int32) = nI 2147483647 from rfl) ?_
  refine lv_iand hx hb dL_up_3 ?_
  refine fr_val (upN_e v) ?_
  refine lv_iload_n hx hb dL_up_4 rfl (lv_at hl 1 rfl) ?_
  refine fr_irem (upN v) (n) (by omega) (by omega) (by omega) hx hb dL_up_5 ?_
  exact fr_iret hx hb hr hlk hP hS rfl rfl dL_up_6

set_option maxHeartbeats 8000000 in
set_option maxRecDepth 100000 in
theorem kL_isError (l : Launch) (D : va_G) (T : Nat → ClassId) (Z : ZZ) (x : Int32)  : CtI l D T Z yL_isError wsL_isError ({ frames := 0, cells := 0, slots := 0, locals := 0 }) ([] : List va_W) [.int (x)] (bI (isErr x)) ([] : List va_W) := by
  refine CtI.of (cc := cL_isError) (maxL := 1) (ret := (some .boolean)) (by decide +kernel) rfl rfl ?_
  intro pP eE s mM bW mE cC A hE hK hN hM hP hD hA
  obtain ⟨hx, hb, hr, hts, hown, hml, hlk⟩ := hE
  have hown : s.vm.findClass RL = some mM.cls := hown
  have hS : va_S A s.heap s.heap [] := va_S.rf
  have hl := lv_entry ([.int (x)]) (n := 1) (Nat.le_of_ble_eq_true rfl)
  rw [lg_entry_eq]
  generalize (lg_sl ([.int (x)]) ++ List.replicate (1 - (lg_sl ([.int (x)])).length) Slot.unset).toArray = ls at hl ⊢
  have hl : lv_has ls 1 [(0, .int (x))] := hl
  refine lv_iload_n hx hb dL_isError_0 rfl (lv_at hl 0 rfl) ?_
  refine lv_if_ge (tgt := 14) hx hb dL_isError_1 (by decide) (fun c_1 => ?_) (fun c_1 => ?_)
  · have c_1' := Int32.not_lt.mpr c_1
    refine lv_iconst (v := nI 0) hx hb dL_isError_14 (by decide) ?_
    exact fr_zret hx hb hr hlk hP hS (by first | rfl | (simp only [isErr, bI, c_1, c_1', ↓reduceIte, Bool.false_eq_true, bI_true, bI_false, Bool.true_and, Bool.and_true, Bool.and_false, Bool.false_and, Bool.not_true, Bool.not_false, Bool.or_true, Bool.true_or, Bool.or_false, Bool.false_or] <;> rfl) | (simp [isErr, bI, c_1, c_1', bI]; done)) rfl rfl dL_isError_15
  · have c_1' := Int32.not_le.mp c_1
    refine lv_iload_n hx hb dL_isError_4 rfl (lv_at hl 0 rfl) ?_
    refine lv_bipush (v := (-6)) hx hb dL_isError_5 (by decide) ?_
    refine lv_icmp_le (tgt := 14) hx hb dL_isError_7 (by decide) (fun c_2 => ?_) (fun c_2 => ?_)
    · have c_2' := Int32.not_lt.mpr c_2
      refine lv_iconst (v := nI 0) hx hb dL_isError_14 (by decide) ?_
      exact fr_zret hx hb hr hlk hP hS (by first | rfl | (simp only [isErr, bI, c_1, c_1', c_2, c_2', ↓reduceIte, Bool.false_eq_true, bI_true, bI_false, Bool.true_and, Bool.and_true, Bool.and_false, Bool.false_and, Bool.not_true, Bool.not_false, Bool.or_true, Bool.true_or, Bool.or_false, Bool.false_or] <;> rfl) | (simp [isErr, bI, c_1, c_1', c_2, c_2', bI]; done)) rfl rfl dL_isError_15
    · have c_2' := Int32.not_le.mp c_2
      refine lv_iconst (v := nI 1) hx hb dL_isError_10 (by decide) ?_
      refine lv_goto (tgt := 15) hx hb dL_isError_11 (by decide) ?_
      exact fr_zret hx hb hr hlk hP hS (by first | rfl | (simp only [isErr, bI, c_1, c_1', c_2, c_2', ↓reduceIte, Bool.false_eq_true, bI_true, bI_false, Bool.true_and, Bool.and_true, Bool.and_false, Bool.false_and, Bool.not_true, Bool.not_false, Bool.or_true, Bool.true_or, Bool.or_false, Bool.false_or] <;> rfl) | (simp [isErr, bI, c_1, c_1', c_2, c_2', bI]; done)) rfl rfl dL_isError_15

set_option maxHeartbeats 8000000 in
set_option maxRecDepth 100000 in
theorem kL_isMark (l : Launch) (D : va_G) (T : Nat → ClassId) (Z : ZZ) (AD : Nat → Nat → Nat) (ν : NS) (x : Int32) (y : Int32)  : CtI l D T Z yL_isMark wsL_isMark ({ frames := 1, cells := 0, slots := 0, locals := 20 }) [stW T (AD 0) ν, [(((AD 8) 0), .inr (5, [.ref ((AD 0) 0), .ref ((AD 1) 0), .ref ((AD 8) 1), .ref ((AD 9) 0), .ref ((AD 7) 0)]))]] [.ref ((AD 8) 0), .int (x), .int (y)] (bI (mkB ν x y)) [stW T (AD 0) ν, [(((AD 8) 0), .inr (5, [.ref ((AD 0) 0), .ref ((AD 1) 0), .ref ((AD 8) 1), .ref ((AD 9) 0), .ref ((AD 7) 0)]))]] := by
  refine CtI.of (cc := cL_isMark) (maxL := 3) (ret := (some .boolean)) (by decide +kernel) rfl rfl ?_
  intro pP eE s mM bW mE cC A hE hK hN hM hP hD hA
  obtain ⟨hx, hb, hr, hts, hown, hml, hlk⟩ := hE
  have hown : s.vm.findClass RL = some mM.cls := hown
  have hS : va_S A s.heap s.heap [] := va_S.rf
  have hl := lv_entry ([.ref ((AD 8) 0), .int (x), .int (y)]) (n := 3) (Nat.le_of_ble_eq_true rfl)
  rw [lg_entry_eq]
  generalize (lg_sl ([.ref ((AD 8) 0), .int (x), .int (y)]) ++ List.replicate (3 - (lg_sl ([.ref ((AD 8) 0), .int (x), .int (y)])).length) Slot.unset).toArray = ls at hl ⊢
  have hl : lv_has ls 3 [(0, .ref ((AD 8) 0)), (1, .int (x)), (2, .int (y))] := hl
  refine lv_iload_n hx hb dL_isMark_0 rfl (lv_at hl 1 rfl) ?_
  refine lv_bipush (v := (-6)) hx hb dL_isMark_1 (by decide) ?_
  refine lv_icmp_ne (tgt := 20) hx hb dL_isMark_3 (by decide) (fun c_1 => ?_) (fun c_1 => ?_)
  · refine lv_iload_n hx hb dL_isMark_20 rfl (lv_at hl 1 rfl) ?_
    refine lv_if_lt (tgt := 46) hx hb dL_isMark_21 (by decide) (fun c_2 => ?_) (fun c_2 => ?_)
    · have c_2' := Int32.not_le.mpr c_2
      refine lv_iconst (v := nI 0) hx hb dL_isMark_46 (by decide) ?_
      exact fr_zret hx hb hr hlk hP hS (by first | (unfold mkB; simp [c_1, c_2, c_2', bI]; done) | (simp [mkB, c_1, c_2, c_2', bI]; done)) rfl rfl dL_isMark_47
    · have c_2' := Int32.not_lt.mp c_2
      refine lv_iload_n hx hb dL_isMark_24 rfl (lv_at hl 1 rfl) ?_
      refine lv_aload_n hx hb dL_isMark_25 rfl (lv_at hl 0 rfl) ?_
      refine fr_Vi (As := []) (rest := [.int (x)]) (fs' := [stW T (AD 0) ν, [(((AD 8) 0), .inr (5, [.ref ((AD 0) 0), .ref ((AD 1) 0), .ref ((AD 8) 1), .ref ((AD 9) 0), .ref ((AD 7) 0)]))]]) (ci := 5) (q0 := (RX5, TX5, 5)) (i0 := 1) ⟨hx, hb, hml, hown, hts⟩ (kX5_injections_n l D T Z AD ν) (cwV 0 hts gL_isMark_X5_injections rfl rfl rfl (by decide +kernel) ⟨Nat.le_of_ble_eq_true rfl, Nat.le_of_ble_eq_true rfl⟩) hK hN hM hP hD hS hA [0, 1] rfl rfl rfl rfl rfl rfl hl.1 rfl (Nat.le_of_ble_eq_true rfl) dL_isMark_26 ⟨Nat.zero_le _, Nat.zero_le _⟩ (fun H locs hP hD hS => ?_)
      refine lv_icmp_ge (tgt := 46) hx hb dL_isMark_29 (by decide) (fun c_3 => ?_) (fun c_3 => ?_)
      · have c_3' := Int32.not_lt.mpr c_3
        refine lv_iconst (v := nI 0) hx hb dL_isMark_46 (by decide) ?_
        exact fr_zret hx hb hr hlk hP hS (by first | (unfold mkB; simp [c_1, c_2, c_2', c_3, c_3', bI]; done) | (simp [mkB, c_1, c_2, c_2', c_3, c_3', bI]; done)) rfl rfl dL_isMark_47
      · have c_3' := Int32.not_le.mp c_3
        refine lv_iload_n hx hb dL_isMark_32 rfl (lv_at hl 2 rfl) ?_
        refine lv_if_lt (tgt := 46) hx hb dL_isMark_33 (by decide) (fun c_4 => ?_) (fun c_4 => ?_)
        · have c_4' := Int32.not_le.mpr c_4
          refine lv_iconst (v := nI 0) hx hb dL_isMark_46 (by decide) ?_
          exact fr_zret hx hb hr hlk hP hS (by first | (unfold mkB; simp [c_1, c_2, c_2', c_3, c_3', c_4, c_4', bI]; done) | (simp [mkB, c_1, c_2, c_2', c_3, c_3', c_4, c_4', bI]; done)) rfl rfl dL_isMark_47
        · have c_4' := Int32.not_lt.mp c_4
          refine lv_iload_n hx hb dL_isMark_36 rfl (lv_at hl 2 rfl) ?_
          refine lv_bipush (v := nI 99) hx hb dL_isMark_37 (by decide) ?_
          refine lv_icmp_gt (tgt := 46) hx hb dL_isMark_39 (by decide) (fun c_5 => ?_) (fun c_5 => ?_)
          · have c_5' := Int32.not_le.mpr c_5
            refine lv_iconst (v := nI 0) hx hb dL_isMark_46 (by decide) ?_
            exact fr_zret hx hb hr hlk hP hS (by first | (unfold mkB; simp [c_1, c_2, c_2', c_3, c_3', c_4, c_4', c_5, c_5', bI]; done) | (simp [mkB, c_1, c_2, c_2', c_3, c_3', c_4, c_4', c_5, c_5', bI]; done)) rfl rfl dL_isMark_47
          · have c_5' := Int32.not_lt.mp c_5
            refine lv_iconst (v := nI 1) hx hb dL_isMark_42 (by decide) ?_
            refine lv_goto (tgt := 47) hx hb dL_isMark_43 (by decide) ?_
            exact fr_zret hx hb hr hlk hP hS (by first | (unfold mkB; simp [c_1, c_2, c_2', c_3, c_3', c_4, c_4', c_5, c_5', bI]; done) | (simp [mkB, c_1, c_2, c_2', c_3, c_3', c_4, c_4', c_5, c_5', bI]; done)) rfl rfl dL_isMark_47
  · refine lv_iload_n hx hb dL_isMark_6 rfl (lv_at hl 2 rfl) ?_
    refine lv_bipush (v := (-6)) hx hb dL_isMark_7 (by decide) ?_
    refine lv_icmp_ne (tgt := 16) hx hb dL_isMark_9 (by decide) (fun c_6 => ?_) (fun c_6 => ?_)
    · refine lv_iconst (v := nI 0) hx hb dL_isMark_16 (by decide) ?_
      refine lv_goto (tgt := 47) hx hb dL_isMark_17 (by decide) ?_
      exact fr_zret hx hb hr hlk hP hS (by first | (unfold mkB; simp [c_1, c_6, bI]; done) | (simp [mkB, c_1, c_6, bI]; done)) rfl rfl dL_isMark_47
    · refine lv_iconst (v := nI 1) hx hb dL_isMark_12 (by decide) ?_
      refine lv_goto (tgt := 47) hx hb dL_isMark_13 (by decide) ?_
      exact fr_zret hx hb hr hlk hP hS (by first | (unfold mkB; simp [c_1, c_6, bI]; done) | (simp [mkB, c_1, c_6, bI]; done)) rfl rfl dL_isMark_47
