
set_option maxHeartbeats 8000000 in
set_option maxRecDepth 100000 in
theorem kX5_isWord (l : Launch) (D : va_G) (T : Nat → ClassId) (Z : ZZ) (x : Int32)  : CtI l D T Z yX5_isWord wsX5_isWord ({ frames := 0, cells := 0, slots := 0, locals := 0 }) ([] : List va_W) [.int (x)] (bI (iN x 32)) ([] : List va_W) := by
  refine CtI.of (cc := cX5_isWord) (maxL := 1) (ret := (some .boolean)) (plainFor_of_name (by decide)) rfl rfl ?_
  intro pP eE s mM bW mE cC A hE hK hN hM hP hD hA
  obtain ⟨hx, hb, hr, hts, hown, hml, hlk⟩ := hE
  have hown : s.vm.findClass RX5 = some mM.cls := hown
  have hS : va_S A s.heap s.heap [] := va_S.rf
  have hl := lv_entry ([.int (x)]) (n := 1) (Nat.le_of_ble_eq_true rfl)
  rw [lg_entry_eq]
  generalize (lg_sl ([.int (x)]) ++ List.replicate (1 - (lg_sl ([.int (x)])).length) Slot.unset).toArray = ls at hl ⊢
  have hl : lv_has ls 1 [(0, .int (x))] := hl
  refine lv_iload_n hx hb dX5_isWord_0 rfl (lv_at hl 0 rfl) ?_
  refine lv_if_lt (tgt := 14) hx hb dX5_isWord_1 (by decide) (fun c_1 => ?_) (fun c_1 => ?_)
  · have c_1' := Int32.not_le.mpr c_1
    refine lv_iconst (v := nI 0) hx hb dX5_isWord_14 (by decide) ?_
    exact fr_zret hx hb hr hlk hP hS (by first | rfl | (simp only [iN, bI, c_1, c_1', ↓reduceIte, Bool.false_eq_true, bI_true, bI_false, Bool.true_and, Bool.and_true, Bool.and_false, Bool.false_and, Bool.not_true, Bool.not_false, Bool.or_true, Bool.true_or, Bool.or_false, Bool.false_or] <;> rfl) | (simp [iN, bI, c_1, c_1', bI]; done)) rfl rfl dX5_isWord_15
  · have c_1' := Int32.not_lt.mp c_1
    refine lv_iload_n hx hb dX5_isWord_4 rfl (lv_at hl 0 rfl) ?_
    refine lv_bipush (v := nI 32) hx hb dX5_isWord_5 (by decide) ?_
    refine lv_icmp_ge (tgt := 14) hx hb dX5_isWord_7 (by decide) (fun c_2 => ?_) (fun c_2 => ?_)
    · have c_2' := Int32.not_lt.mpr c_2
      refine lv_iconst (v := nI 0) hx hb dX5_isWord_14 (by decide) ?_
      exact fr_zret hx hb hr hlk hP hS (by first | rfl | (simp only [iN, bI, c_1, c_1', c_2, c_2', ↓reduceIte, Bool.false_eq_true, bI_true, bI_false, Bool.true_and, Bool.and_true, Bool.and_false, Bool.false_and, Bool.not_true, Bool.not_false, Bool.or_true, Bool.true_or, Bool.or_false, Bool.false_or] <;> rfl) | (simp [iN, bI, c_1, c_1', c_2, c_2', bI]; done)) rfl rfl dX5_isWord_15
    · have c_2' := Int32.not_le.mp c_2
      refine lv_iconst (v := nI 1) hx hb dX5_isWord_10 (by decide) ?_
      refine lv_goto (tgt := 15) hx hb dX5_isWord_11 (by decide) ?_
      exact fr_zret hx hb hr hlk hP hS (by first | rfl | (simp only [iN, bI, c_1, c_1', c_2, c_2', ↓reduceIte, Bool.false_eq_true, bI_true, bI_false, Bool.true_and, Bool.and_true, Bool.and_false, Bool.false_and, Bool.not_true, Bool.not_false, Bool.or_true, Bool.true_or, Bool.or_false, Bool.false_or] <;> rfl) | (simp [iN, bI, c_1, c_1', c_2, c_2', bI]; done)) rfl rfl dX5_isWord_15

set_option maxHeartbeats 8000000 in
set_option maxRecDepth 100000 in
theorem kX5_isPage (l : Launch) (D : va_G) (T : Nat → ClassId) (Z : ZZ) (x : Int32)  : CtI l D T Z yX5_isPage wsX5_isPage ({ frames := 0, cells := 0, slots := 0, locals := 0 }) ([] : List va_W) [.int (x)] (bI (iN x 8)) ([] : List va_W) := by
  refine CtI.of (cc := cX5_isPage) (maxL := 1) (ret := (some .boolean)) (plainFor_of_name (by decide)) rfl rfl ?_
  intro pP eE s mM bW mE cC A hE hK hN hM hP hD hA
  obtain ⟨hx, hb, hr, hts, hown, hml, hlk⟩ := hE
  have hown : s.vm.findClass RX5 = some mM.cls := hown
  have hS : va_S A s.heap s.heap [] := va_S.rf
  have hl := lv_entry ([.int (x)]) (n := 1) (Nat.le_of_ble_eq_true rfl)
  rw [lg_entry_eq]
  generalize (lg_sl ([.int (x)]) ++ List.replicate (1 - (lg_sl ([.int (x)])).length) Slot.unset).toArray = ls at hl ⊢
  have hl : lv_has ls 1 [(0, .int (x))] := hl
  refine lv_iload_n hx hb dX5_isPage_0 rfl (lv_at hl 0 rfl) ?_
  refine lv_if_lt (tgt := 14) hx hb dX5_isPage_1 (by decide) (fun c_1 => ?_) (fun c_1 => ?_)
  · have c_1' := Int32.not_le.mpr c_1
    refine lv_iconst (v := nI 0) hx hb dX5_isPage_14 (by decide) ?_
    exact fr_zret hx hb hr hlk hP hS (by first | rfl | (simp only [iN, bI, c_1, c_1', ↓reduceIte, Bool.false_eq_true, bI_true, bI_false, Bool.true_and, Bool.and_true, Bool.and_false, Bool.false_and, Bool.not_true, Bool.not_false, Bool.or_true, Bool.true_or, Bool.or_false, Bool.false_or] <;> rfl) | (simp [iN, bI, c_1, c_1', bI]; done)) rfl rfl dX5_isPage_15
  · have c_1' := Int32.not_lt.mp c_1
    refine lv_iload_n hx hb dX5_isPage_4 rfl (lv_at hl 0 rfl) ?_
    refine lv_bipush (v := nI 8) hx hb dX5_isPage_5 (by decide) ?_
    refine lv_icmp_ge (tgt := 14) hx hb dX5_isPage_7 (by decide) (fun c_2 => ?_) (fun c_2 => ?_)
    · have c_2' := Int32.not_lt.mpr c_2
      refine lv_iconst (v := nI 0) hx hb dX5_isPage_14 (by decide) ?_
      exact fr_zret hx hb hr hlk hP hS (by first | rfl | (simp only [iN, bI, c_1, c_1', c_2, c_2', ↓reduceIte, Bool.false_eq_true, bI_true, bI_false, Bool.true_and, Bool.and_true, Bool.and_false, Bool.false_and, Bool.not_true, Bool.not_false, Bool.or_true, Bool.true_or, Bool.or_false, Bool.false_or] <;> rfl) | (simp [iN, bI, c_1, c_1', c_2, c_2', bI]; done)) rfl rfl dX5_isPage_15
    · have c_2' := Int32.not_le.mp c_2
      refine lv_iconst (v := nI 1) hx hb dX5_isPage_10 (by decide) ?_
      refine lv_goto (tgt := 15) hx hb dX5_isPage_11 (by decide) ?_
      exact fr_zret hx hb hr hlk hP hS (by first | rfl | (simp only [iN, bI, c_1, c_1', c_2, c_2', ↓reduceIte, Bool.false_eq_true, bI_true, bI_false, Bool.true_and, Bool.and_true, Bool.and_false, Bool.false_and, Bool.not_true, Bool.not_false, Bool.or_true, Bool.true_or, Bool.or_false, Bool.false_or] <;> rfl) | (simp [iN, bI, c_1, c_1', c_2, c_2', bI]; done)) rfl rfl dX5_isPage_15

set_option maxHeartbeats 8000000 in
set_option maxRecDepth 100000 in
theorem kX5_isTask (l : Launch) (D : va_G) (T : Nat → ClassId) (Z : ZZ) (x : Int32)  : CtI l D T Z yX5_isTask wsX5_isTask ({ frames := 0, cells := 0, slots := 0, locals := 0 }) ([] : List va_W) [.int (x)] (bI (iN x 4)) ([] : List va_W) := by
  refine CtI.of (cc := cX5_isTask) (maxL := 1) (ret := (some .boolean)) (plainFor_of_name (by decide)) rfl rfl ?_
  intro pP eE s mM bW mE cC A hE hK hN hM hP hD hA
  obtain ⟨hx, hb, hr, hts, hown, hml, hlk⟩ := hE
  have hown : s.vm.findClass RX5 = some mM.cls := hown
  have hS : va_S A s.heap s.heap [] := va_S.rf
  have hl := lv_entry ([.int (x)]) (n := 1) (Nat.le_of_ble_eq_true rfl)
  rw [lg_entry_eq]
  generalize (lg_sl ([.int (x)]) ++ List.replicate (1 - (lg_sl ([.int (x)])).length) Slot.unset).toArray = ls at hl ⊢
  have hl : lv_has ls 1 [(0, .int (x))] := hl
  refine lv_iload_n hx hb dX5_isTask_0 rfl (lv_at hl 0 rfl) ?_
  refine lv_if_lt (tgt := 13) hx hb dX5_isTask_1 (by decide) (fun c_1 => ?_) (fun c_1 => ?_)
  · have c_1' := Int32.not_le.mpr c_1
    refine lv_iconst (v := nI 0) hx hb dX5_isTask_13 (by decide) ?_
    exact fr_zret hx hb hr hlk hP hS (by first | rfl | (simp only [iN, bI, c_1, c_1', ↓reduceIte, Bool.false_eq_true, bI_true, bI_false, Bool.true_and, Bool.and_true, Bool.and_false, Bool.false_and, Bool.not_true, Bool.not_false, Bool.or_true, Bool.true_or, Bool.or_false, Bool.false_or] <;> rfl) | (simp [iN, bI, c_1, c_1', bI]; done)) rfl rfl dX5_isTask_14
  · have c_1' := Int32.not_lt.mp c_1
    refine lv_iload_n hx hb dX5_isTask_4 rfl (lv_at hl 0 rfl) ?_
    refine lv_iconst (v := nI 4) hx hb dX5_isTask_5 (by decide) ?_
    refine lv_icmp_ge (tgt := 13) hx hb dX5_isTask_6 (by decide) (fun c_2 => ?_) (fun c_2 => ?_)
    · have c_2' := Int32.not_lt.mpr c_2
      refine lv_iconst (v := nI 0) hx hb dX5_isTask_13 (by decide) ?_
      exact fr_zret hx hb hr hlk hP hS (by first | rfl | (simp only [iN, bI, c_1, c_1', c_2, c_2', ↓reduceIte, Bool.false_eq_true, bI_true, bI_false, Bool.true_and, Bool.and_true, Bool.and_false, Bool.false_and, Bool.not_true, Bool.not_false, Bool.or_true, Bool.true_or, Bool.or_false, Bool.false_or] <;> rfl) | (simp [iN, bI, c_1, c_1', c_2, c_2', bI]; done)) rfl rfl dX5_isTask_14
    · have c_2' := Int32.not_le.mp c_2
      refine lv_iconst (v := nI 1) hx hb dX5_isTask_9 (by decide) ?_
      refine lv_goto (tgt := 14) hx hb dX5_isTask_10 (by decide) ?_
      exact fr_zret hx hb hr hlk hP hS (by first | rfl | (simp only [iN, bI, c_1, c_1', c_2, c_2', ↓reduceIte, Bool.false_eq_true, bI_true, bI_false, Bool.true_and, Bool.and_true, Bool.and_false, Bool.false_and, Bool.not_true, Bool.not_false, Bool.or_true, Bool.true_or, Bool.or_false, Bool.false_or] <;> rfl) | (simp [iN, bI, c_1, c_1', c_2, c_2', bI]; done)) rfl rfl dX5_isTask_14

set_option maxHeartbeats 8000000 in
set_option maxRecDepth 100000 in
theorem kX5_isRegister (l : Launch) (D : va_G) (T : Nat → ClassId) (Z : ZZ) (x : Int32)  : CtI l D T Z yX5_isRegister wsX5_isRegister ({ frames := 0, cells := 0, slots := 0, locals := 0 }) ([] : List va_W) [.int (x)] (bI (iN x 4)) ([] : List va_W) := by
  refine CtI.of (cc := cX5_isRegister) (maxL := 1) (ret := (some .boolean)) (plainFor_of_name (by decide)) rfl rfl ?_
  intro pP eE s mM bW mE cC A hE hK hN hM hP hD hA
  obtain ⟨hx, hb, hr, hts, hown, hml, hlk⟩ := hE
  have hown : s.vm.findClass RX5 = some mM.cls := hown
  have hS : va_S A s.heap s.heap [] := va_S.rf
  have hl := lv_entry ([.int (x)]) (n := 1) (Nat.le_of_ble_eq_true rfl)
  rw [lg_entry_eq]
  generalize (lg_sl ([.int (x)]) ++ List.replicate (1 - (lg_sl ([.int (x)])).length) Slot.unset).toArray = ls at hl ⊢
  have hl : lv_has ls 1 [(0, .int (x))] := hl
  refine lv_iload_n hx hb dX5_isRegister_0 rfl (lv_at hl 0 rfl) ?_
  refine lv_if_lt (tgt := 13) hx hb dX5_isRegister_1 (by decide) (fun c_1 => ?_) (fun c_1 => ?_)
  · have c_1' := Int32.not_le.mpr c_1
    refine lv_iconst (v := nI 0) hx hb dX5_isRegister_13 (by decide) ?_
    exact fr_zret hx hb hr hlk hP hS (by first | rfl | (simp only [iN, bI, c_1, c_1', ↓reduceIte, Bool.false_eq_true, bI_true, bI_false, Bool.true_and, Bool.and_true, Bool.and_false, Bool.false_and, Bool.not_true, Bool.not_false, Bool.or_true, Bool.true_or, Bool.or_false, Bool.false_or] <;> rfl) | (simp [iN, bI, c_1, c_1', bI]; done)) rfl rfl dX5_isRegister_14
  · have c_1' := Int32.not_lt.mp c_1
    refine lv_iload_n hx hb dX5_isRegister_4 rfl (lv_at hl 0 rfl) ?_
    refine lv_iconst (v := nI 4) hx hb dX5_isRegister_5 (by decide) ?_
    refine lv_icmp_ge (tgt := 13) hx hb dX5_isRegister_6 (by decide) (fun c_2 => ?_) (fun c_2 => ?_)
    · have c_2' := Int32.not_lt.mpr c_2
      refine lv_iconst (v := nI 0) hx hb dX5_isRegister_13 (by decide) ?_
      exact fr_zret hx hb hr hlk hP hS (by first | rfl | (simp only [iN, bI, c_1, c_1', c_2, c_2', ↓reduceIte, Bool.false_eq_true, bI_true, bI_false, Bool.true_and, Bool.and_true, Bool.and_false, Bool.false_and, Bool.not_true, Bool.not_false, Bool.or_true, Bool.true_or, Bool.or_false, Bool.false_or] <;> rfl) | (simp [iN, bI, c_1, c_1', c_2, c_2', bI]; done)) rfl rfl dX5_isRegister_14
    · have c_2' := Int32.not_le.mp c_2
      refine lv_iconst (v := nI 1) hx hb dX5_isRegister_9 (by decide) ?_
      refine lv_goto (tgt := 14) hx hb dX5_isRegister_10 (by decide) ?_
      exact fr_zret hx hb hr hlk hP hS (by first | rfl | (simp only [iN, bI, c_1, c_1', c_2, c_2', ↓reduceIte, Bool.false_eq_true, bI_true, bI_false, Bool.true_and, Bool.and_true, Bool.and_false, Bool.false_and, Bool.not_true, Bool.not_false, Bool.or_true, Bool.true_or, Bool.or_false, Bool.false_or] <;> rfl) | (simp [iN, bI, c_1, c_1', c_2, c_2', bI]; done)) rfl rfl dX5_isRegister_14

set_option maxHeartbeats 8000000 in
set_option maxRecDepth 100000 in
theorem kX5_isPart (l : Launch) (D : va_G) (T : Nat → ClassId) (Z : ZZ) (x : Int32)  : CtI l D T Z yX5_isPart wsX5_isPart ({ frames := 0, cells := 0, slots := 0, locals := 0 }) ([] : List va_W) [.int (x)] (bI (iN x 2)) ([] : List va_W) := by
  refine CtI.of (cc := cX5_isPart) (maxL := 1) (ret := (some .boolean)) (plainFor_of_name (by decide)) rfl rfl ?_
  intro pP eE s mM bW mE cC A hE hK hN hM hP hD hA
  obtain ⟨hx, hb, hr, hts, hown, hml, hlk⟩ := hE
  have hown : s.vm.findClass RX5 = some mM.cls := hown
  have hS : va_S A s.heap s.heap [] := va_S.rf
  have hl := lv_entry ([.int (x)]) (n := 1) (Nat.le_of_ble_eq_true rfl)
  rw [lg_entry_eq]
  generalize (lg_sl ([.int (x)]) ++ List.replicate (1 - (lg_sl ([.int (x)])).length) Slot.unset).toArray = ls at hl ⊢
  have hl : lv_has ls 1 [(0, .int (x))] := hl
  refine lv_iload_n hx hb dX5_isPart_0 rfl (lv_at hl 0 rfl) ?_
  refine lv_if_lt (tgt := 13) hx hb dX5_isPart_1 (by decide) (fun c_1 => ?_) (fun c_1 => ?_)
  · have c_1' := Int32.not_le.mpr c_1
    refine lv_iconst (v := nI 0) hx hb dX5_isPart_13 (by decide) ?_
    exact fr_zret hx hb hr hlk hP hS (by first | rfl | (simp only [iN, bI, c_1, c_1', ↓reduceIte, Bool.false_eq_true, bI_true, bI_false, Bool.true_and, Bool.and_true, Bool.and_false, Bool.false_and, Bool.not_true, Bool.not_false, Bool.or_true, Bool.true_or, Bool.or_false, Bool.false_or] <;> rfl) | (simp [iN, bI, c_1, c_1', bI]; done)) rfl rfl dX5_isPart_14
  · have c_1' := Int32.not_lt.mp c_1
    refine lv_iload_n hx hb dX5_isPart_4 rfl (lv_at hl 0 rfl) ?_
    refine lv_iconst (v := nI 2) hx hb dX5_isPart_5 (by decide) ?_
    refine lv_icmp_ge (tgt := 13) hx hb dX5_isPart_6 (by decide) (fun c_2 => ?_) (fun c_2 => ?_)
    · have c_2' := Int32.not_lt.mpr c_2
      refine lv_iconst (v := nI 0) hx hb dX5_isPart_13 (by decide) ?_
      exact fr_zret hx hb hr hlk hP hS (by first | rfl | (simp only [iN, bI, c_1, c_1', c_2, c_2', ↓reduceIte, Bool.false_eq_true, bI_true, bI_false, Bool.true_and, Bool.and_true, Bool.and_false, Bool.false_and, Bool.not_true, Bool.not_false, Bool.or_true, Bool.true_or, Bool.or_false, Bool.false_or] <;> rfl) | (simp [iN, bI, c_1, c_1', c_2, c_2', bI]; done)) rfl rfl dX5_isPart_14
    · have c_2' := Int32.not_le.mp c_2
      refine lv_iconst (v := nI 1) hx hb dX5_isPart_9 (by decide) ?_
      refine lv_goto (tgt := 14) hx hb dX5_isPart_10 (by decide) ?_
      exact fr_zret hx hb hr hlk hP hS (by first | rfl | (simp only [iN, bI, c_1, c_1', c_2, c_2', ↓reduceIte, Bool.false_eq_true, bI_true, bI_false, Bool.true_and, Bool.and_true, Bool.and_false, Bool.false_and, Bool.not_true, Bool.not_false, Bool.or_true, Bool.true_or, Bool.or_false, Bool.false_or] <;> rfl) | (simp [iN, bI, c_1, c_1', c_2, c_2', bI]; done)) rfl rfl dX5_isPart_14

set_option maxHeartbeats 8000000 in
set_option maxRecDepth 100000 in
theorem kX5_isValue (l : Launch) (D : va_G) (T : Nat → ClassId) (Z : ZZ) (x : Int32)  : CtI l D T Z yX5_isValue wsX5_isValue ({ frames := 0, cells := 0, slots := 0, locals := 0 }) ([] : List va_W) [.int (x)] (bI (iN x 65536)) ([] : List va_W) := by
  refine CtI.of (cc := cX5_isValue) (maxL := 1) (ret := (some .boolean)) (plainFor_of_name (by decide)) rfl rfl ?_
  intro pP eE s mM bW mE cC A hE hK hN hM hP hD hA
  obtain ⟨hx, hb, hr, hts, hown, hml, hlk⟩ := hE
  have hown : s.vm.findClass RX5 = some mM.cls := hown
  have hS : va_S A s.heap s.heap [] := va_S.rf
  have hl := lv_entry ([.int (x)]) (n := 1) (Nat.le_of_ble_eq_true rfl)
  rw [lg_entry_eq]
  generalize (lg_sl ([.int (x)]) ++ List.replicate (1 - (lg_sl ([.int (x)])).length) Slot.unset).toArray = ls at hl ⊢
  have hl : lv_has ls 1 [(0, .int (x))] := hl
  have w_235 := hts (.constant RX5 235 (65535)) (by decide +kernel)
  refine lv_iload_n hx hb dX5_isValue_0 rfl (lv_at hl 0 rfl) ?_
  refine lv_if_lt (tgt := 14) hx hb dX5_isValue_1 (by decide) (fun c_1 => ?_) (fun c_1 => ?_)
  · have c_1' := Int32.not_le.mpr c_1
    refine lv_iconst (v := nI 0) hx hb dX5_isValue_14 (by decide) ?_
    exact fr_zret hx hb hr hlk hP hS (by rw [← iN_of_le (by decide)]; simp [c_1, c_1', bI, nI_0]) rfl rfl dX5_isValue_15
  · have c_1' := Int32.not_lt.mp c_1
    refine lv_iload_n hx hb dX5_isValue_4 rfl (lv_at hl 0 rfl) ?_
    refine lv_ldc hx hb hown w_235 dX5_isValue_5 ?_
    refine fr_val (show (65535 : Int32) = nI 65535 from rfl) ?_
    refine lv_icmp_gt (tgt := 14) hx hb dX5_isValue_7 (by decide) (fun c_2 => ?_) (fun c_2 => ?_)
    · have c_2' := Int32.not_le.mpr c_2
      refine lv_iconst (v := nI 0) hx hb dX5_isValue_14 (by decide) ?_
      exact fr_zret hx hb hr hlk hP hS (by rw [← iN_of_le (by decide)]; simp [c_1, c_1', c_2, c_2', bI, nI_0]) rfl rfl dX5_isValue_15
    · have c_2' := Int32.not_lt.mp c_2
      refine lv_iconst (v := nI 1) hx hb dX5_isValue_10 (by decide) ?_
      refine lv_goto (tgt := 15) hx hb dX5_isValue_11 (by decide) ?_
      exact fr_zret hx hb hr hlk hP hS (by rw [← iN_of_le (by decide)]; simp [c_1, c_1', c_2, c_2', bI, nI_0]) rfl rfl dX5_isValue_15

set_option maxHeartbeats 8000000 in
set_option maxRecDepth 100000 in
theorem kX5_isBlockLength (l : Launch) (D : va_G) (T : Nat → ClassId) (Z : ZZ) (x : Int32)  : CtI l D T Z yX5_isBlockLength wsX5_isBlockLength ({ frames := 0, cells := 0, slots := 0, locals := 0 }) ([] : List va_W) [.int (x)] (bI (iB x)) ([] : List va_W) := by
  refine CtI.of (cc := cX5_isBlockLength) (maxL := 1) (ret := (some .boolean)) (plainFor_of_name (by decide)) rfl rfl ?_
  intro pP eE s mM bW mE cC A hE hK hN hM hP hD hA
  obtain ⟨hx, hb, hr, hts, hown, hml, hlk⟩ := hE
  have hown : s.vm.findClass RX5 = some mM.cls := hown
  have hS : va_S A s.heap s.heap [] := va_S.rf
  have hl := lv_entry ([.int (x)]) (n := 1) (Nat.le_of_ble_eq_true rfl)
  rw [lg_entry_eq]
  generalize (lg_sl ([.int (x)]) ++ List.replicate (1 - (lg_sl ([.int (x)])).length) Slot.unset).toArray = ls at hl ⊢
  have hl : lv_has ls 1 [(0, .int (x))] := hl
  refine lv_iload_n hx hb dX5_isBlockLength_0 rfl (lv_at hl 0 rfl) ?_
  refine lv_iconst (v := nI 1) hx hb dX5_isBlockLength_1 (by decide) ?_
  refine lv_icmp_lt (tgt := 15) hx hb dX5_isBlockLength_2 (by decide) (fun c_1 => ?_) (fun c_1 => ?_)
  · have c_1' := Int32.not_le.mpr c_1
    refine lv_iconst (v := nI 0) hx hb dX5_isBlockLength_15 (by decide) ?_
    exact fr_zret hx hb hr hlk hP hS (by first | rfl | (simp only [iB, bI, c_1, c_1', ↓reduceIte, Bool.false_eq_true, bI_true, bI_false, Bool.true_and, Bool.and_true, Bool.and_false, Bool.false_and, Bool.not_true, Bool.not_false, Bool.or_true, Bool.true_or, Bool.or_false, Bool.false_or] <;> rfl) | (simp [iB, bI, c_1, c_1', bI]; done)) rfl rfl dX5_isBlockLength_16
  · have c_1' := Int32.not_lt.mp c_1
    refine lv_iload_n hx hb dX5_isBlockLength_5 rfl (lv_at hl 0 rfl) ?_
    refine lv_bipush (v := nI 16) hx hb dX5_isBlockLength_6 (by decide) ?_
    refine lv_icmp_gt (tgt := 15) hx hb dX5_isBlockLength_8 (by decide) (fun c_2 => ?_) (fun c_2 => ?_)
    · have c_2' := Int32.not_le.mpr c_2
      refine lv_iconst (v := nI 0) hx hb dX5_isBlockLength_15 (by decide) ?_
      exact fr_zret hx hb hr hlk hP hS (by first | rfl | (simp only [iB, bI, c_1, c_1', c_2, c_2', ↓reduceIte, Bool.false_eq_true, bI_true, bI_false, Bool.true_and, Bool.and_true, Bool.and_false, Bool.false_and, Bool.not_true, Bool.not_false, Bool.or_true, Bool.true_or, Bool.or_false, Bool.false_or] <;> rfl) | (simp [iB, bI, c_1, c_1', c_2, c_2', bI]; done)) rfl rfl dX5_isBlockLength_16
    · have c_2' := Int32.not_lt.mp c_2
      refine lv_iconst (v := nI 1) hx hb dX5_isBlockLength_11 (by decide) ?_
      refine lv_goto (tgt := 16) hx hb dX5_isBlockLength_12 (by decide) ?_
      exact fr_zret hx hb hr hlk hP hS (by first | rfl | (simp only [iB, bI, c_1, c_1', c_2, c_2', ↓reduceIte, Bool.false_eq_true, bI_true, bI_false, Bool.true_and, Bool.and_true, Bool.and_false, Bool.false_and, Bool.not_true, Bool.not_false, Bool.or_true, Bool.true_or, Bool.or_false, Bool.false_or] <;> rfl) | (simp [iB, bI, c_1, c_1', c_2, c_2', bI]; done)) rfl rfl dX5_isBlockLength_16

set_option maxHeartbeats 8000000 in
set_option maxRecDepth 100000 in
theorem kX5_isError (l : Launch) (D : va_G) (T : Nat → ClassId) (Z : ZZ) (x : Int32)  : CtI l D T Z yX5_isError wsX5_isError ({ frames := 0, cells := 0, slots := 0, locals := 0 }) ([] : List va_W) [.int (x)] (bI (isErr x)) ([] : List va_W) := by
  refine CtI.of (cc := cX5_isError) (maxL := 1) (ret := (some .boolean)) (plainFor_of_name (by decide)) rfl rfl ?_
  intro pP eE s mM bW mE cC A hE hK hN hM hP hD hA
  obtain ⟨hx, hb, hr, hts, hown, hml, hlk⟩ := hE
  have hown : s.vm.findClass RX5 = some mM.cls := hown
  have hS : va_S A s.heap s.heap [] := va_S.rf
  have hl := lv_entry ([.int (x)]) (n := 1) (Nat.le_of_ble_eq_true rfl)
  rw [lg_entry_eq]
  generalize (lg_sl ([.int (x)]) ++ List.replicate (1 - (lg_sl ([.int (x)])).length) Slot.unset).toArray = ls at hl ⊢
  have hl : lv_has ls 1 [(0, .int (x))] := hl
  refine lv_iload_n hx hb dX5_isError_0 rfl (lv_at hl 0 rfl) ?_
  refine lv_if_ge (tgt := 14) hx hb dX5_isError_1 (by decide) (fun c_1 => ?_) (fun c_1 => ?_)
  · have c_1' := Int32.not_lt.mpr c_1
    refine lv_iconst (v := nI 0) hx hb dX5_isError_14 (by decide) ?_
    exact fr_zret hx hb hr hlk hP hS (by first | rfl | (simp only [isErr, bI, c_1, c_1', ↓reduceIte, Bool.false_eq_true, bI_true, bI_false, Bool.true_and, Bool.and_true, Bool.and_false, Bool.false_and, Bool.not_true, Bool.not_false, Bool.or_true, Bool.true_or, Bool.or_false, Bool.false_or] <;> rfl) | (simp [isErr, bI, c_1, c_1', bI]; done)) rfl rfl dX5_isError_15
  · have c_1' := Int32.not_le.mp c_1
    refine lv_iload_n hx hb dX5_isError_4 rfl (lv_at hl 0 rfl) ?_
    refine lv_bipush (v := (-6)) hx hb dX5_isError_5 (by decide) ?_
    refine lv_icmp_le (tgt := 14) hx hb dX5_isError_7 (by decide) (fun c_2 => ?_) (fun c_2 => ?_)
    · have c_2' := Int32.not_lt.mpr c_2
      refine lv_iconst (v := nI 0) hx hb dX5_isError_14 (by decide) ?_
      exact fr_zret hx hb hr hlk hP hS (by first | rfl | (simp only [isErr, bI, c_1, c_1', c_2, c_2', ↓reduceIte, Bool.false_eq_true, bI_true, bI_false, Bool.true_and, Bool.and_true, Bool.and_false, Bool.false_and, Bool.not_true, Bool.not_false, Bool.or_true, Bool.true_or, Bool.or_false, Bool.false_or] <;> rfl) | (simp [isErr, bI, c_1, c_1', c_2, c_2', bI]; done)) rfl rfl dX5_isError_15
    · have c_2' := Int32.not_le.mp c_2
      refine lv_iconst (v := nI 1) hx hb dX5_isError_10 (by decide) ?_
      refine lv_goto (tgt := 15) hx hb dX5_isError_11 (by decide) ?_
      exact fr_zret hx hb hr hlk hP hS (by first | rfl | (simp only [isErr, bI, c_1, c_1', c_2, c_2', ↓reduceIte, Bool.false_eq_true, bI_true, bI_false, Bool.true_and, Bool.and_true, Bool.and_false, Bool.false_and, Bool.not_true, Bool.not_false, Bool.or_true, Bool.true_or, Bool.or_false, Bool.false_or] <;> rfl) | (simp [isErr, bI, c_1, c_1', c_2, c_2', bI]; done)) rfl rfl dX5_isError_15

set_option maxHeartbeats 8000000 in
set_option maxRecDepth 100000 in
theorem kX5_cellOf (l : Launch) (D : va_G) (T : Nat → ClassId) (Z : ZZ) (t : Nat) (r : Nat)  : CtI l D T Z yX5_cellOf wsX5_cellOf ({ frames := 0, cells := 0, slots := 0, locals := 0 }) ([] : List va_W) [.int (nI (t)), .int (nI (r))] (nI (((t * 4) + r))) ([] : List va_W) := by
  refine CtI.of (cc := cX5_cellOf) (maxL := 2) (ret := (some .int)) (plainFor_of_name (by decide)) rfl rfl ?_
  intro pP eE s mM bW mE cC A hE hK hN hM hP hD hA
  obtain ⟨hx, hb, hr, hts, hown, hml, hlk⟩ := hE
  have hown : s.vm.findClass RX5 = some mM.cls := hown
  have hS : va_S A s.heap s.heap [] := va_S.rf
  have hl := lv_entry ([.int (nI (t)), .int (nI (r))]) (n := 2) (Nat.le_of_ble_eq_true rfl)
  rw [lg_entry_eq]
  generalize (lg_sl ([.int (nI (t)), .int (nI (r))]) ++ List.replicate (2 - (lg_sl ([.int (nI (t)), .int (nI (r))])).length) Slot.unset).toArray = ls at hl ⊢
  have hl : lv_has ls 2 [(0, .int (nI (t))), (1, .int (nI (r)))] := hl
  refine lv_iload_n hx hb dX5_cellOf_0 rfl (lv_at hl 0 rfl) ?_
  refine lv_iconst (v := nI 4) hx hb dX5_cellOf_1 (by decide) ?_
  refine fr_imul (t) (4) hx hb dX5_cellOf_2 ?_
  refine lv_iload_n hx hb dX5_cellOf_3 rfl (lv_at hl 1 rfl) ?_
  refine fr_iadd ((t * 4)) (r) hx hb dX5_cellOf_4 ?_
  exact fr_iret hx hb hr hlk hP hS rfl rfl dX5_cellOf_5

set_option maxHeartbeats 8000000 in
set_option maxRecDepth 100000 in
theorem kX5_byteOf (l : Launch) (D : va_G) (T : Nat → ClassId) (Z : ZZ) (x : Int32) (p : Nat)  : CtI l D T Z yX5_byteOf wsX5_byteOf ({ frames := 0, cells := 0, slots := 0, locals := 0 }) ([] : List va_W) [.int (x), .int (nI (p))] ((x >>> ((nI (8 * p)) &&& 31)) &&& nI 255) ([] : List va_W) := by
  refine CtI.of (cc := cX5_byteOf) (maxL := 2) (ret := (some .int)) (plainFor_of_name (by decide)) rfl rfl ?_
  intro pP eE s mM bW mE cC A hE hK hN hM hP hD hA
  obtain ⟨hx, hb, hr, hts, hown, hml, hlk⟩ := hE
  have hown : s.vm.findClass RX5 = some mM.cls := hown
  have hS : va_S A s.heap s.heap [] := va_S.rf
  have hl := lv_entry ([.int (x), .int (nI (p))]) (n := 2) (Nat.le_of_ble_eq_true rfl)
  rw [lg_entry_eq]
  generalize (lg_sl ([.int (x), .int (nI (p))]) ++ List.replicate (2 - (lg_sl ([.int (x), .int (nI (p))])).length) Slot.unset).toArray = ls at hl ⊢
  have hl : lv_has ls 2 [(0, .int (x)), (1, .int (nI (p)))] := hl
  refine lv_iload_n hx hb dX5_byteOf_0 rfl (lv_at hl 0 rfl) ?_
  refine lv_bipush (v := nI 8) hx hb dX5_byteOf_1 (by decide) ?_
  refine lv_iload_n hx hb dX5_byteOf_3 rfl (lv_at hl 1 rfl) ?_
  refine fr_imul (8) (p) hx hb dX5_byteOf_4 ?_
  refine lv_ishr hx hb dX5_byteOf_5 ?_
  refine lv_sipush (v := nI 255) hx hb dX5_byteOf_6 (by decide) ?_
  refine lv_iand hx hb dX5_byteOf_9 ?_
  exact fr_iret hx hb hr hlk hP hS (by first | rfl | (simp only [↓reduceIte, Bool.false_eq_true, bI_true, bI_false, Bool.true_and, Bool.and_true, Bool.and_false, Bool.false_and, Bool.not_true, Bool.not_false, Bool.or_true, Bool.true_or, Bool.or_false, Bool.false_or] <;> rfl) | (simp [bI]; done)) rfl dX5_byteOf_10

set_option maxHeartbeats 8000000 in
set_option maxRecDepth 100000 in
theorem kJ9_floorMod_7cf53 (l : Launch) (D : va_G) (T : Nat → ClassId) (Z : ZZ) (x : Nat) (y : Nat) (hx31 : x < 2 ^ 31) (hy0 : 0 < y) (hy31 : y < 2 ^ 31) : CtI l D T Z yJ9_floorMod_7cf53 wsJ9_floorMod_7cf53 ({ frames := 0, cells := 0, slots := 0, locals := 0 }) ([] : List va_W) [.int (nI (x)), .int (nI (y))] (nI ((x % y))) ([] : List va_W) := by
  refine CtI.of (cc := cJ9_floorMod_7cf53) (maxL := 3) (ret := (some .int)) (by decide +kernel) rfl rfl ?_
  intro pP eE s mM bW mE cC A hE hK hN hM hP hD hA
  obtain ⟨hx, hb, hr, hts, hown, hml, hlk⟩ := hE
  have hown : s.vm.findClass RJ9 = some mM.cls := hown
  have hS : va_S A s.heap s.heap [] := va_S.rf
  have hl := lv_entry ([.int (nI (x)), .int (nI (y))]) (n := 3) (Nat.le_of_ble_eq_true rfl)
  rw [lg_entry_eq]
  generalize (lg_sl ([.int (nI (x)), .int (nI (y))]) ++ List.replicate (3 - (lg_sl ([.int (nI (x)), .int (nI (y))])).length) Slot.unset).toArray = ls at hl ⊢
  have hl : lv_has ls 3 [(0, .int (nI (x))), (1, .int (nI (y)))] := hl
  refine lv_iload_n hx hb dJ9_floorMod_7cf53_0 rfl (lv_at hl 0 rfl) ?_
  refine lv_iload_n hx hb dJ9_floorMod_7cf53_1 rfl (lv_at hl 1 rfl) ?_
  refine fr_irem (x) (y) (by omega) (by omega) (by omega) hx hb dJ9_floorMod_7cf53_2 ?_
  refine lv_istore_n (lv' := [(2, .int (nI ((x % y)))), (0, .int (nI (x))), (1, .int (nI (y)))]) hx hb dJ9_floorMod_7cf53_3 rfl hl (by decide) rfl (fun ls hl => ?_)
  refine lv_iload_n hx hb dJ9_floorMod_7cf53_4 rfl (lv_at hl 1 rfl) ?_
  refine lv_iload_n hx hb dJ9_floorMod_7cf53_5 rfl (lv_at hl 2 rfl) ?_
  refine lv_ixor hx hb dJ9_floorMod_7cf53_6 ?_
  refine fr_val (nx_xor _ _) ?_
  refine lv_if_ge (tgt := 18) hx hb dJ9_floorMod_7cf53_7 (by decide) (fun _ => ?_) (fun z => absurd (nI_pos' (Nat.xor_lt_two_pow hx31 hy31)) z)
  refine lv_iload_n hx hb dJ9_floorMod_7cf53_18 rfl (lv_at hl 0 rfl) ?_
  exact fr_iret hx hb hr hlk hP hS rfl rfl dJ9_floorMod_7cf53_19
