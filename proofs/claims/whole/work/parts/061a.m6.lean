
set_option maxHeartbeats 8000000 in
set_option maxRecDepth 100000 in
theorem kX6_in_n (l : Launch) (D : va_G) (T : Nat → ClassId) (Z : ZZ) (v : Nat) (lo : Nat) (hi : Nat) (h1 : v < 2 ^ 31) (h2 : lo < 2 ^ 31) (h3 : hi < 2 ^ 31) : CtI l D T Z yX6_in wsX6_in ({ frames := 0, cells := 0, slots := 0, locals := 0 }) ([] : List va_W) [.int (nI (v)), .int (nI (lo)), .int (nI (hi))] (bI (innN v lo hi)) ([] : List va_W) := by
  refine CtI.of (cc := cX6_in) (maxL := 3) (ret := (some .boolean)) (plainFor_of_name (by decide)) rfl rfl ?_
  intro pP eE s mM bW mE cC A hE hK hN hM hP hD hA
  obtain ⟨hx, hb, hr, hts, hown, hml, hlk⟩ := hE
  have hown : s.vm.findClass RX6 = some mM.cls := hown
  have hS : va_S A s.heap s.heap [] := va_S.rf
  have hl := lv_entry ([.int (nI (v)), .int (nI (lo)), .int (nI (hi))]) (n := 3) (Nat.le_of_ble_eq_true rfl)
  rw [lg_entry_eq]
  generalize (lg_sl ([.int (nI (v)), .int (nI (lo)), .int (nI (hi))]) ++ List.replicate (3 - (lg_sl ([.int (nI (v)), .int (nI (lo)), .int (nI (hi))])).length) Slot.unset).toArray = ls at hl ⊢
  have hl : lv_has ls 3 [(0, .int (nI (v))), (1, .int (nI (lo))), (2, .int (nI (hi)))] := hl
  refine lv_iload_n hx hb dX6_in_0 rfl (lv_at hl 0 rfl) ?_
  refine lv_iload_n hx hb dX6_in_1 rfl (lv_at hl 1 rfl) ?_
  refine fr_icmp_lt (v) (lo) (by omega) (by omega) (tgt := 14) hx hb dX6_in_2 (by decide) (fun c_1 => ?_) (fun c_1 => ?_)
  · have c_1' := Nat.not_le.mpr c_1
    refine lv_iconst (v := nI 0) hx hb dX6_in_14 (by decide) ?_
    exact fr_zret hx hb hr hlk hP hS (by first | rfl | (simp only [innN, decide_true, decide_false, c_1, c_1', ↓reduceIte, Bool.false_eq_true, bI_true, bI_false, Bool.true_and, Bool.and_true, Bool.and_false, Bool.false_and, Bool.not_true, Bool.not_false, Bool.or_true, Bool.true_or, Bool.or_false, Bool.false_or] <;> rfl) | (simp [innN, decide_true, decide_false, c_1, c_1', bI]; done)) rfl rfl dX6_in_15
  · have c_1' := Nat.not_lt.mpr c_1
    refine lv_iload_n hx hb dX6_in_5 rfl (lv_at hl 0 rfl) ?_
    refine lv_iload_n hx hb dX6_in_6 rfl (lv_at hl 2 rfl) ?_
    refine fr_icmp_gt (v) (hi) (by omega) (by omega) (tgt := 14) hx hb dX6_in_7 (by decide) (fun c_2 => ?_) (fun c_2 => ?_)
    · have c_2' := Nat.not_le.mpr c_2
      refine lv_iconst (v := nI 0) hx hb dX6_in_14 (by decide) ?_
      exact fr_zret hx hb hr hlk hP hS (by first | rfl | (simp only [innN, decide_true, decide_false, c_1, c_1', c_2, c_2', ↓reduceIte, Bool.false_eq_true, bI_true, bI_false, Bool.true_and, Bool.and_true, Bool.and_false, Bool.false_and, Bool.not_true, Bool.not_false, Bool.or_true, Bool.true_or, Bool.or_false, Bool.false_or] <;> rfl) | (simp [innN, decide_true, decide_false, c_1, c_1', c_2, c_2', bI]; done)) rfl rfl dX6_in_15
    · have c_2' := Nat.not_lt.mpr c_2
      refine lv_iconst (v := nI 1) hx hb dX6_in_10 (by decide) ?_
      refine lv_goto (tgt := 15) hx hb dX6_in_11 (by decide) ?_
      exact fr_zret hx hb hr hlk hP hS (by first | rfl | (simp only [innN, decide_true, decide_false, c_1, c_1', c_2, c_2', ↓reduceIte, Bool.false_eq_true, bI_true, bI_false, Bool.true_and, Bool.and_true, Bool.and_false, Bool.false_and, Bool.not_true, Bool.not_false, Bool.or_true, Bool.true_or, Bool.or_false, Bool.false_or] <;> rfl) | (simp [innN, decide_true, decide_false, c_1, c_1', c_2, c_2', bI]; done)) rfl rfl dX6_in_15

set_option maxHeartbeats 8000000 in
set_option maxRecDepth 100000 in
theorem kX6_in (l : Launch) (D : va_G) (T : Nat → ClassId) (Z : ZZ) (v : Int32) (lo : Int32) (hi : Int32)  : CtI l D T Z yX6_in wsX6_in ({ frames := 0, cells := 0, slots := 0, locals := 0 }) ([] : List va_W) [.int (v), .int (lo), .int (hi)] (bI (inn v lo hi)) ([] : List va_W) := by
  refine CtI.of (cc := cX6_in) (maxL := 3) (ret := (some .boolean)) (plainFor_of_name (by decide)) rfl rfl ?_
  intro pP eE s mM bW mE cC A hE hK hN hM hP hD hA
  obtain ⟨hx, hb, hr, hts, hown, hml, hlk⟩ := hE
  have hown : s.vm.findClass RX6 = some mM.cls := hown
  have hS : va_S A s.heap s.heap [] := va_S.rf
  have hl := lv_entry ([.int (v), .int (lo), .int (hi)]) (n := 3) (Nat.le_of_ble_eq_true rfl)
  rw [lg_entry_eq]
  generalize (lg_sl ([.int (v), .int (lo), .int (hi)]) ++ List.replicate (3 - (lg_sl ([.int (v), .int (lo), .int (hi)])).length) Slot.unset).toArray = ls at hl ⊢
  have hl : lv_has ls 3 [(0, .int (v)), (1, .int (lo)), (2, .int (hi))] := hl
  refine lv_iload_n hx hb dX6_in_0 rfl (lv_at hl 0 rfl) ?_
  refine lv_iload_n hx hb dX6_in_1 rfl (lv_at hl 1 rfl) ?_
  refine lv_icmp_lt (tgt := 14) hx hb dX6_in_2 (by decide) (fun c_1 => ?_) (fun c_1 => ?_)
  · have c_1' := Int32.not_le.mpr c_1
    refine lv_iconst (v := nI 0) hx hb dX6_in_14 (by decide) ?_
    exact fr_zret hx hb hr hlk hP hS (by first | rfl | (simp only [inn, decide_true, decide_false, c_1, c_1', ↓reduceIte, Bool.false_eq_true, bI_true, bI_false, Bool.true_and, Bool.and_true, Bool.and_false, Bool.false_and, Bool.not_true, Bool.not_false, Bool.or_true, Bool.true_or, Bool.or_false, Bool.false_or] <;> rfl) | (simp [inn, decide_true, decide_false, c_1, c_1', bI]; done)) rfl rfl dX6_in_15
  · have c_1' := Int32.not_lt.mp c_1
    refine lv_iload_n hx hb dX6_in_5 rfl (lv_at hl 0 rfl) ?_
    refine lv_iload_n hx hb dX6_in_6 rfl (lv_at hl 2 rfl) ?_
    refine lv_icmp_gt (tgt := 14) hx hb dX6_in_7 (by decide) (fun c_2 => ?_) (fun c_2 => ?_)
    · have c_2' := Int32.not_le.mpr c_2
      refine lv_iconst (v := nI 0) hx hb dX6_in_14 (by decide) ?_
      exact fr_zret hx hb hr hlk hP hS (by first | rfl | (simp only [inn, decide_true, decide_false, c_1, c_1', c_2, c_2', ↓reduceIte, Bool.false_eq_true, bI_true, bI_false, Bool.true_and, Bool.and_true, Bool.and_false, Bool.false_and, Bool.not_true, Bool.not_false, Bool.or_true, Bool.true_or, Bool.or_false, Bool.false_or] <;> rfl) | (simp [inn, decide_true, decide_false, c_1, c_1', c_2, c_2', bI]; done)) rfl rfl dX6_in_15
    · have c_2' := Int32.not_lt.mp c_2
      refine lv_iconst (v := nI 1) hx hb dX6_in_10 (by decide) ?_
      refine lv_goto (tgt := 15) hx hb dX6_in_11 (by decide) ?_
      exact fr_zret hx hb hr hlk hP hS (by first | rfl | (simp only [inn, decide_true, decide_false, c_1, c_1', c_2, c_2', ↓reduceIte, Bool.false_eq_true, bI_true, bI_false, Bool.true_and, Bool.and_true, Bool.and_false, Bool.false_and, Bool.not_true, Bool.not_false, Bool.or_true, Bool.true_or, Bool.or_false, Bool.false_or] <;> rfl) | (simp [inn, decide_true, decide_false, c_1, c_1', c_2, c_2', bI]; done)) rfl rfl dX6_in_15

set_option maxHeartbeats 8000000 in
set_option maxRecDepth 100000 in
theorem kX6_isWord (l : Launch) (D : va_G) (T : Nat → ClassId) (Z : ZZ) (x : Int32)  : CtI l D T Z yX6_isWord wsX6_isWord ({ frames := 1, cells := 0, slots := 0, locals := 22 }) ([] : List va_W) [.int (x)] (bI (iN x 32)) ([] : List va_W) := by
  refine CtI.of (cc := cX6_isWord) (maxL := 1) (ret := (some .boolean)) (plainFor_of_name (by decide)) rfl rfl ?_
  intro pP eE s mM bW mE cC A hE hK hN hM hP hD hA
  obtain ⟨hx, hb, hr, hts, hown, hml, hlk⟩ := hE
  have hown : s.vm.findClass RX6 = some mM.cls := hown
  have hS : va_S A s.heap s.heap [] := va_S.rf
  have hl := lv_entry ([.int (x)]) (n := 1) (Nat.le_of_ble_eq_true rfl)
  rw [lg_entry_eq]
  generalize (lg_sl ([.int (x)]) ++ List.replicate (1 - (lg_sl ([.int (x)])).length) Slot.unset).toArray = ls at hl ⊢
  have hl : lv_has ls 1 [(0, .int (x))] := hl
  refine lv_iload_n hx hb dX6_isWord_0 rfl (lv_at hl 0 rfl) ?_
  refine lv_iconst (v := nI 0) hx hb dX6_isWord_1 (by decide) ?_
  refine lv_bipush (v := nI 31) hx hb dX6_isWord_2 (by decide) ?_
  refine fr_S0 (As := [.int (x), .int (nI 0), .int (nI 31)]) (rest := []) ⟨hx, hb, hml, hown, hts⟩ (kX6_in l D T Z x (nI 0) (nI 31)) (va_cwS 3 hts gX6_isWord_X6_in rfl rfl rfl (by decide +kernel) ⟨Nat.le_of_ble_eq_true rfl, Nat.le_of_ble_eq_true rfl⟩) hK hN hM hP hD hS hA rfl hl.1 rfl (Nat.le_of_ble_eq_true rfl) dX6_isWord_4 ⟨Nat.zero_le _, Nat.zero_le _⟩ (fun H locs hP hD hS => ?_)
  exact fr_zret hx hb hr hlk hP hS (by rw [inn_iN (by decide)]) rfl bI_nar dX6_isWord_7

set_option maxHeartbeats 8000000 in
set_option maxRecDepth 100000 in
theorem kX6_isPage (l : Launch) (D : va_G) (T : Nat → ClassId) (Z : ZZ) (x : Int32)  : CtI l D T Z yX6_isPage wsX6_isPage ({ frames := 1, cells := 0, slots := 0, locals := 22 }) ([] : List va_W) [.int (x)] (bI (iN x 8)) ([] : List va_W) := by
  refine CtI.of (cc := cX6_isPage) (maxL := 1) (ret := (some .boolean)) (plainFor_of_name (by decide)) rfl rfl ?_
  intro pP eE s mM bW mE cC A hE hK hN hM hP hD hA
  obtain ⟨hx, hb, hr, hts, hown, hml, hlk⟩ := hE
  have hown : s.vm.findClass RX6 = some mM.cls := hown
  have hS : va_S A s.heap s.heap [] := va_S.rf
  have hl := lv_entry ([.int (x)]) (n := 1) (Nat.le_of_ble_eq_true rfl)
  rw [lg_entry_eq]
  generalize (lg_sl ([.int (x)]) ++ List.replicate (1 - (lg_sl ([.int (x)])).length) Slot.unset).toArray = ls at hl ⊢
  have hl : lv_has ls 1 [(0, .int (x))] := hl
  refine lv_iload_n hx hb dX6_isPage_0 rfl (lv_at hl 0 rfl) ?_
  refine lv_iconst (v := nI 0) hx hb dX6_isPage_1 (by decide) ?_
  refine lv_bipush (v := nI 7) hx hb dX6_isPage_2 (by decide) ?_
  refine fr_S0 (As := [.int (x), .int (nI 0), .int (nI 7)]) (rest := []) ⟨hx, hb, hml, hown, hts⟩ (kX6_in l D T Z x (nI 0) (nI 7)) (va_cwS 3 hts gX6_isPage_X6_in rfl rfl rfl (by decide +kernel) ⟨Nat.le_of_ble_eq_true rfl, Nat.le_of_ble_eq_true rfl⟩) hK hN hM hP hD hS hA rfl hl.1 rfl (Nat.le_of_ble_eq_true rfl) dX6_isPage_4 ⟨Nat.zero_le _, Nat.zero_le _⟩ (fun H locs hP hD hS => ?_)
  exact fr_zret hx hb hr hlk hP hS (by rw [inn_iN (by decide)]) rfl bI_nar dX6_isPage_7

set_option maxHeartbeats 8000000 in
set_option maxRecDepth 100000 in
theorem kX6_isOne (l : Launch) (D : va_G) (T : Nat → ClassId) (Z : ZZ) (x : Int32)  : CtI l D T Z yX6_isOne wsX6_isOne ({ frames := 1, cells := 0, slots := 0, locals := 22 }) ([] : List va_W) [.int (x)] (bI (iN x 4)) ([] : List va_W) := by
  refine CtI.of (cc := cX6_isOne) (maxL := 1) (ret := (some .boolean)) (plainFor_of_name (by decide)) rfl rfl ?_
  intro pP eE s mM bW mE cC A hE hK hN hM hP hD hA
  obtain ⟨hx, hb, hr, hts, hown, hml, hlk⟩ := hE
  have hown : s.vm.findClass RX6 = some mM.cls := hown
  have hS : va_S A s.heap s.heap [] := va_S.rf
  have hl := lv_entry ([.int (x)]) (n := 1) (Nat.le_of_ble_eq_true rfl)
  rw [lg_entry_eq]
  generalize (lg_sl ([.int (x)]) ++ List.replicate (1 - (lg_sl ([.int (x)])).length) Slot.unset).toArray = ls at hl ⊢
  have hl : lv_has ls 1 [(0, .int (x))] := hl
  refine lv_iload_n hx hb dX6_isOne_0 rfl (lv_at hl 0 rfl) ?_
  refine lv_iconst (v := nI 0) hx hb dX6_isOne_1 (by decide) ?_
  refine lv_iconst (v := nI 3) hx hb dX6_isOne_2 (by decide) ?_
  refine fr_S0 (As := [.int (x), .int (nI 0), .int (nI 3)]) (rest := []) ⟨hx, hb, hml, hown, hts⟩ (kX6_in l D T Z x (nI 0) (nI 3)) (va_cwS 3 hts gX6_isOne_X6_in rfl rfl rfl (by decide +kernel) ⟨Nat.le_of_ble_eq_true rfl, Nat.le_of_ble_eq_true rfl⟩) hK hN hM hP hD hS hA rfl hl.1 rfl (Nat.le_of_ble_eq_true rfl) dX6_isOne_3 ⟨Nat.zero_le _, Nat.zero_le _⟩ (fun H locs hP hD hS => ?_)
  exact fr_zret hx hb hr hlk hP hS (by rw [inn_iN (by decide)]) rfl bI_nar dX6_isOne_6

set_option maxHeartbeats 8000000 in
set_option maxRecDepth 100000 in
theorem kX6_wordAt (l : Launch) (D : va_G) (T : Nat → ClassId) (Z : ZZ) (b : Nat) (w : Nat)  : CtI l D T Z yX6_wordAt wsX6_wordAt ({ frames := 0, cells := 0, slots := 0, locals := 0 }) ([] : List va_W) [.int (nI (b)), .int (nI (w))] (nI (wdt b w)) ([] : List va_W) := by
  refine CtI.of (cc := cX6_wordAt) (maxL := 2) (ret := (some .int)) (plainFor_of_name (by decide)) rfl rfl ?_
  intro pP eE s mM bW mE cC A hE hK hN hM hP hD hA
  obtain ⟨hx, hb, hr, hts, hown, hml, hlk⟩ := hE
  have hown : s.vm.findClass RX6 = some mM.cls := hown
  have hS : va_S A s.heap s.heap [] := va_S.rf
  have hl := lv_entry ([.int (nI (b)), .int (nI (w))]) (n := 2) (Nat.le_of_ble_eq_true rfl)
  rw [lg_entry_eq]
  generalize (lg_sl ([.int (nI (b)), .int (nI (w))]) ++ List.replicate (2 - (lg_sl ([.int (nI (b)), .int (nI (w))])).length) Slot.unset).toArray = ls at hl ⊢
  have hl : lv_has ls 2 [(0, .int (nI (b))), (1, .int (nI (w)))] := hl
  refine lv_iload_n hx hb dX6_wordAt_0 rfl (lv_at hl 0 rfl) ?_
  refine lv_iconst (v := nI 3) hx hb dX6_wordAt_1 (by decide) ?_
  refine lv_iload_n hx hb dX6_wordAt_2 rfl (lv_at hl 1 rfl) ?_
  refine fr_imul (3) (w) hx hb dX6_wordAt_3 ?_
  refine fr_iadd (b) ((3 * w)) hx hb dX6_wordAt_4 ?_
  exact fr_iret hx hb hr hlk hP hS rfl rfl dX6_wordAt_5

set_option maxHeartbeats 8000000 in
set_option maxRecDepth 100000 in
theorem kX6_copyAt (l : Launch) (D : va_G) (T : Nat → ClassId) (Z : ZZ) (b : Nat) (w : Nat)  : CtI l D T Z yX6_copyAt wsX6_copyAt ({ frames := 0, cells := 0, slots := 0, locals := 0 }) ([] : List va_W) [.int (nI (b)), .int (nI (w))] (nI (cpt b w)) ([] : List va_W) := by
  refine CtI.of (cc := cX6_copyAt) (maxL := 2) (ret := (some .int)) (plainFor_of_name (by decide)) rfl rfl ?_
  intro pP eE s mM bW mE cC A hE hK hN hM hP hD hA
  obtain ⟨hx, hb, hr, hts, hown, hml, hlk⟩ := hE
  have hown : s.vm.findClass RX6 = some mM.cls := hown
  have hS : va_S A s.heap s.heap [] := va_S.rf
  have hl := lv_entry ([.int (nI (b)), .int (nI (w))]) (n := 2) (Nat.le_of_ble_eq_true rfl)
  rw [lg_entry_eq]
  generalize (lg_sl ([.int (nI (b)), .int (nI (w))]) ++ List.replicate (2 - (lg_sl ([.int (nI (b)), .int (nI (w))])).length) Slot.unset).toArray = ls at hl ⊢
  have hl : lv_has ls 2 [(0, .int (nI (b))), (1, .int (nI (w)))] := hl
  refine lv_iload_n hx hb dX6_copyAt_0 rfl (lv_at hl 0 rfl) ?_
  refine lv_bipush (v := nI 96) hx hb dX6_copyAt_1 (by decide) ?_
  refine fr_iadd (b) (96) hx hb dX6_copyAt_3 ?_
  refine lv_iconst (v := nI 3) hx hb dX6_copyAt_4 (by decide) ?_
  refine lv_iload_n hx hb dX6_copyAt_5 rfl (lv_at hl 1 rfl) ?_
  refine fr_imul (3) (w) hx hb dX6_copyAt_6 ?_
  refine fr_iadd ((b + 96)) ((3 * w)) hx hb dX6_copyAt_7 ?_
  exact fr_iret hx hb hr hlk hP hS rfl rfl dX6_copyAt_8

set_option maxHeartbeats 8000000 in
set_option maxRecDepth 100000 in
theorem kX6_registerAt (l : Launch) (D : va_G) (T : Nat → ClassId) (Z : ZZ) (b : Nat) (t : Nat) (r : Nat)  : CtI l D T Z yX6_registerAt wsX6_registerAt ({ frames := 0, cells := 0, slots := 0, locals := 0 }) ([] : List va_W) [.int (nI (b)), .int (nI (t)), .int (nI (r))] (nI (rgt b t r)) ([] : List va_W) := by
  refine CtI.of (cc := cX6_registerAt) (maxL := 3) (ret := (some .int)) (plainFor_of_name (by decide)) rfl rfl ?_
  intro pP eE s mM bW mE cC A hE hK hN hM hP hD hA
  obtain ⟨hx, hb, hr, hts, hown, hml, hlk⟩ := hE
  have hown : s.vm.findClass RX6 = some mM.cls := hown
  have hS : va_S A s.heap s.heap [] := va_S.rf
  have hl := lv_entry ([.int (nI (b)), .int (nI (t)), .int (nI (r))]) (n := 3) (Nat.le_of_ble_eq_true rfl)
  rw [lg_entry_eq]
  generalize (lg_sl ([.int (nI (b)), .int (nI (t)), .int (nI (r))]) ++ List.replicate (3 - (lg_sl ([.int (nI (b)), .int (nI (t)), .int (nI (r))])).length) Slot.unset).toArray = ls at hl ⊢
  have hl : lv_has ls 3 [(0, .int (nI (b))), (1, .int (nI (t))), (2, .int (nI (r)))] := hl
  refine lv_iload_n hx hb dX6_registerAt_0 rfl (lv_at hl 0 rfl) ?_
  refine lv_sipush (v := nI 192) hx hb dX6_registerAt_1 (by decide) ?_
  refine fr_iadd (b) (192) hx hb dX6_registerAt_4 ?_
  refine lv_iconst (v := nI 3) hx hb dX6_registerAt_5 (by decide) ?_
  refine lv_iconst (v := nI 4) hx hb dX6_registerAt_6 (by decide) ?_
  refine lv_iload_n hx hb dX6_registerAt_7 rfl (lv_at hl 1 rfl) ?_
  refine fr_imul (4) (t) hx hb dX6_registerAt_8 ?_
  refine lv_iload_n hx hb dX6_registerAt_9 rfl (lv_at hl 2 rfl) ?_
  refine fr_iadd ((4 * t)) (r) hx hb dX6_registerAt_10 ?_
  refine fr_imul (3) (((4 * t) + r)) hx hb dX6_registerAt_11 ?_
  refine fr_iadd ((b + 192)) ((3 * ((4 * t) + r))) hx hb dX6_registerAt_12 ?_
  exact fr_iret hx hb hr hlk hP hS rfl rfl dX6_registerAt_13

set_option maxHeartbeats 8000000 in
set_option maxRecDepth 100000 in
theorem kX6_more (l : Launch) (D : va_G) (T : Nat → ClassId) (Z : ZZ) (h : Int32)  : CtI l D T Z yX6_more wsX6_more ({ frames := 0, cells := 0, slots := 0, locals := 0 }) ([] : List va_W) [.int (h)] (mor h) ([] : List va_W) := by
  refine CtI.of (cc := cX6_more) (maxL := 1) (ret := (some .int)) (plainFor_of_name (by decide)) rfl rfl ?_
  intro pP eE s mM bW mE cC A hE hK hN hM hP hD hA
  obtain ⟨hx, hb, hr, hts, hown, hml, hlk⟩ := hE
  have hown : s.vm.findClass RX6 = some mM.cls := hown
  have hS : va_S A s.heap s.heap [] := va_S.rf
  have hl := lv_entry ([.int (h)]) (n := 1) (Nat.le_of_ble_eq_true rfl)
  rw [lg_entry_eq]
  generalize (lg_sl ([.int (h)]) ++ List.replicate (1 - (lg_sl ([.int (h)])).length) Slot.unset).toArray = ls at hl ⊢
  have hl : lv_has ls 1 [(0, .int (h))] := hl
  refine lv_iload_n hx hb dX6_more_0 rfl (lv_at hl 0 rfl) ?_
  refine lv_bipush (v := nI 99) hx hb dX6_more_1 (by decide) ?_
  refine lv_icmp_ge (tgt := 12) hx hb dX6_more_3 (by decide) (fun c_1 => ?_) (fun c_1 => ?_)
  · have c_1' := Int32.not_lt.mpr c_1
    refine lv_bipush (v := nI 99) hx hb dX6_more_12 (by decide) ?_
    exact fr_iret hx hb hr hlk hP hS (by first | rfl | (simp only [mor, c_1, c_1', ↓reduceIte, Bool.false_eq_true, bI_true, bI_false, Bool.true_and, Bool.and_true, Bool.and_false, Bool.false_and, Bool.not_true, Bool.not_false, Bool.or_true, Bool.true_or, Bool.or_false, Bool.false_or] <;> rfl) | (simp [mor, c_1, c_1', bI]; done)) rfl dX6_more_14
  · have c_1' := Int32.not_le.mp c_1
    refine lv_iload_n hx hb dX6_more_6 rfl (lv_at hl 0 rfl) ?_
    refine lv_iconst (v := nI 1) hx hb dX6_more_7 (by decide) ?_
    refine lv_iadd hx hb dX6_more_8 ?_
    refine lv_goto (tgt := 14) hx hb dX6_more_9 (by decide) ?_
    exact fr_iret hx hb hr hlk hP hS (by first | rfl | (simp only [mor, c_1, c_1', ↓reduceIte, Bool.false_eq_true, bI_true, bI_false, Bool.true_and, Bool.and_true, Bool.and_false, Bool.false_and, Bool.not_true, Bool.not_false, Bool.or_true, Bool.true_or, Bool.or_false, Bool.false_or] <;> rfl) | (simp [mor, c_1, c_1', bI]; done)) rfl dX6_more_14

set_option maxHeartbeats 8000000 in
set_option maxRecDepth 100000 in
theorem kX6_isError (l : Launch) (D : va_G) (T : Nat → ClassId) (Z : ZZ) (x : Int32)  : CtI l D T Z yX6_isError wsX6_isError ({ frames := 0, cells := 0, slots := 0, locals := 0 }) ([] : List va_W) [.int (x)] (bI (isErr x)) ([] : List va_W) := by
  refine CtI.of (cc := cX6_isError) (maxL := 1) (ret := (some .boolean)) (plainFor_of_name (by decide)) rfl rfl ?_
  intro pP eE s mM bW mE cC A hE hK hN hM hP hD hA
  obtain ⟨hx, hb, hr, hts, hown, hml, hlk⟩ := hE
  have hown : s.vm.findClass RX6 = some mM.cls := hown
  have hS : va_S A s.heap s.heap [] := va_S.rf
  have hl := lv_entry ([.int (x)]) (n := 1) (Nat.le_of_ble_eq_true rfl)
  rw [lg_entry_eq]
  generalize (lg_sl ([.int (x)]) ++ List.replicate (1 - (lg_sl ([.int (x)])).length) Slot.unset).toArray = ls at hl ⊢
  have hl : lv_has ls 1 [(0, .int (x))] := hl
  refine lv_iload_n hx hb dX6_isError_0 rfl (lv_at hl 0 rfl) ?_
  refine lv_if_ge (tgt := 14) hx hb dX6_isError_1 (by decide) (fun c_1 => ?_) (fun c_1 => ?_)
  · have c_1' := Int32.not_lt.mpr c_1
    refine lv_iconst (v := nI 0) hx hb dX6_isError_14 (by decide) ?_
    exact fr_zret hx hb hr hlk hP hS (by first | rfl | (simp only [isErr, bI, c_1, c_1', ↓reduceIte, Bool.false_eq_true, bI_true, bI_false, Bool.true_and, Bool.and_true, Bool.and_false, Bool.false_and, Bool.not_true, Bool.not_false, Bool.or_true, Bool.true_or, Bool.or_false, Bool.false_or] <;> rfl) | (simp [isErr, bI, c_1, c_1', bI]; done)) rfl rfl dX6_isError_15
  · have c_1' := Int32.not_le.mp c_1
    refine lv_iload_n hx hb dX6_isError_4 rfl (lv_at hl 0 rfl) ?_
    refine lv_bipush (v := (-6)) hx hb dX6_isError_5 (by decide) ?_
    refine lv_icmp_le (tgt := 14) hx hb dX6_isError_7 (by decide) (fun c_2 => ?_) (fun c_2 => ?_)
    · have c_2' := Int32.not_lt.mpr c_2
      refine lv_iconst (v := nI 0) hx hb dX6_isError_14 (by decide) ?_
      exact fr_zret hx hb hr hlk hP hS (by first | rfl | (simp only [isErr, bI, c_1, c_1', c_2, c_2', ↓reduceIte, Bool.false_eq_true, bI_true, bI_false, Bool.true_and, Bool.and_true, Bool.and_false, Bool.false_and, Bool.not_true, Bool.not_false, Bool.or_true, Bool.true_or, Bool.or_false, Bool.false_or] <;> rfl) | (simp [isErr, bI, c_1, c_1', c_2, c_2', bI]; done)) rfl rfl dX6_isError_15
    · have c_2' := Int32.not_le.mp c_2
      refine lv_iconst (v := nI 1) hx hb dX6_isError_10 (by decide) ?_
      refine lv_goto (tgt := 15) hx hb dX6_isError_11 (by decide) ?_
      exact fr_zret hx hb hr hlk hP hS (by first | rfl | (simp only [isErr, bI, c_1, c_1', c_2, c_2', ↓reduceIte, Bool.false_eq_true, bI_true, bI_false, Bool.true_and, Bool.and_true, Bool.and_false, Bool.false_and, Bool.not_true, Bool.not_false, Bool.or_true, Bool.true_or, Bool.or_false, Bool.false_or] <;> rfl) | (simp [isErr, bI, c_1, c_1', c_2, c_2', bI]; done)) rfl rfl dX6_isError_15

set_option maxHeartbeats 8000000 in
set_option maxRecDepth 100000 in
theorem kX6_isPoisoned (l : Launch) (D : va_G) (T : Nat → ClassId) (Z : ZZ) (md : Nat → Nat) (n : Nat) (len : Nat) (p : Nat) (le : Nat) (σ : MS) (k : Nat) (hk : k + 1 < 1872) : CtI l D T Z yX6_isPoisoned wsX6_isPoisoned ({ frames := 0, cells := 0, slots := 0, locals := 0 }) [[((md 0), .inr (6, [.ref (md 1), .int (nI (n)), .ref (md 2), .int (nI (len)), .int (nI (p)), .int (nI (le)), .ref (md 3), .ref (md 4)]))], [((md 1), .inl (T 0, 1872, .inl (σ)))]] [.ref (md 0), .int (nI (k))] (bI (ps (σ (k + 1)))) [[((md 0), .inr (6, [.ref (md 1), .int (nI (n)), .ref (md 2), .int (nI (len)), .int (nI (p)), .int (nI (le)), .ref (md 3), .ref (md 4)]))], [((md 1), .inl (T 0, 1872, .inl (σ)))]] := by
  refine CtI.of (cc := cX6_isPoisoned) (maxL := 2) (ret := (some .boolean)) (plainFor_of_name (by decide)) rfl rfl ?_
  intro pP eE s mM bW mE cC A hE hK hN hM hP hD hA
  obtain ⟨hx, hb, hr, hts, hown, hml, hlk⟩ := hE
  have hown : s.vm.findClass RX6 = some mM.cls := hown
  have hS : va_S A s.heap s.heap [] := va_S.rf
  have hl := lv_entry ([.ref (md 0), .int (nI (k))]) (n := 2) (Nat.le_of_ble_eq_true rfl)
  rw [lg_entry_eq]
  generalize (lg_sl ([.ref (md 0), .int (nI (k))]) ++ List.replicate (2 - (lg_sl ([.ref (md 0), .int (nI (k))])).length) Slot.unset).toArray = ls at hl ⊢
  have hl : lv_has ls 2 [(0, .ref (md 0)), (1, .int (nI (k)))] := hl
  have w_7 := hts (.fieldLink RX6 7 "PoisonedMemoryModel" "s" "[I") (by decide +kernel)
  have hinX6 : ∀ w ∈ wsX60, w ∈ wsX6_isPoisoned := by decide +kernel
  refine lv_aload_n hx hb dX6_isPoisoned_0 rfl (lv_at hl 0 rfl) ?_
  refine va_get (D := D) (ci := 6) (v := .ref (md 1)) (C := RX6) (T := TX6) (N := 8) hx hb hts hinX6 hown hK (hP.at 0 rfl) 0 rfl rfl 0 (by decide) w_7 (fun _ h9 => h9) rfl dX6_isPoisoned_1 ?_
  refine lv_iload_n hx hb dX6_isPoisoned_4 rfl (lv_at hl 1 rfl) ?_
  refine lv_iconst (v := nI 1) hx hb dX6_isPoisoned_5 (by decide) ?_
  refine fr_iadd (k) (1) hx hb dX6_isPoisoned_6 ?_
  refine fr_iald hx hb hK hP 1 ((k + 1)) rfl (by omega) (by omega) dX6_isPoisoned_7 ?_
  refine lv_bipush (v := (-6)) hx hb dX6_isPoisoned_8 (by decide) ?_
  refine lv_icmp_eq (tgt := 17) hx hb dX6_isPoisoned_10 (by decide) (fun c_1 => ?_) (fun c_1 => ?_)
  · refine lv_iconst (v := nI 0) hx hb dX6_isPoisoned_17 (by decide) ?_
    exact fr_zret hx hb hr hlk hP hS (by first | rfl | (simp only [ps, bI, c_1, ↓reduceIte, Bool.false_eq_true, bI_true, bI_false, Bool.true_and, Bool.and_true, Bool.and_false, Bool.false_and, Bool.not_true, Bool.not_false, Bool.or_true, Bool.true_or, Bool.or_false, Bool.false_or] <;> rfl) | (simp [ps, bI, c_1, bI]; done)) rfl rfl dX6_isPoisoned_18
  · refine lv_iconst (v := nI 1) hx hb dX6_isPoisoned_13 (by decide) ?_
    refine lv_goto (tgt := 18) hx hb dX6_isPoisoned_14 (by decide) ?_
    exact fr_zret hx hb hr hlk hP hS (by first | rfl | (simp only [ps, bI, c_1, ↓reduceIte, Bool.false_eq_true, bI_true, bI_false, Bool.true_and, Bool.and_true, Bool.and_false, Bool.false_and, Bool.not_true, Bool.not_false, Bool.or_true, Bool.true_or, Bool.or_false, Bool.false_or] <;> rfl) | (simp [ps, bI, c_1, bI]; done)) rfl rfl dX6_isPoisoned_18

set_option maxHeartbeats 8000000 in
set_option maxRecDepth 100000 in
theorem kX6_lays (l : Launch) (D : va_G) (T : Nat → ClassId) (Z : ZZ) (md : Nat → Nat) (n : Nat) (len : Nat) (p : Nat) (le : Nat) (σ : MS) (k : Nat) (v : Int32) (o : Int32) (h : Int32) (hk : k + 2 < 1872) : CtV l D T Z yX6_lays wsX6_lays ({ frames := 0, cells := 0, slots := 0, locals := 0 }) [[((md 0), .inr (6, [.ref (md 1), .int (nI (n)), .ref (md 2), .int (nI (len)), .int (nI (p)), .int (nI (le)), .ref (md 3), .ref (md 4)]))], [((md 1), .inl (T 0, 1872, .inl (σ)))]] [.ref (md 0), .int (nI (k)), .int (v), .int (o), .int (h)] [[((md 0), .inr (6, [.ref (md 1), .int (nI (n)), .ref (md 2), .int (nI (len)), .int (nI (p)), .int (nI (le)), .ref (md 3), .ref (md 4)]))], [((md 1), .inl (T 0, 1872, .inl (lay σ k v o h)))]] := by
  refine CtV.of (cc := cX6_lays) (maxL := 5) (ret := none) (plainFor_of_name (by decide)) rfl rfl ?_
  intro pP eE s mM bW mE cC A hE hK hN hM hP hD hA
  obtain ⟨hx, hb, hr, hts, hown, hml, hlk⟩ := hE
  have hown : s.vm.findClass RX6 = some mM.cls := hown
  have hS : va_S A s.heap s.heap [] := va_S.rf
  have hl := lv_entry ([.ref (md 0), .int (nI (k)), .int (v), .int (o), .int (h)]) (n := 5) (Nat.le_of_ble_eq_true rfl)
  rw [lg_entry_eq]
  generalize (lg_sl ([.ref (md 0), .int (nI (k)), .int (v), .int (o), .int (h)]) ++ List.replicate (5 - (lg_sl ([.ref (md 0), .int (nI (k)), .int (v), .int (o), .int (h)])).length) Slot.unset).toArray = ls at hl ⊢
  have hl : lv_has ls 5 [(0, .ref (md 0)), (1, .int (nI (k))), (2, .int (v)), (3, .int (o)), (4, .int (h))] := hl
  have w_7 := hts (.fieldLink RX6 7 "PoisonedMemoryModel" "s" "[I") (by decide +kernel)
  have hinX6 : ∀ w ∈ wsX60, w ∈ wsX6_lays := by decide +kernel
  refine lv_aload_n hx hb dX6_lays_0 rfl (lv_at hl 0 rfl) ?_
  refine va_get (D := D) (ci := 6) (v := .ref (md 1)) (C := RX6) (T := TX6) (N := 8) hx hb hts hinX6 hown hK (hP.at 0 rfl) 0 rfl rfl 0 (by decide) w_7 (fun _ h9 => h9) rfl dX6_lays_1 ?_
  refine lv_iload_n hx hb dX6_lays_4 rfl (lv_at hl 1 rfl) ?_
  refine lv_iload_n hx hb dX6_lays_5 rfl (lv_at hl 2 rfl) ?_
  refine fr_iast (fs' := [[((md 0), .inr (6, [.ref (md 1), .int (nI (n)), .ref (md 2), .int (nI (len)), .int (nI (p)), .int (nI (le)), .ref (md 3), .ref (md 4)]))], [((md 1), .inl (T 0, 1872, .inl (upd σ k v)))]]) hx hb hK hP hD hS 1 (k) rfl rfl (by omega) (by omega) dX6_lays_6 (fun H locs hP hD hS => ?_)
  refine lv_aload_n hx hb dX6_lays_7 rfl (lv_at hl 0 rfl) ?_
  refine va_get (D := D) (ci := 6) (v := .ref (md 1)) (C := RX6) (T := TX6) (N := 8) hx hb hts hinX6 hown hK (hP.at 0 rfl) 0 rfl rfl 0 (by decide) w_7 (fun _ h9 => h9) rfl dX6_lays_8 ?_
  refine lv_iload_n hx hb dX6_lays_11 rfl (lv_at hl 1 rfl) ?_
  refine lv_iconst (v := nI 1) hx hb dX6_lays_12 (by decide) ?_
  refine fr_iadd (k) (1) hx hb dX6_lays_13 ?_
  refine lv_iload_n hx hb dX6_lays_14 rfl (lv_at hl 3 rfl) ?_
  refine fr_iast (fs' := [[((md 0), .inr (6, [.ref (md 1), .int (nI (n)), .ref (md 2), .int (nI (len)), .int (nI (p)), .int (nI (le)), .ref (md 3), .ref (md 4)]))], [((md 1), .inl (T 0, 1872, .inl (upd (upd σ k v) (k + 1) o)))]]) hx hb hK hP hD hS 1 ((k + 1)) rfl rfl (by omega) (by omega) dX6_lays_15 (fun H locs hP hD hS => ?_)
  refine lv_aload_n hx hb dX6_lays_16 rfl (lv_at hl 0 rfl) ?_
  refine va_get (D := D) (ci := 6) (v := .ref (md 1)) (C := RX6) (T := TX6) (N := 8) hx hb hts hinX6 hown hK (hP.at 0 rfl) 0 rfl rfl 0 (by decide) w_7 (fun _ h9 => h9) rfl dX6_lays_17 ?_
  refine lv_iload_n hx hb dX6_lays_20 rfl (lv_at hl 1 rfl) ?_
  refine lv_iconst (v := nI 2) hx hb dX6_lays_21 (by decide) ?_
  refine fr_iadd (k) (2) hx hb dX6_lays_22 ?_
  refine lv_iload_n hx hb dX6_lays_23 rfl (lv_at hl 3 rfl) ?_
  refine lv_bipush (v := (-6)) hx hb dX6_lays_24 (by decide) ?_
  refine lv_icmp_ne (tgt := 33) hx hb dX6_lays_26 (by decide) (fun c_1 => ?_) (fun c_1 => ?_)
  · refine lv_iload hx hb dX6_lays_33 (lv_at hl 4 rfl) ?_
    refine fr_iast (fs' := [[((md 0), .inr (6, [.ref (md 1), .int (nI (n)), .ref (md 2), .int (nI (len)), .int (nI (p)), .int (nI (le)), .ref (md 3), .ref (md 4)]))], [((md 1), .inl (T 0, 1872, .inl (upd (upd (upd σ k v) (k + 1) o) (k + 2) h)))]]) hx hb hK hP hD hS 1 ((k + 2)) rfl rfl (by omega) (by omega) dX6_lays_35 (fun H locs hP hD hS => ?_)
    exact fr_vret hx hb hr hlk hP hS (by first | rfl | (simp only [lay, ps, c_1, ↓reduceIte, Bool.false_eq_true, bI_true, bI_false, Bool.true_and, Bool.and_true, Bool.and_false, Bool.false_and, Bool.not_true, Bool.not_false, Bool.or_true, Bool.true_or, Bool.or_false, Bool.false_or, decide_true, decide_false] <;> rfl)) dX6_lays_36
  · refine lv_iconst (v := nI 0) hx hb dX6_lays_29 (by decide) ?_
    refine lv_goto (tgt := 35) hx hb dX6_lays_30 (by decide) ?_
    refine fr_iast (fs' := [[((md 0), .inr (6, [.ref (md 1), .int (nI (n)), .ref (md 2), .int (nI (len)), .int (nI (p)), .int (nI (le)), .ref (md 3), .ref (md 4)]))], [((md 1), .inl (T 0, 1872, .inl (upd (upd (upd σ k v) (k + 1) o) (k + 2) (nI 0))))]]) hx hb hK hP hD hS 1 ((k + 2)) rfl rfl (by omega) (by omega) dX6_lays_35 (fun H locs hP hD hS => ?_)
    exact fr_vret hx hb hr hlk hP hS (by first | rfl | (simp only [lay, ps, c_1, ↓reduceIte, Bool.false_eq_true, bI_true, bI_false, Bool.true_and, Bool.and_true, Bool.and_false, Bool.false_and, Bool.not_true, Bool.not_false, Bool.or_true, Bool.true_or, Bool.or_false, Bool.false_or, decide_true, decide_false] <;> rfl)) dX6_lays_36

set_option maxHeartbeats 8000000 in
set_option maxRecDepth 100000 in
theorem kX6_gets (l : Launch) (D : va_G) (T : Nat → ClassId) (Z : ZZ) (md : Nat → Nat) (n : Nat) (len : Nat) (p : Nat) (le : Nat) (σ : MS) (k : Nat) (v : Int32) (j : Nat) (hk : k + 2 < 1872) (hj : j + 2 < 1872) : CtV l D T Z yX6_gets wsX6_gets ({ frames := 1, cells := 0, slots := 0, locals := 24 }) [[((md 0), .inr (6, [.ref (md 1), .int (nI (n)), .ref (md 2), .int (nI (len)), .int (nI (p)), .int (nI (le)), .ref (md 3), .ref (md 4)]))], [((md 1), .inl (T 0, 1872, .inl (σ)))]] [.ref (md 0), .int (nI (k)), .int (v), .int (nI (j))] [[((md 0), .inr (6, [.ref (md 1), .int (nI (n)), .ref (md 2), .int (nI (len)), .int (nI (p)), .int (nI (le)), .ref (md 3), .ref (md 4)]))], [((md 1), .inl (T 0, 1872, .inl (mGet σ k v j)))]] := by
  refine CtV.of (cc := cX6_gets) (maxL := 4) (ret := none) (plainFor_of_name (by decide)) rfl rfl ?_
  intro pP eE s mM bW mE cC A hE hK hN hM hP hD hA
  obtain ⟨hx, hb, hr, hts, hown, hml, hlk⟩ := hE
  have hown : s.vm.findClass RX6 = some mM.cls := hown
  have hS : va_S A s.heap s.heap [] := va_S.rf
  have hl := lv_entry ([.ref (md 0), .int (nI (k)), .int (v), .int (nI (j))]) (n := 4) (Nat.le_of_ble_eq_true rfl)
  rw [lg_entry_eq]
  generalize (lg_sl ([.ref (md 0), .int (nI (k)), .int (v), .int (nI (j))]) ++ List.replicate (4 - (lg_sl ([.ref (md 0), .int (nI (k)), .int (v), .int (nI (j))])).length) Slot.unset).toArray = ls at hl ⊢
  have hl : lv_has ls 4 [(0, .ref (md 0)), (1, .int (nI (k))), (2, .int (v)), (3, .int (nI (j)))] := hl
  have w_7 := hts (.fieldLink RX6 7 "PoisonedMemoryModel" "s" "[I") (by decide +kernel)
  have hinX6 : ∀ w ∈ wsX60, w ∈ wsX6_gets := by decide +kernel
  refine lv_aload_n hx hb dX6_gets_0 rfl (lv_at hl 0 rfl) ?_
  refine lv_iload_n hx hb dX6_gets_1 rfl (lv_at hl 1 rfl) ?_
  refine lv_iload_n hx hb dX6_gets_2 rfl (lv_at hl 2 rfl) ?_
  refine lv_aload_n hx hb dX6_gets_3 rfl (lv_at hl 0 rfl) ?_
  refine va_get (D := D) (ci := 6) (v := .ref (md 1)) (C := RX6) (T := TX6) (N := 8) hx hb hts hinX6 hown hK (hP.at 0 rfl) 0 rfl rfl 0 (by decide) w_7 (fun _ h9 => h9) rfl dX6_gets_4 ?_
  refine lv_iload_n hx hb dX6_gets_7 rfl (lv_at hl 3 rfl) ?_
  refine lv_iconst (v := nI 1) hx hb dX6_gets_8 (by decide) ?_
  refine fr_iadd (j) (1) hx hb dX6_gets_9 ?_
  refine fr_iald hx hb hK hP 1 ((j + 1)) rfl (by omega) (by omega) dX6_gets_10 ?_
  refine lv_aload_n hx hb dX6_gets_11 rfl (lv_at hl 0 rfl) ?_
  refine va_get (D := D) (ci := 6) (v := .ref (md 1)) (C := RX6) (T := TX6) (N := 8) hx hb hts hinX6 hown hK (hP.at 0 rfl) 0 rfl rfl 0 (by decide) w_7 (fun _ h9 => h9) rfl dX6_gets_12 ?_
  refine lv_iload_n hx hb dX6_gets_15 rfl (lv_at hl 3 rfl) ?_
  refine lv_iconst (v := nI 2) hx hb dX6_gets_16 (by decide) ?_
  refine fr_iadd (j) (2) hx hb dX6_gets_17 ?_
  refine fr_iald hx hb hK hP 1 ((j + 2)) rfl (by omega) (by omega) dX6_gets_18 ?_
  refine fr_S0 (As := [.int (σ (j + 2))]) (rest := [.int (σ (j + 1)), .int (v), .int (nI (k)), .ref (md 0)]) ⟨hx, hb, hml, hown, hts⟩ (kX6_more l D T Z (σ (j + 2))) (va_cwS 1 hts gX6_gets_X6_more rfl rfl rfl (by decide +kernel) ⟨Nat.le_of_ble_eq_true rfl, Nat.le_of_ble_eq_true rfl⟩) hK hN hM hP hD hS hA rfl hl.1 rfl (Nat.le_of_ble_eq_true rfl) dX6_gets_19 ⟨Nat.zero_le _, Nat.zero_le _⟩ (fun H locs hP hD hS => ?_)
  refine fr_Vv (As := [.int (nI (k)), .int (v), .int (σ (j + 1)), .int (mor (σ (j + 2)))]) (rest := []) (fs' := [[((md 0), .inr (6, [.ref (md 1), .int (nI (n)), .ref (md 2), .int (nI (len)), .int (nI (p)), .int (nI (le)), .ref (md 3), .ref (md 4)]))], [((md 1), .inl (T 0, 1872, .inl (lay σ k v (σ (j + 1)) (mor (σ (j + 2))))))]]) (ci := 6) (q0 := (RX6, TX6, 8)) (i0 := 0) ⟨hx, hb, hml, hown, hts⟩ (kX6_lays l D T Z md n len p le σ k v (σ (j + 1)) (mor (σ (j + 2))) (by omega)) (cwV 4 hts gX6_gets_X6_lays rfl rfl rfl (by decide +kernel) ⟨Nat.le_of_ble_eq_true rfl, Nat.le_of_ble_eq_true rfl⟩) hK hN hM hP hD hS hA [0, 1] rfl rfl rfl rfl rfl rfl hl.1 rfl (Nat.le_of_ble_eq_true rfl) dX6_gets_22 ⟨Nat.zero_le _, Nat.zero_le _⟩ (fun H locs hP hD hS => ?_)
  exact fr_vret hx hb hr hlk hP hS (by first | rfl | (simp only [↓reduceIte, Bool.false_eq_true, bI_true, bI_false, Bool.true_and, Bool.and_true, Bool.and_false, Bool.false_and, Bool.not_true, Bool.not_false, Bool.or_true, Bool.true_or, Bool.or_false, Bool.false_or] <;> rfl) | (simp [bI]; done)) dX6_gets_25

set_option maxHeartbeats 8000000 in
set_option maxRecDepth 100000 in
theorem kX6_isMirrored (l : Launch) (D : va_G) (T : Nat → ClassId) (Z : ZZ) (md : Nat → Nat) (n : Nat) (len : Nat) (p : Nat) (le : Nat) (σ : MS) (b : Nat) (w : Nat) (hb9 : b ≤ 1560) (hw : w < 32) : CtI l D T Z yX6_isMirrored wsX6_isMirrored ({ frames := 0, cells := 0, slots := 0, locals := 0 }) [[((md 0), .inr (6, [.ref (md 1), .int (nI (n)), .ref (md 2), .int (nI (len)), .int (nI (p)), .int (nI (le)), .ref (md 3), .ref (md 4)]))], [((md 1), .inl (T 0, 1872, .inl (σ)))]] [.ref (md 0), .int (nI (b)), .int (nI (w))] (bI (mMi σ b w)) [[((md 0), .inr (6, [.ref (md 1), .int (nI (n)), .ref (md 2), .int (nI (len)), .int (nI (p)), .int (nI (le)), .ref (md 3), .ref (md 4)]))], [((md 1), .inl (T 0, 1872, .inl (σ)))]] := by
  refine CtI.of (cc := cX6_isMirrored) (maxL := 3) (ret := (some .boolean)) (plainFor_of_name (by decide)) rfl rfl ?_
  intro pP eE s mM bW mE cC A hE hK hN hM hP hD hA
  obtain ⟨hx, hb, hr, hts, hown, hml, hlk⟩ := hE
  have hown : s.vm.findClass RX6 = some mM.cls := hown
  have hS : va_S A s.heap s.heap [] := va_S.rf
  have hl := lv_entry ([.ref (md 0), .int (nI (b)), .int (nI (w))]) (n := 3) (Nat.le_of_ble_eq_true rfl)
  rw [lg_entry_eq]
  generalize (lg_sl ([.ref (md 0), .int (nI (b)), .int (nI (w))]) ++ List.replicate (3 - (lg_sl ([.ref (md 0), .int (nI (b)), .int (nI (w))])).length) Slot.unset).toArray = ls at hl ⊢
  have hl : lv_has ls 3 [(0, .ref (md 0)), (1, .int (nI (b))), (2, .int (nI (w)))] := hl
  have w_7 := hts (.fieldLink RX6 7 "PoisonedMemoryModel" "s" "[I") (by decide +kernel)
  have hinX6 : ∀ w ∈ wsX60, w ∈ wsX6_isMirrored := by decide +kernel
  refine lv_aload_n hx hb dX6_isMirrored_0 rfl (lv_at hl 0 rfl) ?_
  refine va_get (D := D) (ci := 6) (v := .ref (md 1)) (C := RX6) (T := TX6) (N := 8) hx hb hts hinX6 hown hK (hP.at 0 rfl) 0 rfl rfl 0 (by decide) w_7 (fun _ h9 => h9) rfl dX6_isMirrored_1 ?_
  refine lv_iload_n hx hb dX6_isMirrored_4 rfl (lv_at hl 1 rfl) ?_
  refine lv_sipush (v := nI 240) hx hb dX6_isMirrored_5 (by decide) ?_
  refine fr_iadd (b) (240) hx hb dX6_isMirrored_8 ?_
  refine lv_iload_n hx hb dX6_isMirrored_9 rfl (lv_at hl 2 rfl) ?_
  refine lv_iconst (v := nI 4) hx hb dX6_isMirrored_10 (by decide) ?_
  refine fr_idiv (w) (4) (by omega) (by omega) (by omega) hx hb dX6_isMirrored_11 ?_
  refine fr_iadd ((b + 240)) ((w / 4)) hx hb dX6_isMirrored_12 ?_
  refine fr_iald hx hb hK hP 1 (((b + 240) + (w / 4))) rfl (by omega) (by omega) dX6_isMirrored_13 ?_
  refine lv_iconst (v := nI 1) hx hb dX6_isMirrored_14 (by decide) ?_
  refine lv_icmp_ne (tgt := 22) hx hb dX6_isMirrored_15 (by decide) (fun c_1 => ?_) (fun c_1 => ?_)
  · refine lv_iconst (v := nI 0) hx hb dX6_isMirrored_22 (by decide) ?_
    exact fr_zret hx hb hr hlk hP hS (by first | rfl | (simp only [mMi, m1, decide_true, decide_false, c_1, ↓reduceIte, Bool.false_eq_true, bI_true, bI_false, Bool.true_and, Bool.and_true, Bool.and_false, Bool.false_and, Bool.not_true, Bool.not_false, Bool.or_true, Bool.true_or, Bool.or_false, Bool.false_or] <;> rfl) | (simp [mMi, m1, decide_true, decide_false, c_1, bI]; done)) rfl rfl dX6_isMirrored_23
  · refine lv_iconst (v := nI 1) hx hb dX6_isMirrored_18 (by decide) ?_
    refine lv_goto (tgt := 23) hx hb dX6_isMirrored_19 (by decide) ?_
    exact fr_zret hx hb hr hlk hP hS (by first | rfl | (simp only [mMi, m1, decide_true, decide_false, c_1, ↓reduceIte, Bool.false_eq_true, bI_true, bI_false, Bool.true_and, Bool.and_true, Bool.and_false, Bool.false_and, Bool.not_true, Bool.not_false, Bool.or_true, Bool.true_or, Bool.or_false, Bool.false_or] <;> rfl) | (simp [mMi, m1, decide_true, decide_false, c_1, bI]; done)) rfl rfl dX6_isMirrored_23

set_option maxHeartbeats 8000000 in
set_option maxRecDepth 100000 in
theorem kX6_canHeal (l : Launch) (D : va_G) (T : Nat → ClassId) (Z : ZZ) (md : Nat → Nat) (n : Nat) (len : Nat) (p : Nat) (le : Nat) (σ : MS) (b : Nat) (w : Nat) (hb9 : b ≤ 1560) (hw : w < 32) : CtI l D T Z yX6_canHeal wsX6_canHeal ({ frames := 1, cells := 0, slots := 0, locals := 22 }) [[((md 0), .inr (6, [.ref (md 1), .int (nI (n)), .ref (md 2), .int (nI (len)), .int (nI (p)), .int (nI (le)), .ref (md 3), .ref (md 4)]))], [((md 1), .inl (T 0, 1872, .inl (σ)))]] [.ref (md 0), .int (nI (b)), .int (nI (w))] (bI (mCH σ b w)) [[((md 0), .inr (6, [.ref (md 1), .int (nI (n)), .ref (md 2), .int (nI (len)), .int (nI (p)), .int (nI (le)), .ref (md 3), .ref (md 4)]))], [((md 1), .inl (T 0, 1872, .inl (σ)))]] := by
  have hwd : wdt b w = b + 3 * w := rfl
  have hcp : cpt b w = b + 96 + 3 * w := rfl
  refine CtI.of (cc := cX6_canHeal) (maxL := 3) (ret := (some .boolean)) (plainFor_of_name (by decide)) rfl rfl ?_
  intro pP eE s mM bW mE cC A hE hK hN hM hP hD hA
  obtain ⟨hx, hb, hr, hts, hown, hml, hlk⟩ := hE
  have hown : s.vm.findClass RX6 = some mM.cls := hown
  have hS : va_S A s.heap s.heap [] := va_S.rf
  have hl := lv_entry ([.ref (md 0), .int (nI (b)), .int (nI (w))]) (n := 3) (Nat.le_of_ble_eq_true rfl)
  rw [lg_entry_eq]
  generalize (lg_sl ([.ref (md 0), .int (nI (b)), .int (nI (w))]) ++ List.replicate (3 - (lg_sl ([.ref (md 0), .int (nI (b)), .int (nI (w))])).length) Slot.unset).toArray = ls at hl ⊢
  have hl : lv_has ls 3 [(0, .ref (md 0)), (1, .int (nI (b))), (2, .int (nI (w)))] := hl
  refine lv_aload_n hx hb dX6_canHeal_0 rfl (lv_at hl 0 rfl) ?_
  refine lv_iload_n hx hb dX6_canHeal_1 rfl (lv_at hl 1 rfl) ?_
  refine lv_iload_n hx hb dX6_canHeal_2 rfl (lv_at hl 2 rfl) ?_
  refine fr_S0 (As := [.int (nI (b)), .int (nI (w))]) (rest := [.ref (md 0)]) ⟨hx, hb, hml, hown, hts⟩ (kX6_wordAt l D T Z b w) (va_cwS 2 hts gX6_canHeal_X6_wordAt rfl rfl rfl (by decide +kernel) ⟨Nat.le_of_ble_eq_true rfl, Nat.le_of_ble_eq_true rfl⟩) hK hN hM hP hD hS hA rfl hl.1 rfl (Nat.le_of_ble_eq_true rfl) dX6_canHeal_3 ⟨Nat.zero_le _, Nat.zero_le _⟩ (fun H locs hP hD hS => ?_)
  refine fr_Vi (As := [.int (nI (wdt b w))]) (rest := []) (fs' := [[((md 0), .inr (6, [.ref (md 1), .int (nI (n)), .ref (md 2), .int (nI (len)), .int (nI (p)), .int (nI (le)), .ref (md 3), .ref (md 4)]))], [((md 1), .inl (T 0, 1872, .inl (σ)))]]) (ci := 6) (q0 := (RX6, TX6, 8)) (i0 := 0) ⟨hx, hb, hml, hown, hts⟩ (kX6_isPoisoned l D T Z md n len p le σ (wdt b w) (by omega)) (cwV 1 hts gX6_canHeal_X6_isPoisoned rfl rfl rfl (by decide +kernel) ⟨Nat.le_of_ble_eq_true rfl, Nat.le_of_ble_eq_true rfl⟩) hK hN hM hP hD hS hA [0, 1] rfl rfl rfl rfl rfl rfl hl.1 rfl (Nat.le_of_ble_eq_true rfl) dX6_canHeal_6 ⟨Nat.zero_le _, Nat.zero_le _⟩ (fun H locs hP hD hS => ?_)
  refine fr_ifeq_b (tgt := 37) hx hb dX6_canHeal_9 (by decide) (fun c_1 => ?_) (fun c_1 => ?_)
  · refine lv_iconst (v := nI 0) hx hb dX6_canHeal_37 (by decide) ?_
    exact fr_zret hx hb hr hlk hP hS (by first | rfl | (simp only [mCH, c_1, ↓reduceIte, Bool.false_eq_true, bI_true, bI_false, Bool.true_and, Bool.and_true, Bool.and_false, Bool.false_and, Bool.not_true, Bool.not_false, Bool.or_true, Bool.true_or, Bool.or_false, Bool.false_or] <;> rfl) | (simp [mCH, c_1, bI]; done)) rfl rfl dX6_canHeal_38
  · refine lv_aload_n hx hb dX6_canHeal_12 rfl (lv_at hl 0 rfl) ?_
    refine lv_iload_n hx hb dX6_canHeal_13 rfl (lv_at hl 1 rfl) ?_
    refine lv_iload_n hx hb dX6_canHeal_14 rfl (lv_at hl 2 rfl) ?_
    refine fr_Vi (As := [.int (nI (b)), .int (nI (w))]) (rest := []) (fs' := [[((md 0), .inr (6, [.ref (md 1), .int (nI (n)), .ref (md 2), .int (nI (len)), .int (nI (p)), .int (nI (le)), .ref (md 3), .ref (md 4)]))], [((md 1), .inl (T 0, 1872, .inl (σ)))]]) (ci := 6) (q0 := (RX6, TX6, 8)) (i0 := 0) ⟨hx, hb, hml, hown, hts⟩ (kX6_isMirrored l D T Z md n len p le σ b w (by omega) (by omega)) (cwV 2 hts gX6_canHeal_X6_isMirrored rfl rfl rfl (by decide +kernel) ⟨Nat.le_of_ble_eq_true rfl, Nat.le_of_ble_eq_true rfl⟩) hK hN hM hP hD hS hA [0, 1] rfl rfl rfl rfl rfl rfl hl.1 rfl (Nat.le_of_ble_eq_true rfl) dX6_canHeal_15 ⟨Nat.zero_le _, Nat.zero_le _⟩ (fun H locs hP hD hS => ?_)
    refine fr_ifeq_b (tgt := 37) hx hb dX6_canHeal_18 (by decide) (fun c_2 => ?_) (fun c_2 => ?_)
    · refine lv_iconst (v := nI 0) hx hb dX6_canHeal_37 (by decide) ?_
      exact fr_zret hx hb hr hlk hP hS (by first | rfl | (simp only [mCH, c_1, c_2, ↓reduceIte, Bool.false_eq_true, bI_true, bI_false, Bool.true_and, Bool.and_true, Bool.and_false, Bool.false_and, Bool.not_true, Bool.not_false, Bool.or_true, Bool.true_or, Bool.or_false, Bool.false_or] <;> rfl) | (simp [mCH, c_1, c_2, bI]; done)) rfl rfl dX6_canHeal_38
    · refine lv_aload_n hx hb dX6_canHeal_21 rfl (lv_at hl 0 rfl) ?_
      refine lv_iload_n hx hb dX6_canHeal_22 rfl (lv_at hl 1 rfl) ?_
      refine lv_iload_n hx hb dX6_canHeal_23 rfl (lv_at hl 2 rfl) ?_
      refine fr_S0 (As := [.int (nI (b)), .int (nI (w))]) (rest := [.ref (md 0)]) ⟨hx, hb, hml, hown, hts⟩ (kX6_copyAt l D T Z b w) (va_cwS 2 hts gX6_canHeal_X6_copyAt rfl rfl rfl (by decide +kernel) ⟨Nat.le_of_ble_eq_true rfl, Nat.le_of_ble_eq_true rfl⟩) hK hN hM hP hD hS hA rfl hl.1 rfl (Nat.le_of_ble_eq_true rfl) dX6_canHeal_24 ⟨Nat.zero_le _, Nat.zero_le _⟩ (fun H locs hP hD hS => ?_)
      refine fr_Vi (As := [.int (nI (cpt b w))]) (rest := []) (fs' := [[((md 0), .inr (6, [.ref (md 1), .int (nI (n)), .ref (md 2), .int (nI (len)), .int (nI (p)), .int (nI (le)), .ref (md 3), .ref (md 4)]))], [((md 1), .inl (T 0, 1872, .inl (σ)))]]) (ci := 6) (q0 := (RX6, TX6, 8)) (i0 := 0) ⟨hx, hb, hml, hown, hts⟩ (kX6_isPoisoned l D T Z md n len p le σ (cpt b w) (by omega)) (cwV 1 hts gX6_canHeal_X6_isPoisoned rfl rfl rfl (by decide +kernel) ⟨Nat.le_of_ble_eq_true rfl, Nat.le_of_ble_eq_true rfl⟩) hK hN hM hP hD hS hA [0, 1] rfl rfl rfl rfl rfl rfl hl.1 rfl (Nat.le_of_ble_eq_true rfl) dX6_canHeal_27 ⟨Nat.zero_le _, Nat.zero_le _⟩ (fun H locs hP hD hS => ?_)
      refine fr_ifne_b (tgt := 37) hx hb dX6_canHeal_30 (by decide) (fun c_3 => ?_) (fun c_3 => ?_)
      · refine lv_iconst (v := nI 0) hx hb dX6_canHeal_37 (by decide) ?_
        exact fr_zret hx hb hr hlk hP hS (by first | rfl | (simp only [mCH, c_1, c_2, c_3, ↓reduceIte, Bool.false_eq_true, bI_true, bI_false, Bool.true_and, Bool.and_true, Bool.and_false, Bool.false_and, Bool.not_true, Bool.not_false, Bool.or_true, Bool.true_or, Bool.or_false, Bool.false_or] <;> rfl) | (simp [mCH, c_1, c_2, c_3, bI]; done)) rfl rfl dX6_canHeal_38
      · refine lv_iconst (v := nI 1) hx hb dX6_canHeal_33 (by decide) ?_
        refine lv_goto (tgt := 38) hx hb dX6_canHeal_34 (by decide) ?_
        exact fr_zret hx hb hr hlk hP hS (by first | rfl | (simp only [mCH, c_1, c_2, c_3, ↓reduceIte, Bool.false_eq_true, bI_true, bI_false, Bool.true_and, Bool.and_true, Bool.and_false, Bool.false_and, Bool.not_true, Bool.not_false, Bool.or_true, Bool.true_or, Bool.or_false, Bool.false_or] <;> rfl) | (simp [mCH, c_1, c_2, c_3, bI]; done)) rfl rfl dX6_canHeal_38

set_option maxHeartbeats 8000000 in
set_option maxRecDepth 100000 in
theorem kX6_fetches (l : Launch) (D : va_G) (T : Nat → ClassId) (Z : ZZ) (md : Nat → Nat) (n : Nat) (len : Nat) (p : Nat) (le : Nat) (σ : MS) (b : Nat) (w : Nat) (hb9 : b ≤ 1560) (hw : w < 32) : CtI l D T Z yX6_fetches wsX6_fetches ({ frames := 2, cells := 0, slots := 0, locals := 44 }) [[((md 0), .inr (6, [.ref (md 1), .int (nI (n)), .ref (md 2), .int (nI (len)), .int (nI (p)), .int (nI (le)), .ref (md 3), .ref (md 4)]))], [((md 1), .inl (T 0, 1872, .inl (σ)))]] [.ref (md 0), .int (nI (b)), .int (nI (w))] (bI (mCH σ b w)) [[((md 0), .inr (6, [.ref (md 1), .int (nI (n)), .ref (md 2), .int (nI (len)), .int (nI (p)), .int (nI (le)), .ref (md 3), .ref (md 4)]))], [((md 1), .inl (T 0, 1872, .inl (mFe σ b w)))]] := by
  have hwd : wdt b w = b + 3 * w := rfl
  have hcp : cpt b w = b + 96 + 3 * w := rfl
  refine CtI.of (cc := cX6_fetches) (maxL := 4) (ret := (some .int)) (plainFor_of_name (by decide)) rfl rfl ?_
  intro pP eE s mM bW mE cC A hE hK hN hM hP hD hA
  obtain ⟨hx, hb, hr, hts, hown, hml, hlk⟩ := hE
  have hown : s.vm.findClass RX6 = some mM.cls := hown
  have hS : va_S A s.heap s.heap [] := va_S.rf
  have hl := lv_entry ([.ref (md 0), .int (nI (b)), .int (nI (w))]) (n := 4) (Nat.le_of_ble_eq_true rfl)
  rw [lg_entry_eq]
  generalize (lg_sl ([.ref (md 0), .int (nI (b)), .int (nI (w))]) ++ List.replicate (4 - (lg_sl ([.ref (md 0), .int (nI (b)), .int (nI (w))])).length) Slot.unset).toArray = ls at hl ⊢
  have hl : lv_has ls 4 [(0, .ref (md 0)), (1, .int (nI (b))), (2, .int (nI (w)))] := hl
  have w_7 := hts (.fieldLink RX6 7 "PoisonedMemoryModel" "s" "[I") (by decide +kernel)
  have hinX6 : ∀ w ∈ wsX60, w ∈ wsX6_fetches := by decide +kernel
  refine lv_aload_n hx hb dX6_fetches_0 rfl (lv_at hl 0 rfl) ?_
  refine lv_iload_n hx hb dX6_fetches_1 rfl (lv_at hl 1 rfl) ?_
  refine lv_iload_n hx hb dX6_fetches_2 rfl (lv_at hl 2 rfl) ?_
  refine fr_Vi (As := [.int (nI (b)), .int (nI (w))]) (rest := []) (fs' := [[((md 0), .inr (6, [.ref (md 1), .int (nI (n)), .ref (md 2), .int (nI (len)), .int (nI (p)), .int (nI (le)), .ref (md 3), .ref (md 4)]))], [((md 1), .inl (T 0, 1872, .inl (σ)))]]) (ci := 6) (q0 := (RX6, TX6, 8)) (i0 := 0) ⟨hx, hb, hml, hown, hts⟩ (kX6_canHeal l D T Z md n len p le σ b w (by omega) (by omega)) (cwV 2 hts gX6_fetches_X6_canHeal rfl rfl rfl (by decide +kernel) ⟨Nat.le_of_ble_eq_true rfl, Nat.le_of_ble_eq_true rfl⟩) hK hN hM hP hD hS hA [0, 1] rfl rfl rfl rfl rfl rfl hl.1 rfl (Nat.le_of_ble_eq_true rfl) dX6_fetches_3 ⟨Nat.zero_le _, Nat.zero_le _⟩ (fun H locs hP hD hS => ?_)
  refine lv_istore_n (lv' := [(3, .int (bI (mCH σ b w))), (0, .ref (md 0)), (1, .int (nI (b))), (2, .int (nI (w)))]) hx hb dX6_fetches_6 rfl hl (by decide) rfl (fun ls hl => ?_)
  refine lv_iload_n hx hb dX6_fetches_7 rfl (lv_at hl 0 rfl) ?_
  refine fr_ifeq_b (tgt := 47) hx hb dX6_fetches_8 (by decide) (fun c_1 => ?_) (fun c_1 => ?_)
  · refine lv_iload_n hx hb dX6_fetches_47 rfl (lv_at hl 0 rfl) ?_
    refine fr_ifeq_b (tgt := 55) hx hb dX6_fetches_48 (by decide) (fun _ => ?_) (fun z => absurd (c_1.symm.trans z) (by decide))
    refine lv_iconst (v := nI 0) hx hb dX6_fetches_55 (by decide) ?_
    exact fr_iret hx hb hr hlk hP hS (by first | rfl | (simp only [mFe, c_1, ↓reduceIte, Bool.false_eq_true, bI_true, bI_false, Bool.true_and, Bool.and_true, Bool.and_false, Bool.false_and, Bool.not_true, Bool.not_false, Bool.or_true, Bool.true_or, Bool.or_false, Bool.false_or] <;> rfl) | (simp [mFe, c_1, bI]; done)) (by first | rfl | (simp only [mFe, c_1, ↓reduceIte, Bool.false_eq_true, bI_true, bI_false, Bool.true_and, Bool.and_true, Bool.and_false, Bool.false_and, Bool.not_true, Bool.not_false, Bool.or_true, Bool.true_or, Bool.or_false, Bool.false_or] <;> rfl) | (simp [mFe, c_1, bI]; done)) dX6_fetches_56
  · refine lv_aload_n hx hb dX6_fetches_11 rfl (lv_at hl 1 rfl) ?_
    refine lv_iload_n hx hb dX6_fetches_12 rfl (lv_at hl 2 rfl) ?_
    refine lv_iload_n hx hb dX6_fetches_13 rfl (lv_at hl 3 rfl) ?_
    refine fr_S0 (As := [.int (nI (b)), .int (nI (w))]) (rest := [.ref (md 0)]) ⟨hx, hb, hml, hown, hts⟩ (kX6_wordAt l D T Z b w) (va_cwS 2 hts gX6_fetches_X6_wordAt rfl rfl rfl (by decide +kernel) ⟨Nat.le_of_ble_eq_true rfl, Nat.le_of_ble_eq_true rfl⟩) hK hN hM hP hD hS hA rfl hl.1 rfl (Nat.le_of_ble_eq_true rfl) dX6_fetches_14 ⟨Nat.zero_le _, Nat.zero_le _⟩ (fun H locs hP hD hS => ?_)
    refine lv_aload_n hx hb dX6_fetches_17 rfl (lv_at hl 1 rfl) ?_
    refine va_get (D := D) (ci := 6) (v := .ref (md 1)) (C := RX6) (T := TX6) (N := 8) hx hb hts hinX6 hown hK (hP.at 0 rfl) 0 rfl rfl 0 (by decide) w_7 (fun _ h9 => h9) rfl dX6_fetches_18 ?_
    refine lv_iload_n hx hb dX6_fetches_21 rfl (lv_at hl 2 rfl) ?_
    refine lv_iload_n hx hb dX6_fetches_22 rfl (lv_at hl 3 rfl) ?_
    refine fr_S0 (As := [.int (nI (b)), .int (nI (w))]) (rest := [.ref (md 1), .int (nI (wdt b w)), .ref (md 0)]) ⟨hx, hb, hml, hown, hts⟩ (kX6_copyAt l D T Z b w) (va_cwS 2 hts gX6_fetches_X6_copyAt rfl rfl rfl (by decide +kernel) ⟨Nat.le_of_ble_eq_true rfl, Nat.le_of_ble_eq_true rfl⟩) hK hN hM hP hD hS hA rfl hl.1 rfl (Nat.le_of_ble_eq_true rfl) dX6_fetches_23 ⟨Nat.zero_le _, Nat.zero_le _⟩ (fun H locs hP hD hS => ?_)
    refine fr_iald hx hb hK hP 1 (cpt b w) rfl (by omega) (by omega) dX6_fetches_26 ?_
    refine lv_bipush (v := (-6)) hx hb dX6_fetches_27 (by decide) ?_
    refine lv_iconst (v := nI 0) hx hb dX6_fetches_29 (by decide) ?_
    refine fr_Vv (As := [.int (nI (wdt b w)), .int (σ (cpt b w)), .int ((-6)), .int (nI 0)]) (rest := []) (fs' := [[((md 0), .inr (6, [.ref (md 1), .int (nI (n)), .ref (md 2), .int (nI (len)), .int (nI (p)), .int (nI (le)), .ref (md 3), .ref (md 4)]))], [((md 1), .inl (T 0, 1872, .inl (lay σ (wdt b w) (σ (cpt b w)) (-6) (nI 0))))]]) (ci := 6) (q0 := (RX6, TX6, 8)) (i0 := 0) ⟨hx, hb, hml, hown, hts⟩ (kX6_lays l D T Z md n len p le σ (wdt b w) (σ (cpt b w)) (-6) (nI 0) (by omega)) (cwV 4 hts gX6_fetches_X6_lays rfl rfl rfl (by decide +kernel) ⟨Nat.le_of_ble_eq_true rfl, Nat.le_of_ble_eq_true rfl⟩) hK hN hM hP hD hS hA [0, 1] rfl rfl rfl rfl rfl rfl hl.1 rfl (Nat.le_of_ble_eq_true rfl) dX6_fetches_30 ⟨Nat.zero_le _, Nat.zero_le _⟩ (fun H locs hP hD hS => ?_)
    refine lv_aload_n hx hb dX6_fetches_33 rfl (lv_at hl 1 rfl) ?_
    refine va_get (D := D) (ci := 6) (v := .ref (md 1)) (C := RX6) (T := TX6) (N := 8) hx hb hts hinX6 hown hK (hP.at 0 rfl) 0 rfl rfl 0 (by decide) w_7 (fun _ h9 => h9) rfl dX6_fetches_34 ?_
    refine lv_iload_n hx hb dX6_fetches_37 rfl (lv_at hl 2 rfl) ?_
    refine lv_sipush (v := nI 311) hx hb dX6_fetches_38 (by decide) ?_
    refine fr_iadd (b) (311) hx hb dX6_fetches_41 ?_
    refine lv_dup2_11 hx hb dX6_fetches_42 rfl rfl ?_
    refine fr_iald hx hb hK hP 1 ((b + 311)) rfl (by omega) (by omega) dX6_fetches_43 ?_
    refine lv_iconst (v := nI 1) hx hb dX6_fetches_44 (by decide) ?_
    refine lv_iadd hx hb dX6_fetches_45 ?_
    refine fr_iast (fs' := [[((md 0), .inr (6, [.ref (md 1), .int (nI (n)), .ref (md 2), .int (nI (len)), .int (nI (p)), .int (nI (le)), .ref (md 3), .ref (md 4)]))], [((md 1), .inl (T 0, 1872, .inl (upd (lay σ (wdt b w) (σ (cpt b w)) (-6) (nI 0)) (b + 311) (((lay σ (wdt b w) (σ (cpt b w)) (-6) (nI 0)) (b + 311)) + (nI 1)))))]]) hx hb hK hP hD hS 1 ((b + 311)) rfl rfl (by omega) (by omega) dX6_fetches_46 (fun H locs hP hD hS => ?_)
    refine lv_iload_n hx hb dX6_fetches_47 rfl (lv_at hl 0 rfl) ?_
    refine fr_ifeq_b (tgt := 55) hx hb dX6_fetches_48 (by decide) (fun z => absurd (c_1.symm.trans z) (by decide)) (fun _ => ?_)
    refine lv_iconst (v := nI 1) hx hb dX6_fetches_51 (by decide) ?_
    refine lv_goto (tgt := 56) hx hb dX6_fetches_52 (by decide) ?_
    exact fr_iret hx hb hr hlk hP hS (by first | rfl | (simp only [mFe, c_1, ↓reduceIte, Bool.false_eq_true, bI_true, bI_false, Bool.true_and, Bool.and_true, Bool.and_false, Bool.false_and, Bool.not_true, Bool.not_false, Bool.or_true, Bool.true_or, Bool.or_false, Bool.false_or] <;> rfl) | (simp [mFe, c_1, bI]; done)) (by first | rfl | (simp only [mFe, c_1, ↓reduceIte, Bool.false_eq_true, bI_true, bI_false, Bool.true_and, Bool.and_true, Bool.and_false, Bool.false_and, Bool.not_true, Bool.not_false, Bool.or_true, Bool.true_or, Bool.or_false, Bool.false_or] <;> rfl) | (simp [mFe, c_1, bI]; done)) dX6_fetches_56

set_option maxHeartbeats 8000000 in
set_option maxRecDepth 100000 in
theorem kX6_written (l : Launch) (D : va_G) (T : Nat → ClassId) (Z : ZZ) (md : Nat → Nat) (n : Nat) (len : Nat) (p : Nat) (le : Nat) (σ : MS) (b : Nat) (w : Nat) (hb9 : b ≤ 1560) (hw : w < 32) : CtV l D T Z yX6_written wsX6_written ({ frames := 1, cells := 0, slots := 0, locals := 24 }) [[((md 0), .inr (6, [.ref (md 1), .int (nI (n)), .ref (md 2), .int (nI (len)), .int (nI (p)), .int (nI (le)), .ref (md 3), .ref (md 4)]))], [((md 1), .inl (T 0, 1872, .inl (σ)))]] [.ref (md 0), .int (nI (b)), .int (nI (w))] [[((md 0), .inr (6, [.ref (md 1), .int (nI (n)), .ref (md 2), .int (nI (len)), .int (nI (p)), .int (nI (le)), .ref (md 3), .ref (md 4)]))], [((md 1), .inl (T 0, 1872, .inl (mWr σ b w)))]] := by
  have hwd : wdt b w = b + 3 * w := rfl
  have hcp : cpt b w = b + 96 + 3 * w := rfl
  refine CtV.of (cc := cX6_written) (maxL := 4) (ret := none) (plainFor_of_name (by decide)) rfl rfl ?_
  intro pP eE s mM bW mE cC A hE hK hN hM hP hD hA
  obtain ⟨hx, hb, hr, hts, hown, hml, hlk⟩ := hE
  have hown : s.vm.findClass RX6 = some mM.cls := hown
  have hS : va_S A s.heap s.heap [] := va_S.rf
  have hl := lv_entry ([.ref (md 0), .int (nI (b)), .int (nI (w))]) (n := 4) (Nat.le_of_ble_eq_true rfl)
  rw [lg_entry_eq]
  generalize (lg_sl ([.ref (md 0), .int (nI (b)), .int (nI (w))]) ++ List.replicate (4 - (lg_sl ([.ref (md 0), .int (nI (b)), .int (nI (w))])).length) Slot.unset).toArray = ls at hl ⊢
  have hl : lv_has ls 4 [(0, .ref (md 0)), (1, .int (nI (b))), (2, .int (nI (w)))] := hl
  have w_7 := hts (.fieldLink RX6 7 "PoisonedMemoryModel" "s" "[I") (by decide +kernel)
  have hinX6 : ∀ w ∈ wsX60, w ∈ wsX6_written := by decide +kernel
  refine lv_iload_n hx hb dX6_written_0 rfl (lv_at hl 1 rfl) ?_
  refine lv_iload_n hx hb dX6_written_1 rfl (lv_at hl 2 rfl) ?_
  refine fr_S0 (As := [.int (nI (b)), .int (nI (w))]) (rest := []) ⟨hx, hb, hml, hown, hts⟩ (kX6_wordAt l D T Z b w) (va_cwS 2 hts gX6_written_X6_wordAt rfl rfl rfl (by decide +kernel) ⟨Nat.le_of_ble_eq_true rfl, Nat.le_of_ble_eq_true rfl⟩) hK hN hM hP hD hS hA rfl hl.1 rfl (Nat.le_of_ble_eq_true rfl) dX6_written_2 ⟨Nat.zero_le _, Nat.zero_le _⟩ (fun H locs hP hD hS => ?_)
  refine lv_istore_n (lv' := [(3, .int (nI (wdt b w))), (0, .ref (md 0)), (1, .int (nI (b))), (2, .int (nI (w)))]) hx hb dX6_written_5 rfl hl (by decide) rfl (fun ls hl => ?_)
  refine lv_aload_n hx hb dX6_written_6 rfl (lv_at hl 1 rfl) ?_
  refine lv_iload_n hx hb dX6_written_7 rfl (lv_at hl 2 rfl) ?_
  refine lv_iload_n hx hb dX6_written_8 rfl (lv_at hl 3 rfl) ?_
  refine fr_Vi (As := [.int (nI (b)), .int (nI (w))]) (rest := []) (fs' := [[((md 0), .inr (6, [.ref (md 1), .int (nI (n)), .ref (md 2), .int (nI (len)), .int (nI (p)), .int (nI (le)), .ref (md 3), .ref (md 4)]))], [((md 1), .inl (T 0, 1872, .inl (σ)))]]) (ci := 6) (q0 := (RX6, TX6, 8)) (i0 := 0) ⟨hx, hb, hml, hown, hts⟩ (kX6_isMirrored l D T Z md n len p le σ b w (by omega) (by omega)) (cwV 2 hts gX6_written_X6_isMirrored rfl rfl rfl (by decide +kernel) ⟨Nat.le_of_ble_eq_true rfl, Nat.le_of_ble_eq_true rfl⟩) hK hN hM hP hD hS hA [0, 1] rfl rfl rfl rfl rfl rfl hl.1 rfl (Nat.le_of_ble_eq_true rfl) dX6_written_9 ⟨Nat.zero_le _, Nat.zero_le _⟩ (fun H locs hP hD hS => ?_)
  refine fr_ifeq_b (tgt := 46) hx hb dX6_written_12 (by decide) (fun c_1 => ?_) (fun c_1 => ?_)
  · exact fr_vret hx hb hr hlk hP hS (by first | rfl | (simp only [mWr, c_1, ↓reduceIte, Bool.false_eq_true, bI_true, bI_false, Bool.true_and, Bool.and_true, Bool.and_false, Bool.false_and, Bool.not_true, Bool.not_false, Bool.or_true, Bool.true_or, Bool.or_false, Bool.false_or] <;> rfl) | (simp [mWr, c_1, bI]; done)) dX6_written_46
  · refine lv_aload_n hx hb dX6_written_15 rfl (lv_at hl 1 rfl) ?_
    refine lv_iload_n hx hb dX6_written_16 rfl (lv_at hl 2 rfl) ?_
    refine lv_iload_n hx hb dX6_written_17 rfl (lv_at hl 3 rfl) ?_
    refine fr_S0 (As := [.int (nI (b)), .int (nI (w))]) (rest := [.ref (md 0)]) ⟨hx, hb, hml, hown, hts⟩ (kX6_copyAt l D T Z b w) (va_cwS 2 hts gX6_written_X6_copyAt rfl rfl rfl (by decide +kernel) ⟨Nat.le_of_ble_eq_true rfl, Nat.le_of_ble_eq_true rfl⟩) hK hN hM hP hD hS hA rfl hl.1 rfl (Nat.le_of_ble_eq_true rfl) dX6_written_18 ⟨Nat.zero_le _, Nat.zero_le _⟩ (fun H locs hP hD hS => ?_)
    refine lv_aload_n hx hb dX6_written_21 rfl (lv_at hl 1 rfl) ?_
    refine va_get (D := D) (ci := 6) (v := .ref (md 1)) (C := RX6) (T := TX6) (N := 8) hx hb hts hinX6 hown hK (hP.at 0 rfl) 0 rfl rfl 0 (by decide) w_7 (fun _ h9 => h9) rfl dX6_written_22 ?_
    refine lv_iload_n hx hb dX6_written_25 rfl (lv_at hl 0 rfl) ?_
    refine fr_iald hx hb hK hP 1 (wdt b w) rfl (by omega) (by omega) dX6_written_26 ?_
    refine lv_aload_n hx hb dX6_written_27 rfl (lv_at hl 1 rfl) ?_
    refine va_get (D := D) (ci := 6) (v := .ref (md 1)) (C := RX6) (T := TX6) (N := 8) hx hb hts hinX6 hown hK (hP.at 0 rfl) 0 rfl rfl 0 (by decide) w_7 (fun _ h9 => h9) rfl dX6_written_28 ?_
    refine lv_iload_n hx hb dX6_written_31 rfl (lv_at hl 0 rfl) ?_
    refine lv_iconst (v := nI 1) hx hb dX6_written_32 (by decide) ?_
    refine fr_iadd (wdt b w) (1) hx hb dX6_written_33 ?_
    refine fr_iald hx hb hK hP 1 ((wdt b w + 1)) rfl (by omega) (by omega) dX6_written_34 ?_
    refine lv_aload_n hx hb dX6_written_35 rfl (lv_at hl 1 rfl) ?_
    refine va_get (D := D) (ci := 6) (v := .ref (md 1)) (C := RX6) (T := TX6) (N := 8) hx hb hts hinX6 hown hK (hP.at 0 rfl) 0 rfl rfl 0 (by decide) w_7 (fun _ h9 => h9) rfl dX6_written_36 ?_
    refine lv_iload_n hx hb dX6_written_39 rfl (lv_at hl 0 rfl) ?_
    refine lv_iconst (v := nI 2) hx hb dX6_written_40 (by decide) ?_
    refine fr_iadd (wdt b w) (2) hx hb dX6_written_41 ?_
    refine fr_iald hx hb hK hP 1 ((wdt b w + 2)) rfl (by omega) (by omega) dX6_written_42 ?_
    refine fr_Vv (As := [.int (nI (cpt b w)), .int (σ (wdt b w)), .int (σ (wdt b w + 1)), .int (σ (wdt b w + 2))]) (rest := []) (fs' := [[((md 0), .inr (6, [.ref (md 1), .int (nI (n)), .ref (md 2), .int (nI (len)), .int (nI (p)), .int (nI (le)), .ref (md 3), .ref (md 4)]))], [((md 1), .inl (T 0, 1872, .inl (lay σ (cpt b w) (σ (wdt b w)) (σ (wdt b w + 1)) (σ (wdt b w + 2)))))]]) (ci := 6) (q0 := (RX6, TX6, 8)) (i0 := 0) ⟨hx, hb, hml, hown, hts⟩ (kX6_lays l D T Z md n len p le σ (cpt b w) (σ (wdt b w)) (σ (wdt b w + 1)) (σ (wdt b w + 2)) (by omega)) (cwV 4 hts gX6_written_X6_lays rfl rfl rfl (by decide +kernel) ⟨Nat.le_of_ble_eq_true rfl, Nat.le_of_ble_eq_true rfl⟩) hK hN hM hP hD hS hA [0, 1] rfl rfl rfl rfl rfl rfl hl.1 rfl (Nat.le_of_ble_eq_true rfl) dX6_written_43 ⟨Nat.zero_le _, Nat.zero_le _⟩ (fun H locs hP hD hS => ?_)
    exact fr_vret hx hb hr hlk hP hS (by first | rfl | (simp only [mWr, c_1, ↓reduceIte, Bool.false_eq_true, bI_true, bI_false, Bool.true_and, Bool.and_true, Bool.and_false, Bool.false_and, Bool.not_true, Bool.not_false, Bool.or_true, Bool.true_or, Bool.or_false, Bool.false_or] <;> rfl) | (simp [mWr, c_1, bI]; done)) dX6_written_46
