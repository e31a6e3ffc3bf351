
set_option maxHeartbeats 8000000 in
set_option maxRecDepth 100000 in
theorem kX4_readItem_d (l : Launch) (D : va_G) (T : Nat → ClassId) (Z : ZZ) (td : Nat → Nat) (ch : Nat → Nat) (len : Nat) (kd : Nat) (q : Q4) (hch : ∀ k, ch k < 128) (hlen : len ≤ 90) (hq : q.1 ≤ 90) (hpc : q.2.2 ≤ 5) : CtI l D T Z yX4_readItem wsX4_readItem ({ frames := 2, cells := 0, slots := 0, locals := 42 }) (teF T td ch len kd q) [.ref (td 0), .int (nI 100)] (bI (dOk ch len q.1)) (teF T td ch len kd (rD ch len q)) := by
  have hc9 := hch q.1
  refine CtI.of (cc := cX4_readItem) (maxL := 2) (ret := (some .boolean)) (plainFor_of_name (by decide)) rfl rfl ?_
  intro pP eE s mM bW mE cC A hE hK hN hM hP hD hA
  obtain ⟨hx, hb, hr, hts, hown, hml, hlk⟩ := hE
  have hown : s.vm.findClass RX4 = some mM.cls := hown
  have hP : frP D [[((td 0), .inr (4, [.ref (td 1), .int (nI (len)), .int (nI (q.1)), .int (nI (kd)), .ref (td 2), .int (nI (q.2.2))]))], [((td 1), .inl (T 2, 90, .inl (nf ch)))], [((td 2), .inl (T 0, 5, .inl (nf q.2.1)))]] s.heap := hP
  have hD : va_D A ([[((td 0), .inr (4, [.ref (td 1), .int (nI (len)), .int (nI (q.1)), .int (nI (kd)), .ref (td 2), .int (nI (q.2.2))]))], [((td 1), .inl (T 2, 90, .inl (nf ch)))], [((td 2), .inl (T 0, 5, .inl (nf q.2.1)))]] : List va_W).flatten := hD
  have hS : va_S A s.heap s.heap [] := va_S.rf
  have hl := lv_entry ([.ref (td 0), .int (nI 100)]) (n := 2) (Nat.le_of_ble_eq_true rfl)
  rw [lg_entry_eq]
  generalize (lg_sl ([.ref (td 0), .int (nI 100)]) ++ List.replicate (2 - (lg_sl ([.ref (td 0), .int (nI 100)])).length) Slot.unset).toArray = ls at hl ⊢
  have hl : lv_has ls 2 [(0, .ref (td 0)), (1, .int (nI 100))] := hl
  refine lv_iload_n hx hb dX4_readItem_0 rfl (lv_at hl 1 rfl) ?_
  refine lv_lookup (off := 35) (tgt := 36) hx hb dX4_readItem_1 (by decide) (by decide) (by decide) ?_
  refine lv_aload_n hx hb dX4_readItem_36 rfl (lv_at hl 0 rfl) ?_
  refine fr_Vi (As := []) (rest := []) (fs' := [[((td 0), .inr (4, [.ref (td 1), .int (nI (len)), .int (nI ((rD ch len q).1)), .int (nI (kd)), .ref (td 2), .int (nI ((rD ch len q).2.2))]))], [((td 1), .inl (T 2, 90, .inl (nf ch)))], [((td 2), .inl (T 0, 5, .inl (nf (rD ch len q).2.1)))]]) (ci := 4) (q0 := (RX4, TX4, 6)) (i0 := 0) ⟨hx, hb, hml, hown, hts⟩ (kX4_readDigit l D T Z td ch len kd q hch hlen (by first | omega | (dsimp only; omega)) (by first | omega | (dsimp only; omega))) (cwV 0 hts gX4_readItem_X4_readDigit rfl rfl rfl (by decide +kernel) ⟨Nat.le_of_ble_eq_true rfl, Nat.le_of_ble_eq_true rfl⟩) hK hN hM hP hD hS hA [0, 1, 2] rfl rfl rfl rfl rfl rfl hl.1 rfl (Nat.le_of_ble_eq_true rfl) dX4_readItem_37 ⟨Nat.zero_le _, Nat.zero_le _⟩ (fun H locs hP hD hS => ?_)
  have b_1 := rD_le (q := q) (ch := ch) hlen (by first | omega | (dsimp only; omega))
  have b_2 := rD_pc (q := q) (ch := ch) (len := len) (by first | omega | (dsimp only; omega))
  exact fr_zret hx hb hr hlk hP hS rfl rfl bI_nar dX4_readItem_40

set_option maxHeartbeats 8000000 in
set_option maxRecDepth 100000 in
theorem kX4_readItem_w (l : Launch) (D : va_G) (T : Nat → ClassId) (Z : ZZ) (td : Nat → Nat) (ch : Nat → Nat) (len : Nat) (kd : Nat) (q : Q4) (hch : ∀ k, ch k < 128) (hlen : len ≤ 90) (hq : q.1 ≤ 90) (hpc : q.2.2 ≤ 5) : CtI l D T Z yX4_readItem wsX4_readItem ({ frames := 2, cells := 0, slots := 0, locals := 45 }) (teF T td ch len kd q) [.ref (td 0), .int (nI 119)] (bI (isd ch len q.1)) (teF T td ch len kd (rN ch len 31 q)) := by
  have hc9 := hch q.1
  refine CtI.of (cc := cX4_readItem) (maxL := 2) (ret := (some .boolean)) (plainFor_of_name (by decide)) rfl rfl ?_
  intro pP eE s mM bW mE cC A hE hK hN hM hP hD hA
  obtain ⟨hx, hb, hr, hts, hown, hml, hlk⟩ := hE
  have hown : s.vm.findClass RX4 = some mM.cls := hown
  have hP : frP D [[((td 0), .inr (4, [.ref (td 1), .int (nI (len)), .int (nI (q.1)), .int (nI (kd)), .ref (td 2), .int (nI (q.2.2))]))], [((td 1), .inl (T 2, 90, .inl (nf ch)))], [((td 2), .inl (T 0, 5, .inl (nf q.2.1)))]] s.heap := hP
  have hD : va_D A ([[((td 0), .inr (4, [.ref (td 1), .int (nI (len)), .int (nI (q.1)), .int (nI (kd)), .ref (td 2), .int (nI (q.2.2))]))], [((td 1), .inl (T 2, 90, .inl (nf ch)))], [((td 2), .inl (T 0, 5, .inl (nf q.2.1)))]] : List va_W).flatten := hD
  have hS : va_S A s.heap s.heap [] := va_S.rf
  have hl := lv_entry ([.ref (td 0), .int (nI 119)]) (n := 2) (Nat.le_of_ble_eq_true rfl)
  rw [lg_entry_eq]
  generalize (lg_sl ([.ref (td 0), .int (nI 119)]) ++ List.replicate (2 - (lg_sl ([.ref (td 0), .int (nI 119)])).length) Slot.unset).toArray = ls at hl ⊢
  have hl : lv_has ls 2 [(0, .ref (td 0)), (1, .int (nI 119))] := hl
  refine lv_iload_n hx hb dX4_readItem_0 rfl (lv_at hl 1 rfl) ?_
  refine lv_lookup (off := 40) (tgt := 41) hx hb dX4_readItem_1 (by decide) (by decide) (by decide) ?_
  refine lv_aload_n hx hb dX4_readItem_41 rfl (lv_at hl 0 rfl) ?_
  refine lv_bipush (v := nI 31) hx hb dX4_readItem_42 (by decide) ?_
  refine fr_Vi (As := [.int (nI 31)]) (rest := []) (fs' := [[((td 0), .inr (4, [.ref (td 1), .int (nI (len)), .int (nI ((rN ch len 31 q).1)), .int (nI (kd)), .ref (td 2), .int (nI ((rN ch len 31 q).2.2))]))], [((td 1), .inl (T 2, 90, .inl (nf ch)))], [((td 2), .inl (T 0, 5, .inl (nf (rN ch len 31 q).2.1)))]]) (ci := 4) (q0 := (RX4, TX4, 6)) (i0 := 0) ⟨hx, hb, hml, hown, hts⟩ (kX4_readNumber l D T Z td ch len kd q 31 hch hlen (by first | omega | (dsimp only; omega)) (by first | omega | (dsimp only; omega)) (by decide) (by decide)) (cwV 1 hts gX4_readItem_X4_readNumber rfl rfl rfl (by decide +kernel) ⟨Nat.le_of_ble_eq_true rfl, Nat.le_of_ble_eq_true rfl⟩) hK hN hM hP hD hS hA [0, 1, 2] rfl rfl rfl rfl rfl rfl hl.1 rfl (Nat.le_of_ble_eq_true rfl) dX4_readItem_44 ⟨Nat.zero_le _, Nat.zero_le _⟩ (fun H locs hP hD hS => ?_)
  have b_1 := rN_le (q := q) (g := 31) (ch := ch) hlen (by first | omega | (dsimp only; omega))
  have b_2 := rN_pc (q := q) (g := 31) (ch := ch) (len := len) (by first | omega | (dsimp only; omega))
  exact fr_zret hx hb hr hlk hP hS rfl rfl bI_nar dX4_readItem_47

set_option maxHeartbeats 8000000 in
set_option maxRecDepth 100000 in
theorem kX4_readItem_n (l : Launch) (D : va_G) (T : Nat → ClassId) (Z : ZZ) (td : Nat → Nat) (ch : Nat → Nat) (len : Nat) (kd : Nat) (q : Q4) (hch : ∀ k, ch k < 128) (hlen : len ≤ 90) (hq : q.1 ≤ 90) (hpc : q.2.2 ≤ 5) : CtI l D T Z yX4_readItem wsX4_readItem ({ frames := 2, cells := 0, slots := 0, locals := 45 }) (teF T td ch len kd q) [.ref (td 0), .int (nI 110)] (bI (isd ch len q.1)) (teF T td ch len kd (rN ch len 65535 q)) := by
  have hc9 := hch q.1
  refine CtI.of (cc := cX4_readItem) (maxL := 2) (ret := (some .boolean)) (plainFor_of_name (by decide)) rfl rfl ?_
  intro pP eE s mM bW mE cC A hE hK hN hM hP hD hA
  obtain ⟨hx, hb, hr, hts, hown, hml, hlk⟩ := hE
  have hown : s.vm.findClass RX4 = some mM.cls := hown
  have hP : frP D [[((td 0), .inr (4, [.ref (td 1), .int (nI (len)), .int (nI (q.1)), .int (nI (kd)), .ref (td 2), .int (nI (q.2.2))]))], [((td 1), .inl (T 2, 90, .inl (nf ch)))], [((td 2), .inl (T 0, 5, .inl (nf q.2.1)))]] s.heap := hP
  have hD : va_D A ([[((td 0), .inr (4, [.ref (td 1), .int (nI (len)), .int (nI (q.1)), .int (nI (kd)), .ref (td 2), .int (nI (q.2.2))]))], [((td 1), .inl (T 2, 90, .inl (nf ch)))], [((td 2), .inl (T 0, 5, .inl (nf q.2.1)))]] : List va_W).flatten := hD
  have hS : va_S A s.heap s.heap [] := va_S.rf
  have hl := lv_entry ([.ref (td 0), .int (nI 110)]) (n := 2) (Nat.le_of_ble_eq_true rfl)
  rw [lg_entry_eq]
  generalize (lg_sl ([.ref (td 0), .int (nI 110)]) ++ List.replicate (2 - (lg_sl ([.ref (td 0), .int (nI 110)])).length) Slot.unset).toArray = ls at hl ⊢
  have hl : lv_has ls 2 [(0, .ref (td 0)), (1, .int (nI 110))] := hl
  have w_83 := hts (.constant RX4 83 (65535)) (by decide +kernel)
  refine lv_iload_n hx hb dX4_readItem_0 rfl (lv_at hl 1 rfl) ?_
  refine lv_lookup (off := 47) (tgt := 48) hx hb dX4_readItem_1 (by decide) (by decide) (by decide) ?_
  refine lv_aload_n hx hb dX4_readItem_48 rfl (lv_at hl 0 rfl) ?_
  refine lv_ldc hx hb hown w_83 dX4_readItem_49 ?_
  refine fr_val (show (65535 : Int32) = nI 65535 from rfl) ?_
  refine fr_Vi (As := [.int (nI 65535)]) (rest := []) (fs' := [[((td 0), .inr (4, [.ref (td 1), .int (nI (len)), .int (nI ((rN ch len 65535 q).1)), .int (nI (kd)), .ref (td 2), .int (nI ((rN ch len 65535 q).2.2))]))], [((td 1), .inl (T 2, 90, .inl (nf ch)))], [((td 2), .inl (T 0, 5, .inl (nf (rN ch len 65535 q).2.1)))]]) (ci := 4) (q0 := (RX4, TX4, 6)) (i0 := 0) ⟨hx, hb, hml, hown, hts⟩ (kX4_readNumber l D T Z td ch len kd q 65535 hch hlen (by first | omega | (dsimp only; omega)) (by first | omega | (dsimp only; omega)) (by decide) (by decide)) (cwV 1 hts gX4_readItem_X4_readNumber rfl rfl rfl (by decide +kernel) ⟨Nat.le_of_ble_eq_true rfl, Nat.le_of_ble_eq_true rfl⟩) hK hN hM hP hD hS hA [0, 1, 2] rfl rfl rfl rfl rfl rfl hl.1 rfl (Nat.le_of_ble_eq_true rfl) dX4_readItem_51 ⟨Nat.zero_le _, Nat.zero_le _⟩ (fun H locs hP hD hS => ?_)
  have b_1 := rN_le (q := q) (g := 65535) (ch := ch) hlen (by first | omega | (dsimp only; omega))
  have b_2 := rN_pc (q := q) (g := 65535) (ch := ch) (len := len) (by first | omega | (dsimp only; omega))
  exact fr_zret hx hb hr hlk hP hS rfl rfl bI_nar dX4_readItem_54

set_option maxHeartbeats 8000000 in
set_option maxRecDepth 100000 in
theorem kX4_readItem_c (l : Launch) (D : va_G) (T : Nat → ClassId) (Z : ZZ) (td : Nat → Nat) (ch : Nat → Nat) (len : Nat) (kd : Nat) (q : Q4) (hch : ∀ k, ch k < 128) (hlen : len ≤ 90) (hq : q.1 ≤ 90) (hpc : q.2.2 ≤ 5) : CtI l D T Z yX4_readItem wsX4_readItem ({ frames := 1, cells := 0, slots := 0, locals := 21 }) (teF T td ch len kd q) [.ref (td 0), .int (nI 44)] (bI (sOk ch len 44 q.1)) (teF T td ch len kd (rS ch len 44 q)) := by
  have hc9 := hch q.1
  refine CtI.of (cc := cX4_readItem) (maxL := 2) (ret := (some .boolean)) (plainFor_of_name (by decide)) rfl rfl ?_
  intro pP eE s mM bW mE cC A hE hK hN hM hP hD hA
  obtain ⟨hx, hb, hr, hts, hown, hml, hlk⟩ := hE
  have hown : s.vm.findClass RX4 = some mM.cls := hown
  have hP : frP D [[((td 0), .inr (4, [.ref (td 1), .int (nI (len)), .int (nI (q.1)), .int (nI (kd)), .ref (td 2), .int (nI (q.2.2))]))], [((td 1), .inl (T 2, 90, .inl (nf ch)))], [((td 2), .inl (T 0, 5, .inl (nf q.2.1)))]] s.heap := hP
  have hD : va_D A ([[((td 0), .inr (4, [.ref (td 1), .int (nI (len)), .int (nI (q.1)), .int (nI (kd)), .ref (td 2), .int (nI (q.2.2))]))], [((td 1), .inl (T 2, 90, .inl (nf ch)))], [((td 2), .inl (T 0, 5, .inl (nf q.2.1)))]] : List va_W).flatten := hD
  have hS : va_S A s.heap s.heap [] := va_S.rf
  have hl := lv_entry ([.ref (td 0), .int (nI 44)]) (n := 2) (Nat.le_of_ble_eq_true rfl)
  rw [lg_entry_eq]
  generalize (lg_sl ([.ref (td 0), .int (nI 44)]) ++ List.replicate (2 - (lg_sl ([.ref (td 0), .int (nI 44)])).length) Slot.unset).toArray = ls at hl ⊢
  have hl : lv_has ls 2 [(0, .ref (td 0)), (1, .int (nI 44))] := hl
  refine lv_iload_n hx hb dX4_readItem_0 rfl (lv_at hl 1 rfl) ?_
  refine lv_lookup (off := 54) (tgt := 55) hx hb dX4_readItem_1 (by decide) (by decide) (by decide) ?_
  refine lv_aload_n hx hb dX4_readItem_55 rfl (lv_at hl 0 rfl) ?_
  refine lv_iload_n hx hb dX4_readItem_56 rfl (lv_at hl 1 rfl) ?_
  refine fr_Vi (As := [.int (nI 44)]) (rest := []) (fs' := [[((td 0), .inr (4, [.ref (td 1), .int (nI (len)), .int (nI ((rS ch len 44 q).1)), .int (nI (kd)), .ref (td 2), .int (nI ((rS ch len 44 q).2.2))]))], [((td 1), .inl (T 2, 90, .inl (nf ch)))], [((td 2), .inl (T 0, 5, .inl (nf (rS ch len 44 q).2.1)))]]) (ci := 4) (q0 := (RX4, TX4, 6)) (i0 := 0) ⟨hx, hb, hml, hown, hts⟩ (kX4_readSign l D T Z td ch len kd q 44 hch hlen (by first | omega | (dsimp only; omega)) (by decide)) (cwV 1 hts gX4_readItem_X4_readSign rfl rfl rfl (by decide +kernel) ⟨Nat.le_of_ble_eq_true rfl, Nat.le_of_ble_eq_true rfl⟩) hK hN hM hP hD hS hA [0, 1, 2] rfl rfl rfl rfl rfl rfl hl.1 rfl (Nat.le_of_ble_eq_true rfl) dX4_readItem_57 ⟨Nat.zero_le _, Nat.zero_le _⟩ (fun H locs hP hD hS => ?_)
  have b_1 := rS_le (q := q) (c := 44) (ch := ch) hlen (by first | omega | (dsimp only; omega))
  have b_2 := rS_pc (q := q) (c := 44) (ch := ch) (len := len) (by first | omega | (dsimp only; omega))
  exact fr_zret hx hb hr hlk hP hS rfl rfl bI_nar dX4_readItem_60

set_option maxHeartbeats 8000000 in
set_option maxRecDepth 100000 in
theorem kX4_readItem_e (l : Launch) (D : va_G) (T : Nat → ClassId) (Z : ZZ) (td : Nat → Nat) (ch : Nat → Nat) (len : Nat) (kd : Nat) (q : Q4) (hch : ∀ k, ch k < 128) (hlen : len ≤ 90) (hq : q.1 ≤ 90) (hpc : q.2.2 ≤ 5) : CtI l D T Z yX4_readItem wsX4_readItem ({ frames := 1, cells := 0, slots := 0, locals := 21 }) (teF T td ch len kd q) [.ref (td 0), .int (nI 61)] (bI (sOk ch len 61 q.1)) (teF T td ch len kd (rS ch len 61 q)) := by
  have hc9 := hch q.1
  refine CtI.of (cc := cX4_readItem) (maxL := 2) (ret := (some .boolean)) (plainFor_of_name (by decide)) rfl rfl ?_
  intro pP eE s mM bW mE cC A hE hK hN hM hP hD hA
  obtain ⟨hx, hb, hr, hts, hown, hml, hlk⟩ := hE
  have hown : s.vm.findClass RX4 = some mM.cls := hown
  have hP : frP D [[((td 0), .inr (4, [.ref (td 1), .int (nI (len)), .int (nI (q.1)), .int (nI (kd)), .ref (td 2), .int (nI (q.2.2))]))], [((td 1), .inl (T 2, 90, .inl (nf ch)))], [((td 2), .inl (T 0, 5, .inl (nf q.2.1)))]] s.heap := hP
  have hD : va_D A ([[((td 0), .inr (4, [.ref (td 1), .int (nI (len)), .int (nI (q.1)), .int (nI (kd)), .ref (td 2), .int (nI (q.2.2))]))], [((td 1), .inl (T 2, 90, .inl (nf ch)))], [((td 2), .inl (T 0, 5, .inl (nf q.2.1)))]] : List va_W).flatten := hD
  have hS : va_S A s.heap s.heap [] := va_S.rf
  have hl := lv_entry ([.ref (td 0), .int (nI 61)]) (n := 2) (Nat.le_of_ble_eq_true rfl)
  rw [lg_entry_eq]
  generalize (lg_sl ([.ref (td 0), .int (nI 61)]) ++ List.replicate (2 - (lg_sl ([.ref (td 0), .int (nI 61)])).length) Slot.unset).toArray = ls at hl ⊢
  have hl : lv_has ls 2 [(0, .ref (td 0)), (1, .int (nI 61))] := hl
  refine lv_iload_n hx hb dX4_readItem_0 rfl (lv_at hl 1 rfl) ?_
  refine lv_lookup (off := 54) (tgt := 55) hx hb dX4_readItem_1 (by decide) (by decide) (by decide) ?_
  refine lv_aload_n hx hb dX4_readItem_55 rfl (lv_at hl 0 rfl) ?_
  refine lv_iload_n hx hb dX4_readItem_56 rfl (lv_at hl 1 rfl) ?_
  refine fr_Vi (As := [.int (nI 61)]) (rest := []) (fs' := [[((td 0), .inr (4, [.ref (td 1), .int (nI (len)), .int (nI ((rS ch len 61 q).1)), .int (nI (kd)), .ref (td 2), .int (nI ((rS ch len 61 q).2.2))]))], [((td 1), .inl (T 2, 90, .inl (nf ch)))], [((td 2), .inl (T 0, 5, .inl (nf (rS ch len 61 q).2.1)))]]) (ci := 4) (q0 := (RX4, TX4, 6)) (i0 := 0) ⟨hx, hb, hml, hown, hts⟩ (kX4_readSign l D T Z td ch len kd q 61 hch hlen (by first | omega | (dsimp only; omega)) (by decide)) (cwV 1 hts gX4_readItem_X4_readSign rfl rfl rfl (by decide +kernel) ⟨Nat.le_of_ble_eq_true rfl, Nat.le_of_ble_eq_true rfl⟩) hK hN hM hP hD hS hA [0, 1, 2] rfl rfl rfl rfl rfl rfl hl.1 rfl (Nat.le_of_ble_eq_true rfl) dX4_readItem_57 ⟨Nat.zero_le _, Nat.zero_le _⟩ (fun H locs hP hD hS => ?_)
  have b_1 := rS_le (q := q) (c := 61) (ch := ch) hlen (by first | omega | (dsimp only; omega))
  have b_2 := rS_pc (q := q) (c := 61) (ch := ch) (len := len) (by first | omega | (dsimp only; omega))
  exact fr_zret hx hb hr hlk hP hS rfl rfl bI_nar dX4_readItem_60
