
set_option maxHeartbeats 8000000 in
set_option maxRecDepth 100000 in
theorem kX5_clearText (l : Launch) (D : va_G) (T : Nat → ClassId) (Z : ZZ) (AD : Nat → Nat → Nat) (ch : Nat → Nat) (len : Nat) (kd : Nat) (q : Q4)  : CtI l D T Z yX5_clearText wsX5_clearText ({ frames := 1, cells := 0, slots := 0, locals := 21 }) [[(((AD 8) 0), .inr (5, [.ref ((AD 0) 0), .ref ((AD 1) 0), .ref ((AD 8) 1), .ref ((AD 9) 0), .ref ((AD 7) 0)]))], [(((AD 9) 0), .inr (4, [.ref ((AD 9) 1), .int (nI (len)), .int (nI (q.1)), .int (nI (kd)), .ref ((AD 9) 2), .int (nI (q.2.2))]))], [(((AD 9) 1), .inl (T 2, 90, .inl (nf ch)))], [(((AD 9) 2), .inl (T 0, 5, .inl (nf q.2.1)))]] [.ref ((AD 8) 0)] (nI (len)) [[(((AD 8) 0), .inr (5, [.ref ((AD 0) 0), .ref ((AD 1) 0), .ref ((AD 8) 1), .ref ((AD 9) 0), .ref ((AD 7) 0)]))], [(((AD 9) 0), .inr (4, [.ref ((AD 9) 1), .int (nI 0), .int (nI (q.1)), .int (nI (kd)), .ref ((AD 9) 2), .int (nI (q.2.2))]))], [(((AD 9) 1), .inl (T 2, 90, .inl (nf ch)))], [(((AD 9) 2), .inl (T 0, 5, .inl (nf q.2.1)))]] := by
  refine CtI.of (cc := cX5_clearText) (maxL := 1) (ret := (some .int)) (plainFor_of_name (by decide)) rfl rfl ?_
  intro pP eE s mM bW mE cC A hE hK hN hM hP hD hA
  obtain ⟨hx, hb, hr, hts, hown, hml, hlk⟩ := hE
  have hown : s.vm.findClass RX5 = some mM.cls := hown
  have hS : va_S A s.heap s.heap [] := va_S.rf
  have hl := lv_entry ([.ref ((AD 8) 0)]) (n := 1) (Nat.le_of_ble_eq_true rfl)
  rw [lg_entry_eq]
  generalize (lg_sl ([.ref ((AD 8) 0)]) ++ List.replicate (1 - (lg_sl ([.ref ((AD 8) 0)])).length) Slot.unset).toArray = ls at hl ⊢
  have hl : lv_has ls 1 [(0, .ref ((AD 8) 0))] := hl
  have w_29 := hts (.fieldLink RX5 29 "PoisonedMemory" "text" "LPoisonedMemory$Text;") (by decide +kernel)
  have hinX5 : ∀ w ∈ wsX50, w ∈ wsX5_clearText := by decide +kernel
  refine lv_aload_n hx hb dX5_clearText_0 rfl (lv_at hl 0 rfl) ?_
  refine va_get (D := D) (ci := 5) (v := .ref ((AD 9) 0)) (C := RX5) (T := TX5) (N := 5) hx hb hts hinX5 hown hK (hP.at 0 rfl) 0 rfl rfl 3 (by decide) w_29 (fun _ h9 => h9) rfl dX5_clearText_1 ?_
  refine fr_Vi (As := []) (rest := []) (fs' := [[(((AD 8) 0), .inr (5, [.ref ((AD 0) 0), .ref ((AD 1) 0), .ref ((AD 8) 1), .ref ((AD 9) 0), .ref ((AD 7) 0)]))], [(((AD 9) 0), .inr (4, [.ref ((AD 9) 1), .int (nI 0), .int (nI (q.1)), .int (nI (kd)), .ref ((AD 9) 2), .int (nI (q.2.2))]))], [(((AD 9) 1), .inl (T 2, 90, .inl (nf ch)))], [(((AD 9) 2), .inl (T 0, 5, .inl (nf q.2.1)))]]) (ci := 4) (q0 := (RX4, TX4, 6)) (i0 := 1) ⟨hx, hb, hml, hown, hts⟩ (kX4_empty l D T Z (AD 9) ch len kd q) (cwV 0 hts gX5_clearText_X4_empty rfl rfl rfl (by decide +kernel) ⟨Nat.le_of_ble_eq_true rfl, Nat.le_of_ble_eq_true rfl⟩) hK hN hM hP hD hS hA [1, 2, 3] rfl rfl rfl rfl rfl rfl hl.1 rfl (Nat.le_of_ble_eq_true rfl) dX5_clearText_4 ⟨Nat.zero_le _, Nat.zero_le _⟩ (fun H locs hP hD hS => ?_)
  exact fr_iret hx hb hr hlk hP hS rfl rfl dX5_clearText_7

set_option maxHeartbeats 8000000 in
set_option maxRecDepth 100000 in
theorem kX5_fault (l : Launch) (D : va_G) (T : Nat → ClassId) (Z : ZZ) (AD : Nat → Nat → Nat) (ch : Nat → Nat) (len : Nat) (kd : Nat) (q : Q4) (hch : ∀ k, ch k < 128) (hlen : len ≤ 90) (hq : q.1 ≤ 90) (hpc : q.2.2 ≤ 5) : CtI l D T Z yX5_fault wsX5_fault ({ frames := 6, cells := 0, slots := 0, locals := 128 }) [[(((AD 8) 0), .inr (5, [.ref ((AD 0) 0), .ref ((AD 1) 0), .ref ((AD 8) 1), .ref ((AD 9) 0), .ref ((AD 7) 0)]))], [(((AD 9) 0), .inr (4, [.ref ((AD 9) 1), .int (nI (len)), .int (nI (q.1)), .int (nI (kd)), .ref ((AD 9) 2), .int (nI (q.2.2))]))], [(((AD 9) 1), .inl (T 2, 90, .inl (nf ch)))], [(((AD 9) 2), .inl (T 0, 5, .inl (nf q.2.1)))]] [.ref ((AD 8) 0)] ((fF ch len 90 kd (0, q.2)).1) [[(((AD 8) 0), .inr (5, [.ref ((AD 0) 0), .ref ((AD 1) 0), .ref ((AD 8) 1), .ref ((AD 9) 0), .ref ((AD 7) 0)]))], [(((AD 9) 0), .inr (4, [.ref ((AD 9) 1), .int (nI (len)), .int (nI (((fF ch len 90 kd (0, q.2)).2.2).1)), .int (nI ((fF ch len 90 kd (0, q.2)).2.1)), .ref ((AD 9) 2), .int (nI (((fF ch len 90 kd (0, q.2)).2.2).2.2))]))], [(((AD 9) 1), .inl (T 2, 90, .inl (nf ch)))], [(((AD 9) 2), .inl (T 0, 5, .inl (nf ((fF ch len 90 kd (0, q.2)).2.2).2.1)))]] := by
  refine CtI.of (cc := cX5_fault) (maxL := 1) (ret := (some .int)) (plainFor_of_name (by decide)) rfl rfl ?_
  intro pP eE s mM bW mE cC A hE hK hN hM hP hD hA
  obtain ⟨hx, hb, hr, hts, hown, hml, hlk⟩ := hE
  have hown : s.vm.findClass RX5 = some mM.cls := hown
  have hS : va_S A s.heap s.heap [] := va_S.rf
  have hl := lv_entry ([.ref ((AD 8) 0)]) (n := 1) (Nat.le_of_ble_eq_true rfl)
  rw [lg_entry_eq]
  generalize (lg_sl ([.ref ((AD 8) 0)]) ++ List.replicate (1 - (lg_sl ([.ref ((AD 8) 0)])).length) Slot.unset).toArray = ls at hl ⊢
  have hl : lv_has ls 1 [(0, .ref ((AD 8) 0))] := hl
  have w_29 := hts (.fieldLink RX5 29 "PoisonedMemory" "text" "LPoisonedMemory$Text;") (by decide +kernel)
  have hinX5 : ∀ w ∈ wsX50, w ∈ wsX5_fault := by decide +kernel
  refine lv_aload_n hx hb dX5_fault_0 rfl (lv_at hl 0 rfl) ?_
  refine va_get (D := D) (ci := 5) (v := .ref ((AD 9) 0)) (C := RX5) (T := TX5) (N := 5) hx hb hts hinX5 hown hK (hP.at 0 rfl) 0 rfl rfl 3 (by decide) w_29 (fun _ h9 => h9) rfl dX5_fault_1 ?_
  refine fr_Vi (As := []) (rest := []) (fs' := [[(((AD 8) 0), .inr (5, [.ref ((AD 0) 0), .ref ((AD 1) 0), .ref ((AD 8) 1), .ref ((AD 9) 0), .ref ((AD 7) 0)]))], [(((AD 9) 0), .inr (4, [.ref ((AD 9) 1), .int (nI (len)), .int (nI (((fF ch len 90 kd (0, q.2)).2.2).1)), .int (nI ((fF ch len 90 kd (0, q.2)).2.1)), .ref ((AD 9) 2), .int (nI (((fF ch len 90 kd (0, q.2)).2.2).2.2))]))], [(((AD 9) 1), .inl (T 2, 90, .inl (nf ch)))], [(((AD 9) 2), .inl (T 0, 5, .inl (nf ((fF ch len 90 kd (0, q.2)).2.2).2.1)))]]) (ci := 4) (q0 := (RX4, TX4, 6)) (i0 := 1) ⟨hx, hb, hml, hown, hts⟩ (kX4_findFault l D T Z (AD 9) ch len kd q hch hlen (by first | omega | (dsimp only; omega)) (by first | omega | (dsimp only; omega))) (cwV 0 hts gX5_fault_X4_findFault rfl rfl rfl (by decide +kernel) ⟨Nat.le_of_ble_eq_true rfl, Nat.le_of_ble_eq_true rfl⟩) hK hN hM hP hD hS hA [1, 2, 3] rfl rfl rfl rfl rfl rfl hl.1 rfl (Nat.le_of_ble_eq_true rfl) dX5_fault_4 ⟨Nat.zero_le _, Nat.zero_le _⟩ (fun H locs hP hD hS => ?_)
  have b_1 := fF_le (ch := ch) hlen 90 (kd) (0, q.2) (by dsimp only; omega)
  have b_2 := fF_pc (ch := ch) (len := len) 90 (kd) (0, q.2) (by first | assumption | omega | (dsimp only; omega))
  exact fr_iret hx hb hr hlk hP hS rfl rfl dX5_fault_7

set_option maxHeartbeats 8000000 in
set_option maxRecDepth 100000 in
theorem kX5_perform (l : Launch) (D : va_G) (T : Nat → ClassId) (Z : ZZ) (AD : Nat → Nat → Nat) (ch : Nat → Nat) (len : Nat) (kd : Nat) (q : Q4) (sd : Nat → Nat) (ν : NS) (hi : WH (ν 15 0) 20) (hh : WH (ν 14 0) 8) (hk9 : kd < 128) : CtI l D T Z yX5_perform wsX5_perform ({ frames := 5, cells := 0, slots := 0, locals := 120 }) [[(((AD 8) 0), .inr (5, [.ref ((AD 0) 0), .ref ((AD 1) 0), .ref ((AD 8) 1), .ref ((AD 9) 0), .ref ((AD 7) 0)]))], stW T sd ν, [(((AD 9) 0), .inr (4, [.ref ((AD 9) 1), .int (nI (len)), .int (nI (q.1)), .int (nI (kd)), .ref ((AD 9) 2), .int (nI (q.2.2))]))], [(((AD 9) 1), .inl (T 2, 90, .inl (nf ch)))], [(((AD 9) 2), .inl (T 0, 5, .inl (nf q.2.1)))]] [.ref ((AD 8) 0), .ref (sd 0)] (pfR ν kd q.2.1) [[(((AD 8) 0), .inr (5, [.ref ((AD 0) 0), .ref ((AD 1) 0), .ref ((AD 8) 1), .ref ((AD 9) 0), .ref ((AD 7) 0)]))], stW T sd (pfS ν kd q.2.1), [(((AD 9) 0), .inr (4, [.ref ((AD 9) 1), .int (nI (len)), .int (nI (q.1)), .int (nI (kd)), .ref ((AD 9) 2), .int (nI (q.2.2))]))], [(((AD 9) 1), .inl (T 2, 90, .inl (nf ch)))], [(((AD 9) 2), .inl (T 0, 5, .inl (nf q.2.1)))]] := by
  refine CtI.of (cc := cX5_perform) (maxL := 3) (ret := (some .int)) (plainFor_of_name (by decide)) rfl (by first | rfl | (simp only [frAdr, List.map_cons, List.map_nil, stW_adr T sd _ ν] <;> rfl)) ?_
  intro pP eE s mM bW mE cC A hE hK hN hM hP hD hA
  obtain ⟨hx, hb, hr, hts, hown, hml, hlk⟩ := hE
  have hown : s.vm.findClass RX5 = some mM.cls := hown
  have hS : va_S A s.heap s.heap [] := va_S.rf
  have hl := lv_entry ([.ref ((AD 8) 0), .ref (sd 0)]) (n := 3) (Nat.le_of_ble_eq_true rfl)
  rw [lg_entry_eq]
  generalize (lg_sl ([.ref ((AD 8) 0), .ref (sd 0)]) ++ List.replicate (3 - (lg_sl ([.ref ((AD 8) 0), .ref (sd 0)])).length) Slot.unset).toArray = ls at hl ⊢
  have hl : lv_has ls 3 [(0, .ref ((AD 8) 0)), (1, .ref (sd 0))] := hl
  have w_29 := hts (.fieldLink RX5 29 "PoisonedMemory" "text" "LPoisonedMemory$Text;") (by decide +kernel)
  have hinX5 : ∀ w ∈ wsX50, w ∈ wsX5_perform := by decide +kernel
  have n_229 := va_Nw.use (A := ([.ref ((AD 8) 0), .ref (sd 0)] : List Value).toArray) rfl (hN.1 _ (List.mem_of_getElem? (i := 15) rfl))
  have hinX4 : ∀ w ∈ wsX40, w ∈ wsX5_perform := by decide +kernel
  have n_232 := va_Nw.use (A := ([.ref ((AD 8) 0), .ref (sd 0)] : List Value).toArray) rfl (hN.1 _ (List.mem_of_getElem? (i := 16) rfl))
  refine lv_aload_n hx hb dX5_perform_0 rfl (lv_at hl 0 rfl) ?_
  refine va_get (D := D) (ci := 5) (v := .ref ((AD 9) 0)) (C := RX5) (T := TX5) (N := 5) hx hb hts hinX5 hown hK (hP.at 0 rfl) 0 rfl rfl 3 (by decide) w_29 (fun _ h9 => h9) rfl dX5_perform_1 ?_
  refine va_getN (D := D) (ci := 4) (v := .ref ((AD 9) 2)) (C := RX4) (T := TX4) (N := 6) hx hb hts hinX4 hown hK (hP.at 2 rfl) 0 rfl rfl 4 (by decide) n_229 (fun _ h9 => h9) rfl dX5_perform_4 ?_
  refine lv_astore_n (lv' := [(2, .ref ((AD 9) 2)), (0, .ref ((AD 8) 0)), (1, .ref (sd 0))]) hx hb dX5_perform_7 rfl hl (by decide) rfl (fun ls hl => ?_)
  refine lv_aload_n hx hb dX5_perform_8 rfl (lv_at hl 1 rfl) ?_
  refine va_get (D := D) (ci := 5) (v := .ref ((AD 9) 0)) (C := RX5) (T := TX5) (N := 5) hx hb hts hinX5 hown hK (hP.at 0 rfl) 0 rfl rfl 3 (by decide) w_29 (fun _ h9 => h9) rfl dX5_perform_9 ?_
  refine va_getN (D := D) (ci := 4) (v := .int (nI (kd))) (C := RX4) (T := TX4) (N := 6) hx hb hts hinX4 hown hK (hP.at 2 rfl) 0 rfl rfl 3 (by decide) n_232 (fun _ h9 => h9) rfl dX5_perform_12 ?_
  rcases (show kd = 76 ∨ kd = 83 ∨ kd = 77 ∨ kd = 65 ∨ kd = 79 ∨ kd = 73 ∨ (kd ≠ 76 ∧ kd ≠ 83 ∧ kd ≠ 77 ∧ kd ≠ 65 ∧ kd ≠ 79 ∧ kd ≠ 73) by omega) with q_1 | q_1 | q_1 | q_1 | q_1 | q_1 | q_1
  · refine fr_val (show nI kd = nI 76 from by rw [q_1]) ?_
    refine lv_tableIn (off := 89) (tgt := 104) hx hb dX5_perform_15 (by decide) (by decide) rfl (by decide) ?_
    refine lv_aload_n hx hb dX5_perform_104 rfl (lv_at hl 2 rfl) ?_
    refine lv_aload_n hx hb dX5_perform_105 rfl (lv_at hl 0 rfl) ?_
    refine lv_iconst (v := nI 0) hx hb dX5_perform_106 (by decide) ?_
    refine fr_iald hx hb hK hP 4 (0) rfl (by decide) (by decide) dX5_perform_107 ?_
    refine fr_val (show (nf q.2.1) 0 = nI (q.2.1 0) from rfl) ?_
    refine lv_aload_n hx hb dX5_perform_108 rfl (lv_at hl 0 rfl) ?_
    refine lv_iconst (v := nI 1) hx hb dX5_perform_109 (by decide) ?_
    refine fr_iald hx hb hK hP 4 (1) rfl (by decide) (by decide) dX5_perform_110 ?_
    refine fr_val (show (nf q.2.1) 1 = nI (q.2.1 1) from rfl) ?_
    refine lv_aload_n hx hb dX5_perform_111 rfl (lv_at hl 0 rfl) ?_
    refine lv_iconst (v := nI 2) hx hb dX5_perform_112 (by decide) ?_
    refine fr_iald hx hb hK hP 4 (2) rfl (by decide) (by decide) dX5_perform_113 ?_
    refine fr_val (show (nf q.2.1) 2 = nI (q.2.1 2) from rfl) ?_
    refine fr_Vi (As := [.int (nI ((q.2.1 0))), .int (nI ((q.2.1 1))), .int (nI ((q.2.1 2)))]) (rest := []) (fs' := [[(((AD 8) 0), .inr (5, [.ref ((AD 0) 0), .ref ((AD 1) 0), .ref ((AD 8) 1), .ref ((AD 9) 0), .ref ((AD 7) 0)]))], stW T sd (s_ld ν (nI ((q.2.1 0))) (nI ((q.2.1 1))) (nI ((q.2.1 2)))), [(((AD 9) 0), .inr (4, [.ref ((AD 9) 1), .int (nI (len)), .int (nI (q.1)), .int (nI (kd)), .ref ((AD 9) 2), .int (nI (q.2.2))]))], [(((AD 9) 1), .inl (T 2, 90, .inl (nf ch)))], [(((AD 9) 2), .inl (T 0, 5, .inl (nf q.2.1)))]]) (ci := 3) (q0 := (RX3, TX3, 10)) (i0 := 1) ⟨hx, hb, hml, hown, hts⟩ (kX3_loadWord_o l D T Z sd ν (nI ((q.2.1 0))) (nI ((q.2.1 1))) (nI ((q.2.1 2)))) (cwV 3 hts gX5_perform_X3_loadWord rfl rfl rfl (by decide +kernel) ⟨Nat.le_of_ble_eq_true rfl, Nat.le_of_ble_eq_true rfl⟩) hK hN hM hP hD hS hA [1] rfl rfl rfl rfl rfl rfl hl.1 rfl (Nat.le_of_ble_eq_true rfl) dX5_perform_114 ⟨Nat.zero_le _, Nat.zero_le _⟩ (fun H locs hP hD hS => ?_)
    exact fr_iret hx hb hr hlk hP hS (by rw [q_1] <;> rfl) (by rw [q_1] <;> rfl) dX5_perform_117
  · refine fr_val (show nI kd = nI 83 from by rw [q_1]) ?_
    refine lv_tableIn (off := 103) (tgt := 118) hx hb dX5_perform_15 (by decide) (by decide) rfl (by decide) ?_
    refine lv_aload_n hx hb dX5_perform_118 rfl (lv_at hl 2 rfl) ?_
    refine lv_aload_n hx hb dX5_perform_119 rfl (lv_at hl 0 rfl) ?_
    refine lv_iconst (v := nI 0) hx hb dX5_perform_120 (by decide) ?_
    refine fr_iald hx hb hK hP 4 (0) rfl (by decide) (by decide) dX5_perform_121 ?_
    refine fr_val (show (nf q.2.1) 0 = nI (q.2.1 0) from rfl) ?_
    refine lv_aload_n hx hb dX5_perform_122 rfl (lv_at hl 0 rfl) ?_
    refine lv_iconst (v := nI 1) hx hb dX5_perform_123 (by decide) ?_
    refine fr_iald hx hb hK hP 4 (1) rfl (by decide) (by decide) dX5_perform_124 ?_
    refine fr_val (show (nf q.2.1) 1 = nI (q.2.1 1) from rfl) ?_
    refine lv_aload_n hx hb dX5_perform_125 rfl (lv_at hl 0 rfl) ?_
    refine lv_iconst (v := nI 2) hx hb dX5_perform_126 (by decide) ?_
    refine fr_iald hx hb hK hP 4 (2) rfl (by decide) (by decide) dX5_perform_127 ?_
    refine fr_val (show (nf q.2.1) 2 = nI (q.2.1 2) from rfl) ?_
    refine fr_Vi (As := [.int (nI ((q.2.1 0))), .int (nI ((q.2.1 1))), .int (nI ((q.2.1 2)))]) (rest := []) (fs' := [[(((AD 8) 0), .inr (5, [.ref ((AD 0) 0), .ref ((AD 1) 0), .ref ((AD 8) 1), .ref ((AD 9) 0), .ref ((AD 7) 0)]))], stW T sd (s_sto ν (nI ((q.2.1 0))) (nI ((q.2.1 1))) (nI ((q.2.1 2)))), [(((AD 9) 0), .inr (4, [.ref ((AD 9) 1), .int (nI (len)), .int (nI (q.1)), .int (nI (kd)), .ref ((AD 9) 2), .int (nI (q.2.2))]))], [(((AD 9) 1), .inl (T 2, 90, .inl (nf ch)))], [(((AD 9) 2), .inl (T 0, 5, .inl (nf q.2.1)))]]) (ci := 3) (q0 := (RX3, TX3, 10)) (i0 := 1) ⟨hx, hb, hml, hown, hts⟩ (kX3_storeWord_o l D T Z sd ν (nI ((q.2.1 0))) (nI ((q.2.1 1))) (nI ((q.2.1 2)))) (cwV 3 hts gX5_perform_X3_storeWord rfl rfl rfl (by decide +kernel) ⟨Nat.le_of_ble_eq_true rfl, Nat.le_of_ble_eq_true rfl⟩) hK hN hM hP hD hS hA [1] rfl rfl rfl rfl rfl rfl hl.1 rfl (Nat.le_of_ble_eq_true rfl) dX5_perform_128 ⟨Nat.zero_le _, Nat.zero_le _⟩ (fun H locs hP hD hS => ?_)
    exact fr_iret hx hb hr hlk hP hS (by rw [q_1] <;> rfl) (by rw [q_1] <;> rfl) dX5_perform_131
  · refine fr_val (show nI kd = nI 77 from by rw [q_1]) ?_
    refine lv_tableIn (off := 117) (tgt := 132) hx hb dX5_perform_15 (by decide) (by decide) rfl (by decide) ?_
    refine lv_aload_n hx hb dX5_perform_132 rfl (lv_at hl 2 rfl) ?_
    refine lv_aload_n hx hb dX5_perform_133 rfl (lv_at hl 0 rfl) ?_
    refine lv_iconst (v := nI 0) hx hb dX5_perform_134 (by decide) ?_
    refine fr_iald hx hb hK hP 4 (0) rfl (by decide) (by decide) dX5_perform_135 ?_
    refine fr_val (show (nf q.2.1) 0 = nI (q.2.1 0) from rfl) ?_
    refine lv_aload_n hx hb dX5_perform_136 rfl (lv_at hl 0 rfl) ?_
    refine lv_iconst (v := nI 1) hx hb dX5_perform_137 (by decide) ?_
    refine fr_iald hx hb hK hP 4 (1) rfl (by decide) (by decide) dX5_perform_138 ?_
    refine fr_val (show (nf q.2.1) 1 = nI (q.2.1 1) from rfl) ?_
    refine lv_aload_n hx hb dX5_perform_139 rfl (lv_at hl 0 rfl) ?_
    refine lv_iconst (v := nI 2) hx hb dX5_perform_140 (by decide) ?_
    refine fr_iald hx hb hK hP 4 (2) rfl (by decide) (by decide) dX5_perform_141 ?_
    refine fr_val (show (nf q.2.1) 2 = nI (q.2.1 2) from rfl) ?_
    refine fr_Vi (As := [.int (nI ((q.2.1 0))), .int (nI ((q.2.1 1))), .int (nI ((q.2.1 2)))]) (rest := []) (fs' := [[(((AD 8) 0), .inr (5, [.ref ((AD 0) 0), .ref ((AD 1) 0), .ref ((AD 8) 1), .ref ((AD 9) 0), .ref ((AD 7) 0)]))], stW T sd (s_mov ν (nI ((q.2.1 0))) (nI ((q.2.1 1))) (nI ((q.2.1 2)))), [(((AD 9) 0), .inr (4, [.ref ((AD 9) 1), .int (nI (len)), .int (nI (q.1)), .int (nI (kd)), .ref ((AD 9) 2), .int (nI (q.2.2))]))], [(((AD 9) 1), .inl (T 2, 90, .inl (nf ch)))], [(((AD 9) 2), .inl (T 0, 5, .inl (nf q.2.1)))]]) (ci := 3) (q0 := (RX3, TX3, 10)) (i0 := 1) ⟨hx, hb, hml, hown, hts⟩ (kX3_moveRegister_o l D T Z sd ν (nI ((q.2.1 0))) (nI ((q.2.1 1))) (nI ((q.2.1 2)))) (cwV 3 hts gX5_perform_X3_moveRegister rfl rfl rfl (by decide +kernel) ⟨Nat.le_of_ble_eq_true rfl, Nat.le_of_ble_eq_true rfl⟩) hK hN hM hP hD hS hA [1] rfl rfl rfl rfl rfl rfl hl.1 rfl (Nat.le_of_ble_eq_true rfl) dX5_perform_142 ⟨Nat.zero_le _, Nat.zero_le _⟩ (fun H locs hP hD hS => ?_)
    exact fr_iret hx hb hr hlk hP hS (by rw [q_1] <;> rfl) (by rw [q_1] <;> rfl) dX5_perform_145
  · refine fr_val (show nI kd = nI 65 from by rw [q_1]) ?_
    refine lv_tableIn (off := 131) (tgt := 146) hx hb dX5_perform_15 (by decide) (by decide) rfl (by decide) ?_
    refine lv_aload_n hx hb dX5_perform_146 rfl (lv_at hl 2 rfl) ?_
    refine lv_aload_n hx hb dX5_perform_147 rfl (lv_at hl 0 rfl) ?_
    refine lv_iconst (v := nI 0) hx hb dX5_perform_148 (by decide) ?_
    refine fr_iald hx hb hK hP 4 (0) rfl (by decide) (by decide) dX5_perform_149 ?_
    refine fr_val (show (nf q.2.1) 0 = nI (q.2.1 0) from rfl) ?_
    refine lv_aload_n hx hb dX5_perform_150 rfl (lv_at hl 0 rfl) ?_
    refine lv_iconst (v := nI 1) hx hb dX5_perform_151 (by decide) ?_
    refine fr_iald hx hb hK hP 4 (1) rfl (by decide) (by decide) dX5_perform_152 ?_
    refine fr_val (show (nf q.2.1) 1 = nI (q.2.1 1) from rfl) ?_
    refine lv_aload_n hx hb dX5_perform_153 rfl (lv_at hl 0 rfl) ?_
    refine lv_iconst (v := nI 2) hx hb dX5_perform_154 (by decide) ?_
    refine fr_iald hx hb hK hP 4 (2) rfl (by decide) (by decide) dX5_perform_155 ?_
    refine fr_val (show (nf q.2.1) 2 = nI (q.2.1 2) from rfl) ?_
    refine lv_aload_n hx hb dX5_perform_156 rfl (lv_at hl 0 rfl) ?_
    refine lv_iconst (v := nI 3) hx hb dX5_perform_157 (by decide) ?_
    refine fr_iald hx hb hK hP 4 (3) rfl (by decide) (by decide) dX5_perform_158 ?_
    refine fr_val (show (nf q.2.1) 3 = nI (q.2.1 3) from rfl) ?_
    refine lv_aload_n hx hb dX5_perform_159 rfl (lv_at hl 0 rfl) ?_
    refine lv_iconst (v := nI 4) hx hb dX5_perform_160 (by decide) ?_
    refine fr_iald hx hb hK hP 4 (4) rfl (by decide) (by decide) dX5_perform_161 ?_
    refine fr_val (show (nf q.2.1) 4 = nI (q.2.1 4) from rfl) ?_
    refine fr_Vi (As := [.int (nI ((q.2.1 0))), .int (nI ((q.2.1 1))), .int (nI ((q.2.1 2))), .int (nI ((q.2.1 3))), .int (nI ((q.2.1 4)))]) (rest := []) (fs' := [[(((AD 8) 0), .inr (5, [.ref ((AD 0) 0), .ref ((AD 1) 0), .ref ((AD 8) 1), .ref ((AD 9) 0), .ref ((AD 7) 0)]))], stW T sd (s_cmp ν (nI ((q.2.1 0))) (nI ((q.2.1 1))) (nI ((q.2.1 2))) (nI ((q.2.1 3))) (nI ((q.2.1 4)))), [(((AD 9) 0), .inr (4, [.ref ((AD 9) 1), .int (nI (len)), .int (nI (q.1)), .int (nI (kd)), .ref ((AD 9) 2), .int (nI (q.2.2))]))], [(((AD 9) 1), .inl (T 2, 90, .inl (nf ch)))], [(((AD 9) 2), .inl (T 0, 5, .inl (nf q.2.1)))]]) (ci := 3) (q0 := (RX3, TX3, 10)) (i0 := 1) ⟨hx, hb, hml, hown, hts⟩ (kX3_computeRegister_o l D T Z sd ν (nI ((q.2.1 0))) (nI ((q.2.1 1))) (nI ((q.2.1 2))) (nI ((q.2.1 3))) (nI ((q.2.1 4))) hh) (cwV 5 hts gX5_perform_X3_computeRegister rfl rfl rfl (by decide +kernel) ⟨Nat.le_of_ble_eq_true rfl, Nat.le_of_ble_eq_true rfl⟩) hK hN hM hP hD hS hA [1] rfl rfl rfl rfl rfl rfl hl.1 rfl (Nat.le_of_ble_eq_true rfl) dX5_perform_162 ⟨Nat.zero_le _, Nat.zero_le _⟩ (fun H locs hP hD hS => ?_)
    exact fr_iret hx hb hr hlk hP hS (by rw [q_1] <;> rfl) (by rw [q_1] <;> rfl) dX5_perform_165
  · refine fr_val (show nI kd = nI 79 from by rw [q_1]) ?_
    refine lv_tableIn (off := 151) (tgt := 166) hx hb dX5_perform_15 (by decide) (by decide) rfl (by decide) ?_
    refine lv_aload_n hx hb dX5_perform_166 rfl (lv_at hl 2 rfl) ?_
    refine lv_aload_n hx hb dX5_perform_167 rfl (lv_at hl 0 rfl) ?_
    refine lv_iconst (v := nI 0) hx hb dX5_perform_168 (by decide) ?_
    refine fr_iald hx hb hK hP 4 (0) rfl (by decide) (by decide) dX5_perform_169 ?_
    refine fr_val (show (nf q.2.1) 0 = nI (q.2.1 0) from rfl) ?_
    refine lv_aload_n hx hb dX5_perform_170 rfl (lv_at hl 0 rfl) ?_
    refine lv_iconst (v := nI 1) hx hb dX5_perform_171 (by decide) ?_
    refine fr_iald hx hb hK hP 4 (1) rfl (by decide) (by decide) dX5_perform_172 ?_
    refine fr_val (show (nf q.2.1) 1 = nI (q.2.1 1) from rfl) ?_
    refine fr_Vi (As := [.int (nI ((q.2.1 0))), .int (nI ((q.2.1 1)))]) (rest := []) (fs' := [[(((AD 8) 0), .inr (5, [.ref ((AD 0) 0), .ref ((AD 1) 0), .ref ((AD 8) 1), .ref ((AD 9) 0), .ref ((AD 7) 0)]))], stW T sd (s_out ν (nI ((q.2.1 0))) (nI ((q.2.1 1)))), [(((AD 9) 0), .inr (4, [.ref ((AD 9) 1), .int (nI (len)), .int (nI (q.1)), .int (nI (kd)), .ref ((AD 9) 2), .int (nI (q.2.2))]))], [(((AD 9) 1), .inl (T 2, 90, .inl (nf ch)))], [(((AD 9) 2), .inl (T 0, 5, .inl (nf q.2.1)))]]) (ci := 3) (q0 := (RX3, TX3, 10)) (i0 := 1) ⟨hx, hb, hml, hown, hts⟩ (kX3_outputRegister_o l D T Z sd ν (nI ((q.2.1 0))) (nI ((q.2.1 1))) hh) (cwV 2 hts gX5_perform_X3_outputRegister rfl rfl rfl (by decide +kernel) ⟨Nat.le_of_ble_eq_true rfl, Nat.le_of_ble_eq_true rfl⟩) hK hN hM hP hD hS hA [1] rfl rfl rfl rfl rfl rfl hl.1 rfl (Nat.le_of_ble_eq_true rfl) dX5_perform_173 ⟨Nat.zero_le _, Nat.zero_le _⟩ (fun H locs hP hD hS => ?_)
    exact fr_iret hx hb hr hlk hP hS (by rw [q_1] <;> rfl) (by rw [q_1] <;> rfl) dX5_perform_176
  · refine fr_val (show nI kd = nI 73 from by rw [q_1]) ?_
    refine lv_tableIn (off := 162) (tgt := 177) hx hb dX5_perform_15 (by decide) (by decide) rfl (by decide) ?_
    refine lv_aload_n hx hb dX5_perform_177 rfl (lv_at hl 2 rfl) ?_
    refine lv_aload_n hx hb dX5_perform_178 rfl (lv_at hl 0 rfl) ?_
    refine lv_iconst (v := nI 0) hx hb dX5_perform_179 (by decide) ?_
    refine fr_iald hx hb hK hP 4 (0) rfl (by decide) (by decide) dX5_perform_180 ?_
    refine fr_val (show (nf q.2.1) 0 = nI (q.2.1 0) from rfl) ?_
    refine fr_Vi (As := [.int (nI ((q.2.1 0)))]) (rest := []) (fs' := [[(((AD 8) 0), .inr (5, [.ref ((AD 0) 0), .ref ((AD 1) 0), .ref ((AD 8) 1), .ref ((AD 9) 0), .ref ((AD 7) 0)]))], stW T sd (s_inj ν (nI ((q.2.1 0)))), [(((AD 9) 0), .inr (4, [.ref ((AD 9) 1), .int (nI (len)), .int (nI (q.1)), .int (nI (kd)), .ref ((AD 9) 2), .int (nI (q.2.2))]))], [(((AD 9) 1), .inl (T 2, 90, .inl (nf ch)))], [(((AD 9) 2), .inl (T 0, 5, .inl (nf q.2.1)))]]) (ci := 3) (q0 := (RX3, TX3, 10)) (i0 := 1) ⟨hx, hb, hml, hown, hts⟩ (kX3_injectWord_o l D T Z sd ν (nI ((q.2.1 0))) hi) (cwV 1 hts gX5_perform_X3_injectWord rfl rfl rfl (by decide +kernel) ⟨Nat.le_of_ble_eq_true rfl, Nat.le_of_ble_eq_true rfl⟩) hK hN hM hP hD hS hA [1] rfl rfl rfl rfl rfl rfl hl.1 rfl (Nat.le_of_ble_eq_true rfl) dX5_perform_181 ⟨Nat.zero_le _, Nat.zero_le _⟩ (fun H locs hP hD hS => ?_)
    exact fr_iret hx hb hr hlk hP hS (by rw [q_1] <;> rfl) (by rw [q_1] <;> rfl) dX5_perform_184
  · refine fr_tabD (kd) 65 83 (by omega) (tgt := 185) hx hb dX5_perform_15 (by decide) (fun h1 h2 => ?_) ?_
    · have hsel : ∀ j : Nat, j < 19 → (decide (j = 0) || decide (j = 8) || decide (j = 11) || decide (j = 12) || decide (j = 14) || decide (j = 18)) = true ∨ (#[131, 170, 170, 170, 170, 170, 170, 170, 162, 170, 170, 89, 117, 170, 151, 170, 170, 170, 103] : Array Int)[j]? = some (170) := by decide
      exact (hsel (kd - 65) (by omega)).resolve_left (by simp only [Bool.or_eq_true, decide_eq_true_eq]; omega)
    refine lv_aload_n hx hb dX5_perform_185 rfl (lv_at hl 2 rfl) ?_
    refine lv_aload_n hx hb dX5_perform_186 rfl (lv_at hl 0 rfl) ?_
    refine lv_iconst (v := nI 0) hx hb dX5_perform_187 (by decide) ?_
    refine fr_iald hx hb hK hP 4 (0) rfl (by decide) (by decide) dX5_perform_188 ?_
    refine fr_val (show (nf q.2.1) 0 = nI (q.2.1 0) from rfl) ?_
    refine lv_aload_n hx hb dX5_perform_189 rfl (lv_at hl 0 rfl) ?_
    refine lv_iconst (v := nI 1) hx hb dX5_perform_190 (by decide) ?_
    refine fr_iald hx hb hK hP 4 (1) rfl (by decide) (by decide) dX5_perform_191 ?_
    refine fr_val (show (nf q.2.1) 1 = nI (q.2.1 1) from rfl) ?_
    refine lv_aload_n hx hb dX5_perform_192 rfl (lv_at hl 0 rfl) ?_
    refine lv_iconst (v := nI 2) hx hb dX5_perform_193 (by decide) ?_
    refine fr_iald hx hb hK hP 4 (2) rfl (by decide) (by decide) dX5_perform_194 ?_
    refine fr_val (show (nf q.2.1) 2 = nI (q.2.1 2) from rfl) ?_
    refine fr_Vi (As := [.int (nI ((q.2.1 0))), .int (nI ((q.2.1 1))), .int (nI ((q.2.1 2)))]) (rest := []) (fs' := [[(((AD 8) 0), .inr (5, [.ref ((AD 0) 0), .ref ((AD 1) 0), .ref ((AD 8) 1), .ref ((AD 9) 0), .ref ((AD 7) 0)]))], stW T sd (s_giv ν (nI ((q.2.1 0))) (nI ((q.2.1 1))) (nI ((q.2.1 2)))), [(((AD 9) 0), .inr (4, [.ref ((AD 9) 1), .int (nI (len)), .int (nI (q.1)), .int (nI (kd)), .ref ((AD 9) 2), .int (nI (q.2.2))]))], [(((AD 9) 1), .inl (T 2, 90, .inl (nf ch)))], [(((AD 9) 2), .inl (T 0, 5, .inl (nf q.2.1)))]]) (ci := 3) (q0 := (RX3, TX3, 10)) (i0 := 1) ⟨hx, hb, hml, hown, hts⟩ (kX3_giveRegister_o l D T Z sd ν (nI ((q.2.1 0))) (nI ((q.2.1 1))) (nI ((q.2.1 2)))) (cwV 3 hts gX5_perform_X3_giveRegister rfl rfl rfl (by decide +kernel) ⟨Nat.le_of_ble_eq_true rfl, Nat.le_of_ble_eq_true rfl⟩) hK hN hM hP hD hS hA [1] rfl rfl rfl rfl rfl rfl hl.1 rfl (Nat.le_of_ble_eq_true rfl) dX5_perform_195 ⟨Nat.zero_le _, Nat.zero_le _⟩ (fun H locs hP hD hS => ?_)
    exact fr_iret hx hb hr hlk hP hS (by rw [(pf_not q_1 ν _).2] <;> rfl) (by rw [(pf_not q_1 ν _).1] <;> rfl) dX5_perform_198
