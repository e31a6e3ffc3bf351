set_option maxHeartbeats 8000000 in
set_option maxRecDepth 100000 in
theorem kL_act (l : Launch) (D : va_G) (T : Nat → ClassId) (Z : ZZ) (AD : Nat → Nat → Nat) (od : Nat) (ct : Nat) (π : Nat → NS) (ν : NS) (β : NS) (x : Int32) (y : Int32) (Hi : HI od ct π ν) : CtI l D T Z yL_act wsL_act ({ frames := 6, cells := 0, slots := 0, locals := 145 }) [[(((AD 8) 0), .inr (5, [.ref ((AD 0) 0), .ref ((AD 1) 0), .ref ((AD 8) 1), .ref ((AD 9) 0), .ref ((AD 7) 0)]))], [(((AD 8) 1), .inr (2, [.ref ((AD 8) 2), .int (nI (od)), .int (nI (ct))]))], [(((AD 8) 2), .inl (T 3, 5, .inr (.inr (.inr (.inr (plA AD))))))], stW T (AD 2) (π 0), stW T (AD 3) (π 1), stW T (AD 4) (π 2), stW T (AD 5) (π 3), stW T (AD 6) (π 4), stW T (AD 0) ν, blW T (AD 7) β] [.ref ((AD 8) 0), .int (x), .int (y)] (acR ν β (upN x % 20) y) [[(((AD 8) 0), .inr (5, [.ref ((AD 0) 0), .ref ((AD 1) 0), .ref ((AD 8) 1), .ref ((AD 9) 0), .ref ((AD 7) 0)]))], [(((AD 8) 1), .inr (2, [.ref ((AD 8) 2), .int (nI (setO (acR ν β (upN x % 20) y) od ct)), .int (nI (setC (acR ν β (upN x % 20) y) ct))]))], [(((AD 8) 2), .inl (T 3, 5, .inr (.inr (.inr (.inr (plA AD))))))], stW T (AD 2) ((updP π ((od + ct) % 5) ν) 0), stW T (AD 3) ((updP π ((od + ct) % 5) ν) 1), stW T (AD 4) ((updP π ((od + ct) % 5) ν) 2), stW T (AD 5) ((updP π ((od + ct) % 5) ν) 3), stW T (AD 6) ((updP π ((od + ct) % 5) ν) 4), stW T (AD 0) (acS ν β (upN x % 20) y), blW T (AD 7) (acB ν β (upN x % 20) y)] := by
  refine CtI.of (cc := cL_act) (maxL := 9) (ret := (some .int)) (by decide +kernel) rfl (by first | rfl | (simp only [frAdr, List.map_cons, List.map_nil, stW_adr T (AD 0) _ ν, stW_adr T (AD 2) _ (π 0), stW_adr T (AD 3) _ (π 1), stW_adr T (AD 4) _ (π 2), stW_adr T (AD 5) _ (π 3), stW_adr T (AD 6) _ (π 4), blW_adr T (AD 7) _ β] <;> rfl)) ?_
  intro pP eE s mM bW mE cC A hE hK hN hM hP hD hA
  obtain ⟨hx, hb, hr, hts, hown, hml, hlk⟩ := hE
  have hown : s.vm.findClass RL = some mM.cls := hown
  have hS : va_S A s.heap s.heap [] := va_S.rf
  have hl := lv_entry ([.ref ((AD 8) 0), .int (x), .int (y)]) (n := 9) (Nat.le_of_ble_eq_true rfl)
  rw [lg_entry_eq]
  generalize (lg_sl ([.ref ((AD 8) 0), .int (x), .int (y)]) ++ List.replicate (9 - (lg_sl ([.ref ((AD 8) 0), .int (x), .int (y)])).length) Slot.unset).toArray = ls at hl ⊢
  have hl : lv_has ls 9 [(0, .ref ((AD 8) 0)), (1, .int (x)), (2, .int (y))] := hl
  have w_72 := hts (.constant RL 72 (65536)) (by decide +kernel)
  refine lv_iload_n hx hb dL_act_0 rfl (lv_at hl 2 rfl) ?_
  refine lv_iconst (v := nI 4) hx hb dL_act_1 (by decide) ?_
  refine fr_S0 (As := [.int (y), .int (nI 4)]) (rest := []) ⟨hx, hb, hml, hown, hts⟩ (kL_up l D T Z y 4 (by decide) (by decide)) (va_cwS 2 hts gL_act_L_up rfl rfl rfl (by decide +kernel) ⟨Nat.le_of_ble_eq_true rfl, Nat.le_of_ble_eq_true rfl⟩) hK hN hM hP hD hS hA rfl hl.1 rfl (Nat.le_of_ble_eq_true rfl) dL_act_2 ⟨Nat.zero_le _, Nat.zero_le _⟩ (fun H locs hP hD hS => ?_)
  refine fr_val (show nI (upN y % 4) = nI (yT y) from rfl) ?_
  refine lv_istore_n (lv' := [(3, .int (nI ((yT y)))), (0, .ref ((AD 8) 0)), (1, .int (x)), (2, .int (y))]) hx hb dL_act_5 rfl hl (by decide) rfl (fun ls hl => ?_)
  refine lv_iload_n hx hb dL_act_6 rfl (lv_at hl 3 rfl) ?_
  refine lv_iconst (v := nI 2) hx hb dL_act_7 (by decide) ?_
  refine lv_ishr hx hb dL_act_8 ?_
  refine lv_iconst (v := nI 4) hx hb dL_act_9 (by decide) ?_
  refine fr_S0 (As := [.int (y >>> ((nI 2) &&& 31)), .int (nI 4)]) (rest := []) ⟨hx, hb, hml, hown, hts⟩ (kL_up l D T Z (y >>> ((nI 2) &&& 31)) 4 (by decide) (by decide)) (va_cwS 2 hts gL_act_L_up rfl rfl rfl (by decide +kernel) ⟨Nat.le_of_ble_eq_true rfl, Nat.le_of_ble_eq_true rfl⟩) hK hN hM hP hD hS hA rfl hl.1 rfl (Nat.le_of_ble_eq_true rfl) dL_act_10 ⟨Nat.zero_le _, Nat.zero_le _⟩ (fun H locs hP hD hS => ?_)
  refine fr_val (show nI (upN (y >>> ((nI 2) &&& 31)) % 4) = nI (yA y) from rfl) ?_
  refine lv_istore (lv' := [(4, .int (nI ((yA y)))), (3, .int (nI ((yT y)))), (0, .ref ((AD 8) 0)), (1, .int (x)), (2, .int (y))]) hx hb dL_act_13 hl (by decide) rfl (fun ls hl => ?_)
  refine lv_iload_n hx hb dL_act_15 rfl (lv_at hl 4 rfl) ?_
  refine lv_iconst (v := nI 4) hx hb dL_act_16 (by decide) ?_
  refine lv_ishr hx hb dL_act_17 ?_
  refine lv_iconst (v := nI 4) hx hb dL_act_18 (by decide) ?_
  refine fr_S0 (As := [.int (y >>> ((nI 4) &&& 31)), .int (nI 4)]) (rest := []) ⟨hx, hb, hml, hown, hts⟩ (kL_up l D T Z (y >>> ((nI 4) &&& 31)) 4 (by decide) (by decide)) (va_cwS 2 hts gL_act_L_up rfl rfl rfl (by decide +kernel) ⟨Nat.le_of_ble_eq_true rfl, Nat.le_of_ble_eq_true rfl⟩) hK hN hM hP hD hS hA rfl hl.1 rfl (Nat.le_of_ble_eq_true rfl) dL_act_19 ⟨Nat.zero_le _, Nat.zero_le _⟩ (fun H locs hP hD hS => ?_)
  refine fr_val (show nI (upN (y >>> ((nI 4) &&& 31)) % 4) = nI (yB y) from rfl) ?_
  refine lv_istore (lv' := [(5, .int (nI ((yB y)))), (4, .int (nI ((yA y)))), (3, .int (nI ((yT y)))), (0, .ref ((AD 8) 0)), (1, .int (x)), (2, .int (y))]) hx hb dL_act_22 hl (by decide) rfl (fun ls hl => ?_)
  refine lv_iload_n hx hb dL_act_24 rfl (lv_at hl 5 rfl) ?_
  refine lv_bipush (v := nI 6) hx hb dL_act_25 (by decide) ?_
  refine lv_ishr hx hb dL_act_27 ?_
  refine lv_bipush (v := nI 32) hx hb dL_act_28 (by decide) ?_
  refine fr_S0 (As := [.int (y >>> ((nI 6) &&& 31)), .int (nI 32)]) (rest := []) ⟨hx, hb, hml, hown, hts⟩ (kL_up l D T Z (y >>> ((nI 6) &&& 31)) 32 (by decide) (by decide)) (va_cwS 2 hts gL_act_L_up rfl rfl rfl (by decide +kernel) ⟨Nat.le_of_ble_eq_true rfl, Nat.le_of_ble_eq_true rfl⟩) hK hN hM hP hD hS hA rfl hl.1 rfl (Nat.le_of_ble_eq_true rfl) dL_act_30 ⟨Nat.zero_le _, Nat.zero_le _⟩ (fun H locs hP hD hS => ?_)
  refine fr_val (show nI (upN (y >>> ((nI 6) &&& 31)) % 32) = nI (yW y) from rfl) ?_
  refine lv_istore (lv' := [(6, .int (nI ((yW y)))), (5, .int (nI ((yB y)))), (4, .int (nI ((yA y)))), (3, .int (nI ((yT y)))), (0, .ref ((AD 8) 0)), (1, .int (x)), (2, .int (y))]) hx hb dL_act_33 hl (by decide) rfl (fun ls hl => ?_)
  refine lv_iconst (v := nI 1) hx hb dL_act_35 (by decide) ?_
  refine lv_iload_n hx hb dL_act_36 rfl (lv_at hl 6 rfl) ?_
  refine lv_bipush (v := nI 11) hx hb dL_act_37 (by decide) ?_
  refine lv_ishr hx hb dL_act_39 ?_
  refine lv_bipush (v := nI 6) hx hb dL_act_40 (by decide) ?_
  refine fr_S0 (As := [.int (y >>> ((nI 11) &&& 31)), .int (nI 6)]) (rest := [.int (nI 1)]) ⟨hx, hb, hml, hown, hts⟩ (kL_up l D T Z (y >>> ((nI 11) &&& 31)) 6 (by decide) (by decide)) (va_cwS 2 hts gL_act_L_up rfl rfl rfl (by decide +kernel) ⟨Nat.le_of_ble_eq_true rfl, Nat.le_of_ble_eq_true rfl⟩) hK hN hM hP hD hS hA rfl hl.1 rfl (Nat.le_of_ble_eq_true rfl) dL_act_42 ⟨Nat.zero_le _, Nat.zero_le _⟩ (fun H locs hP hD hS => ?_)
  refine fr_iadd (1) ((upN (y >>> ((nI 11) &&& 31)) % 6)) hx hb dL_act_45 ?_
  refine fr_val (show nI (1 + (upN (y >>> ((nI 11) &&& 31)) % 6)) = nI (yN y) from rfl) ?_
  refine lv_istore (lv' := [(7, .int (nI ((yN y)))), (6, .int (nI ((yW y)))), (5, .int (nI ((yB y)))), (4, .int (nI ((yA y)))), (3, .int (nI ((yT y)))), (0, .ref ((AD 8) 0)), (1, .int (x)), (2, .int (y))]) hx hb dL_act_46 hl (by decide) rfl (fun ls hl => ?_)
  refine lv_iload_n hx hb dL_act_48 rfl (lv_at hl 7 rfl) ?_
  refine lv_bipush (v := nI 14) hx hb dL_act_49 (by decide) ?_
  refine lv_ishr hx hb dL_act_51 ?_
  refine lv_bipush (v := nI 27) hx hb dL_act_52 (by decide) ?_
  refine fr_S0 (As := [.int (y >>> ((nI 14) &&& 31)), .int (nI 27)]) (rest := []) ⟨hx, hb, hml, hown, hts⟩ (kL_up l D T Z (y >>> ((nI 14) &&& 31)) 27 (by decide) (by decide)) (va_cwS 2 hts gL_act_L_up rfl rfl rfl (by decide +kernel) ⟨Nat.le_of_ble_eq_true rfl, Nat.le_of_ble_eq_true rfl⟩) hK hN hM hP hD hS hA rfl hl.1 rfl (Nat.le_of_ble_eq_true rfl) dL_act_54 ⟨Nat.zero_le _, Nat.zero_le _⟩ (fun H locs hP hD hS => ?_)
  refine fr_val (show nI (upN (y >>> ((nI 14) &&& 31)) % 27) = nI (yO y) from rfl) ?_
  refine lv_istore (lv' := [(8, .int (nI ((yO y)))), (7, .int (nI ((yN y)))), (6, .int (nI ((yW y)))), (5, .int (nI ((yB y)))), (4, .int (nI ((yA y)))), (3, .int (nI ((yT y)))), (0, .ref ((AD 8) 0)), (1, .int (x)), (2, .int (y))]) hx hb dL_act_57 hl (by decide) rfl (fun ls hl => ?_)
  have y1 : yT y < 4 := Nat.mod_lt _ (by decide)
  have y2 : yA y < 4 := Nat.mod_lt _ (by decide)
  have y3 : yB y < 4 := Nat.mod_lt _ (by decide)
  have y4 : yW y < 32 := Nat.mod_lt _ (by decide)
  have y5 : yN y ≤ 6 := by have := Nat.mod_lt (upN (ys y 11)) (show 0 < 6 by decide); unfold yN; omega
  have y6 : yO y < 27 := Nat.mod_lt _ (by decide)
  refine lv_iload_n hx hb dL_act_59 rfl (lv_at hl 7 rfl) ?_
  refine lv_bipush (v := nI 20) hx hb dL_act_60 (by decide) ?_
  refine fr_S0 (As := [.int (x), .int (nI 20)]) (rest := []) ⟨hx, hb, hml, hown, hts⟩ (kL_up l D T Z x 20 (by decide) (by decide)) (va_cwS 2 hts gL_act_L_up rfl rfl rfl (by decide +kernel) ⟨Nat.le_of_ble_eq_true rfl, Nat.le_of_ble_eq_true rfl⟩) hK hN hM hP hD hS hA rfl hl.1 rfl (Nat.le_of_ble_eq_true rfl) dL_act_62 ⟨Nat.zero_le _, Nat.zero_le _⟩ (fun H locs hP hD hS => ?_)
  rcases (show (upN x % 20) = 0 ∨ (upN x % 20) = 1 ∨ (upN x % 20) = 2 ∨ (upN x % 20) = 3 ∨ (upN x % 20) = 4 ∨ (upN x % 20) = 5 ∨ (upN x % 20) = 6 ∨ (upN x % 20) = 7 ∨ (upN x % 20) = 8 ∨ (upN x % 20) = 9 ∨ (upN x % 20) = 10 ∨ (upN x % 20) = 11 ∨ (upN x % 20) = 12 ∨ (upN x % 20) = 13 ∨ (upN x % 20) = 14 ∨ (upN x % 20) = 15 ∨ (upN x % 20) = 16 ∨ (upN x % 20) = 17 ∨ (upN x % 20) = 18 ∨ (upN x % 20) = 19 by omega) with q_1 | q_1 | q_1 | q_1 | q_1 | q_1 | q_1 | q_1 | q_1 | q_1 | q_1 | q_1 | q_1 | q_1 | q_1 | q_1 | q_1 | q_1 | q_1 | q_1
  · refine fr_val (show nI (upN x % 20) = nI 0 from by rw [q_1]) ?_
    refine lv_tableIn (off := 91) (tgt := 156) hx hb dL_act_65 (by decide) (by decide) rfl (by decide) ?_
    refine lv_aload_n hx hb dL_act_156 rfl (lv_at hl 6 rfl) ?_
    refine lv_iload hx hb dL_act_157 (lv_at hl 2 rfl) ?_
    refine fr_Vi (As := [.int (nI ((yW y)))]) (rest := []) (fs' := [[(((AD 8) 0), .inr (5, [.ref ((AD 0) 0), .ref ((AD 1) 0), .ref ((AD 8) 1), .ref ((AD 9) 0), .ref ((AD 7) 0)]))], [(((AD 8) 1), .inr (2, [.ref ((AD 8) 2), .int (nI (setO (r_inj ν (nI ((yW y)))) od ct)), .int (nI (setC (r_inj ν (nI ((yW y)))) ct))]))], [(((AD 8) 2), .inl (T 3, 5, .inr (.inr (.inr (.inr (plA AD))))))], stW T (AD 2) (updP (π) ((od + ct) % 5) ν 0), stW T (AD 3) (updP (π) ((od + ct) % 5) ν 1), stW T (AD 4) (updP (π) ((od + ct) % 5) ν 2), stW T (AD 5) (updP (π) ((od + ct) % 5) ν 3), stW T (AD 6) (updP (π) ((od + ct) % 5) ν 4), stW T (AD 0) (s_inj ν (nI ((yW y)))), blW T (AD 7) β]) (ci := 5) (q0 := (RX5, TX5, 5)) (i0 := 0) ⟨hx, hb, hml, hown, hts⟩ (kX5_inject l D T Z AD od ct (π) ν (nI ((yW y))) Hi.1 Hi.2.1 Hi.pi.hi) (cwV 1 hts gL_act_X5_inject rfl rfl rfl (by decide +kernel) ⟨Nat.le_of_ble_eq_true rfl, Nat.le_of_ble_eq_true rfl⟩) hK hN hM hP hD hS hA [0, 1, 2, 3, 4, 5, 6, 7, 8] rfl rfl rfl rfl rfl rfl hl.1 rfl (Nat.le_of_ble_eq_true rfl) dL_act_159 ⟨Nat.zero_le _, Nat.zero_le _⟩ (fun H locs hP hD hS => ?_)
    exact fr_iret hx hb hr hlk hP hS (by rw [q_1] <;> rfl) (by rw [q_1] <;> rfl) dL_act_162
  · refine fr_val (show nI (upN x % 20) = nI 1 from by rw [q_1]) ?_
    refine lv_tableIn (off := 91) (tgt := 156) hx hb dL_act_65 (by decide) (by decide) rfl (by decide) ?_
    refine lv_aload_n hx hb dL_act_156 rfl (lv_at hl 6 rfl) ?_
    refine lv_iload hx hb dL_act_157 (lv_at hl 2 rfl) ?_
    refine fr_Vi (As := [.int (nI ((yW y)))]) (rest := []) (fs' := [[(((AD 8) 0), .inr (5, [.ref ((AD 0) 0), .ref ((AD 1) 0), .ref ((AD 8) 1), .ref ((AD 9) 0), .ref ((AD 7) 0)]))], [(((AD 8) 1), .inr (2, [.ref ((AD 8) 2), .int (nI (setO (r_inj ν (nI ((yW y)))) od ct)), .int (nI (setC (r_inj ν (nI ((yW y)))) ct))]))], [(((AD 8) 2), .inl (T 3, 5, .inr (.inr (.inr (.inr (plA AD))))))], stW T (AD 2) (updP (π) ((od + ct) % 5) ν 0), stW T (AD 3) (updP (π) ((od + ct) % 5) ν 1), stW T (AD 4) (updP (π) ((od + ct) % 5) ν 2), stW T (AD 5) (updP (π) ((od + ct) % 5) ν 3), stW T (AD 6) (updP (π) ((od + ct) % 5) ν 4), stW T (AD 0) (s_inj ν (nI ((yW y)))), blW T (AD 7) β]) (ci := 5) (q0 := (RX5, TX5, 5)) (i0 := 0) ⟨hx, hb, hml, hown, hts⟩ (kX5_inject l D T Z AD od ct (π) ν (nI ((yW y))) Hi.1 Hi.2.1 Hi.pi.hi) (cwV 1 hts gL_act_X5_inject rfl rfl rfl (by decide +kernel) ⟨Nat.le_of_ble_eq_true rfl, Nat.le_of_ble_eq_true rfl⟩) hK hN hM hP hD hS hA [0, 1, 2, 3, 4, 5, 6, 7, 8] rfl rfl rfl rfl rfl rfl hl.1 rfl (Nat.le_of_ble_eq_true rfl) dL_act_159 ⟨Nat.zero_le _, Nat.zero_le _⟩ (fun H locs hP hD hS => ?_)
    exact fr_iret hx hb hr hlk hP hS (by rw [q_1] <;> rfl) (by rw [q_1] <;> rfl) dL_act_162
  · refine fr_val (show nI (upN x % 20) = nI 2 from by rw [q_1]) ?_
    refine lv_tableIn (off := 98) (tgt := 163) hx hb dL_act_65 (by decide) (by decide) rfl (by decide) ?_
    refine lv_aload_n hx hb dL_act_163 rfl (lv_at hl 6 rfl) ?_
    refine lv_iload hx hb dL_act_164 (lv_at hl 2 rfl) ?_
    refine lv_bipush (v := nI 26) hx hb dL_act_166 (by decide) ?_
    refine fr_icmp_le ((yW y)) (26) (by omega) (by decide) (tgt := 176) hx hb dL_act_168 (by decide) (fun c_2 => ?_) (fun c_2 => ?_)
    · have c_2' := Nat.not_lt.mpr c_2
      refine lv_iload hx hb dL_act_176 (lv_at hl 2 rfl) ?_
      refine fr_val (show nI (yW y) = nI (mn26 (yW y)) from by rw [mn26_a (by omega)]) ?_
      refine lv_iload hx hb dL_act_178 (lv_at hl 0 rfl) ?_
      refine lv_iload hx hb dL_act_180 (lv_at hl 1 rfl) ?_
      refine fr_Vi (As := [.int (nI ((mn26 (yW y)))), .int (nI ((yO y))), .int (nI ((yN y)))]) (rest := []) (fs' := [[(((AD 8) 0), .inr (5, [.ref ((AD 0) 0), .ref ((AD 1) 0), .ref ((AD 8) 1), .ref ((AD 9) 0), .ref ((AD 7) 0)]))], [(((AD 8) 1), .inr (2, [.ref ((AD 8) 2), .int (nI (setO (r_cpy ν β (nI ((mn26 (yW y)))) (nI ((yO y))) (nI ((yN y)))) od ct)), .int (nI (setC (r_cpy ν β (nI ((mn26 (yW y)))) (nI ((yO y))) (nI ((yN y)))) ct))]))], [(((AD 8) 2), .inl (T 3, 5, .inr (.inr (.inr (.inr (plA AD))))))], stW T (AD 2) (updP (π) ((od + ct) % 5) ν 0), stW T (AD 3) (updP (π) ((od + ct) % 5) ν 1), stW T (AD 4) (updP (π) ((od + ct) % 5) ν 2), stW T (AD 5) (updP (π) ((od + ct) % 5) ν 3), stW T (AD 6) (updP (π) ((od + ct) % 5) ν 4), stW T (AD 0) (s_cpy ν β (nI ((mn26 (yW y)))) (nI ((yO y))) (nI ((yN y)))), blW T (AD 7) (b_cpy ν β (nI ((mn26 (yW y)))) (nI ((yO y))) (nI ((yN y))))]) (ci := 5) (q0 := (RX5, TX5, 5)) (i0 := 0) ⟨hx, hb, hml, hown, hts⟩ (kX5_copyBlock l D T Z AD od ct (π) ν β (nI ((mn26 (yW y)))) (nI ((yO y))) (nI ((yN y))) Hi.1 Hi.2.1) (cwV 3 hts gL_act_X5_copyBlock rfl rfl rfl (by decide +kernel) ⟨Nat.le_of_ble_eq_true rfl, Nat.le_of_ble_eq_true rfl⟩) hK hN hM hP hD hS hA [0, 1, 2, 3, 4, 5, 6, 7, 8, 9] rfl rfl rfl rfl rfl rfl hl.1 rfl (Nat.le_of_ble_eq_true rfl) dL_act_182 ⟨Nat.zero_le _, Nat.zero_le _⟩ (fun H locs hP hD hS => ?_)
      exact fr_iret hx hb hr hlk hP hS (by rw [q_1] <;> rfl) (by rw [q_1] <;> rfl) dL_act_185
    · have c_2' := Nat.not_le.mpr c_2
      refine lv_bipush (v := nI 26) hx hb dL_act_171 (by decide) ?_
      refine lv_goto (tgt := 178) hx hb dL_act_173 (by decide) ?_
      refine fr_val (show nI 26 = nI (mn26 (yW y)) from by rw [mn26_b (by omega)]) ?_
      refine lv_iload hx hb dL_act_178 (lv_at hl 0 rfl) ?_
      refine lv_iload hx hb dL_act_180 (lv_at hl 1 rfl) ?_
      refine fr_Vi (As := [.int (nI ((mn26 (yW y)))), .int (nI ((yO y))), .int (nI ((yN y)))]) (rest := []) (fs' := [[(((AD 8) 0), .inr (5, [.ref ((AD 0) 0), .ref ((AD 1) 0), .ref ((AD 8) 1), .ref ((AD 9) 0), .ref ((AD 7) 0)]))], [(((AD 8) 1), .inr (2, [.ref ((AD 8) 2), .int (nI (setO (r_cpy ν β (nI ((mn26 (yW y)))) (nI ((yO y))) (nI ((yN y)))) od ct)), .int (nI (setC (r_cpy ν β (nI ((mn26 (yW y)))) (nI ((yO y))) (nI ((yN y)))) ct))]))], [(((AD 8) 2), .inl (T 3, 5, .inr (.inr (.inr (.inr (plA AD))))))], stW T (AD 2) (updP (π) ((od + ct) % 5) ν 0), stW T (AD 3) (updP (π) ((od + ct) % 5) ν 1), stW T (AD 4) (updP (π) ((od + ct) % 5) ν 2), stW T (AD 5) (updP (π) ((od + ct) % 5) ν 3), stW T (AD 6) (updP (π) ((od + ct) % 5) ν 4), stW T (AD 0) (s_cpy ν β (nI ((mn26 (yW y)))) (nI ((yO y))) (nI ((yN y)))), blW T (AD 7) (b_cpy ν β (nI ((mn26 (yW y)))) (nI ((yO y))) (nI ((yN y))))]) (ci := 5) (q0 := (RX5, TX5, 5)) (i0 := 0) ⟨hx, hb, hml, hown, hts⟩ (kX5_copyBlock l D T Z AD od ct (π) ν β (nI ((mn26 (yW y)))) (nI ((yO y))) (nI ((yN y))) Hi.1 Hi.2.1) (cwV 3 hts gL_act_X5_copyBlock rfl rfl rfl (by decide +kernel) ⟨Nat.le_of_ble_eq_true rfl, Nat.le_of_ble_eq_true rfl⟩) hK hN hM hP hD hS hA [0, 1, 2, 3, 4, 5, 6, 7, 8, 9] rfl rfl rfl rfl rfl rfl hl.1 rfl (Nat.le_of_ble_eq_true rfl) dL_act_182 ⟨Nat.zero_le _, Nat.zero_le _⟩ (fun H locs hP hD hS => ?_)
      exact fr_iret hx hb hr hlk hP hS (by rw [q_1] <;> rfl) (by rw [q_1] <;> rfl) dL_act_185
  · refine fr_val (show nI (upN x % 20) = nI 3 from by rw [q_1]) ?_
    refine lv_tableIn (off := 121) (tgt := 186) hx hb dL_act_65 (by decide) (by decide) rfl (by decide) ?_
    refine lv_aload_n hx hb dL_act_186 rfl (lv_at hl 6 rfl) ?_
    refine lv_iload hx hb dL_act_187 (lv_at hl 0 rfl) ?_
    refine lv_iload hx hb dL_act_189 (lv_at hl 1 rfl) ?_
    refine lv_iload_n hx hb dL_act_191 rfl (lv_at hl 8 rfl) ?_
    refine lv_ldc hx hb hown w_72 dL_act_192 ?_
    refine fr_val (show (65536 : Int32) = nI 65536 from rfl) ?_
    refine fr_S0 (As := [.int (y), .int (nI 65536)]) (rest := [.int (nI ((yN y))), .int (nI ((yO y))), .ref ((AD 8) 0)]) ⟨hx, hb, hml, hown, hts⟩ (kL_up l D T Z y 65536 (by decide) (by decide)) (va_cwS 2 hts gL_act_L_up rfl rfl rfl (by decide +kernel) ⟨Nat.le_of_ble_eq_true rfl, Nat.le_of_ble_eq_true rfl⟩) hK hN hM hP hD hS hA rfl hl.1 rfl (Nat.le_of_ble_eq_true rfl) dL_act_194 ⟨Nat.zero_le _, Nat.zero_le _⟩ (fun H locs hP hD hS => ?_)
    refine fr_Vi (As := [.int (nI ((yO y))), .int (nI ((yN y))), .int (nI ((upN y % 65536)))]) (rest := []) (fs' := [[(((AD 8) 0), .inr (5, [.ref ((AD 0) 0), .ref ((AD 1) 0), .ref ((AD 8) 1), .ref ((AD 9) 0), .ref ((AD 7) 0)]))], [(((AD 8) 1), .inr (2, [.ref ((AD 8) 2), .int (nI (setO (r_fil ν (nI ((yO y))) (nI ((yN y))) (nI ((upN y % 65536)))) od ct)), .int (nI (setC (r_fil ν (nI ((yO y))) (nI ((yN y))) (nI ((upN y % 65536)))) ct))]))], [(((AD 8) 2), .inl (T 3, 5, .inr (.inr (.inr (.inr (plA AD))))))], stW T (AD 2) (updP (π) ((od + ct) % 5) ν 0), stW T (AD 3) (updP (π) ((od + ct) % 5) ν 1), stW T (AD 4) (updP (π) ((od + ct) % 5) ν 2), stW T (AD 5) (updP (π) ((od + ct) % 5) ν 3), stW T (AD 6) (updP (π) ((od + ct) % 5) ν 4), stW T (AD 0) (s_fil ν (nI ((yO y))) (nI ((yN y))) (nI ((upN y % 65536)))), blW T (AD 7) β]) (ci := 5) (q0 := (RX5, TX5, 5)) (i0 := 0) ⟨hx, hb, hml, hown, hts⟩ (kX5_fill l D T Z AD od ct (π) ν (nI ((yO y))) (nI ((yN y))) (nI ((upN y % 65536))) Hi.1 Hi.2.1) (cwV 3 hts gL_act_X5_fill rfl rfl rfl (by decide +kernel) ⟨Nat.le_of_ble_eq_true rfl, Nat.le_of_ble_eq_true rfl⟩) hK hN hM hP hD hS hA [0, 1, 2, 3, 4, 5, 6, 7, 8] rfl rfl rfl rfl rfl rfl hl.1 rfl (Nat.le_of_ble_eq_true rfl) dL_act_197 ⟨Nat.zero_le _, Nat.zero_le _⟩ (fun H locs hP hD hS => ?_)
    exact fr_iret hx hb hr hlk hP hS (by rw [q_1] <;> rfl) (by rw [q_1] <;> rfl) dL_act_200
  · refine fr_val (show nI (upN x % 20) = nI 4 from by rw [q_1]) ?_
    refine lv_tableIn (off := 136) (tgt := 201) hx hb dL_act_65 (by decide) (by decide) rfl (by decide) ?_
    refine lv_aload_n hx hb dL_act_201 rfl (lv_at hl 6 rfl) ?_
    refine lv_iload hx hb dL_act_202 (lv_at hl 2 rfl) ?_
    refine lv_iconst (v := nI 4) hx hb dL_act_204 (by decide) ?_
    refine fr_idiv ((yW y)) (4) (by omega) (by omega) (by omega) hx hb dL_act_205 ?_
    refine lv_iload_n hx hb dL_act_206 rfl (lv_at hl 8 rfl) ?_
    refine lv_iconst (v := nI 3) hx hb dL_act_207 (by decide) ?_
    refine lv_iand hx hb dL_act_208 ?_
    refine lv_if_le (tgt := 216) hx hb dL_act_209 (by decide) (fun c_3 => ?_) (fun c_3 => ?_)
    · have c_3' := Int32.not_lt.mpr c_3
      refine lv_iconst (v := nI 0) hx hb dL_act_216 (by decide) ?_
      refine fr_val (show nI 0 = bI (yF y) from by rw [yF_f c_3]; rfl) ?_
      refine fr_Vi (As := [.int (nI (((yW y) / 4))), .int (bI (yF y))]) (rest := []) (fs' := [[(((AD 8) 0), .inr (5, [.ref ((AD 0) 0), .ref ((AD 1) 0), .ref ((AD 8) 1), .ref ((AD 9) 0), .ref ((AD 7) 0)]))], [(((AD 8) 1), .inr (2, [.ref ((AD 8) 2), .int (nI (setO (r_mir ν (nI (((yW y) / 4))) (yF y)) od ct)), .int (nI (setC (r_mir ν (nI (((yW y) / 4))) (yF y)) ct))]))], [(((AD 8) 2), .inl (T 3, 5, .inr (.inr (.inr (.inr (plA AD))))))], stW T (AD 2) (updP (π) ((od + ct) % 5) ν 0), stW T (AD 3) (updP (π) ((od + ct) % 5) ν 1), stW T (AD 4) (updP (π) ((od + ct) % 5) ν 2), stW T (AD 5) (updP (π) ((od + ct) % 5) ν 3), stW T (AD 6) (updP (π) ((od + ct) % 5) ν 4), stW T (AD 0) (s_mir ν (nI (((yW y) / 4))) (yF y)), blW T (AD 7) β]) (ci := 5) (q0 := (RX5, TX5, 5)) (i0 := 0) ⟨hx, hb, hml, hown, hts⟩ (kX5_setMirror l D T Z AD od ct (π) ν (nI (((yW y) / 4))) (yF y) Hi.1 Hi.2.1) (cwV 2 hts gL_act_X5_setMirror rfl rfl rfl (by decide +kernel) ⟨Nat.le_of_ble_eq_true rfl, Nat.le_of_ble_eq_true rfl⟩) hK hN hM hP hD hS hA [0, 1, 2, 3, 4, 5, 6, 7, 8] rfl rfl rfl rfl rfl rfl hl.1 rfl (Nat.le_of_ble_eq_true rfl) dL_act_217 ⟨Nat.zero_le _, Nat.zero_le _⟩ (fun H locs hP hD hS => ?_)
      exact fr_iret hx hb hr hlk hP hS (by rw [q_1] <;> rfl) (by rw [q_1] <;> rfl) dL_act_220
    · have c_3' := Int32.not_le.mp c_3
      refine lv_iconst (v := nI 1) hx hb dL_act_212 (by decide) ?_
      refine lv_goto (tgt := 217) hx hb dL_act_213 (by decide) ?_
      refine fr_val (show nI 1 = bI (yF y) from by rw [yF_t c_3]; rfl) ?_
      refine fr_Vi (As := [.int (nI (((yW y) / 4))), .int (bI (yF y))]) (rest := []) (fs' := [[(((AD 8) 0), .inr (5, [.ref ((AD 0) 0), .ref ((AD 1) 0), .ref ((AD 8) 1), .ref ((AD 9) 0), .ref ((AD 7) 0)]))], [(((AD 8) 1), .inr (2, [.ref ((AD 8) 2), .int (nI (setO (r_mir ν (nI (((yW y) / 4))) (yF y)) od ct)), .int (nI (setC (r_mir ν (nI (((yW y) / 4))) (yF y)) ct))]))], [(((AD 8) 2), .inl (T 3, 5, .inr (.inr (.inr (.inr (plA AD))))))], stW T (AD 2) (updP (π) ((od + ct) % 5) ν 0), stW T (AD 3) (updP (π) ((od + ct) % 5) ν 1), stW T (AD 4) (updP (π) ((od + ct) % 5) ν 2), stW T (AD 5) (updP (π) ((od + ct) % 5) ν 3), stW T (AD 6) (updP (π) ((od + ct) % 5) ν 4), stW T (AD 0) (s_mir ν (nI (((yW y) / 4))) (yF y)), blW T (AD 7) β]) (ci := 5) (q0 := (RX5, TX5, 5)) (i0 := 0) ⟨hx, hb, hml, hown, hts⟩ (kX5_setMirror l D T Z AD od ct (π) ν (nI (((yW y) / 4))) (yF y) Hi.1 Hi.2.1) (cwV 2 hts gL_act_X5_setMirror rfl rfl rfl (by decide +kernel) ⟨Nat.le_of_ble_eq_true rfl, Nat.le_of_ble_eq_true rfl⟩) hK hN hM hP hD hS hA [0, 1, 2, 3, 4, 5, 6, 7, 8] rfl rfl rfl rfl rfl rfl hl.1 rfl (Nat.le_of_ble_eq_true rfl) dL_act_217 ⟨Nat.zero_le _, Nat.zero_le _⟩ (fun H locs hP hD hS => ?_)
      exact fr_iret hx hb hr hlk hP hS (by rw [q_1] <;> rfl) (by rw [q_1] <;> rfl) dL_act_220
  · refine fr_val (show nI (upN x % 20) = nI 5 from by rw [q_1]) ?_
    refine lv_tableIn (off := 136) (tgt := 201) hx hb dL_act_65 (by decide) (by decide) rfl (by decide) ?_
    refine lv_aload_n hx hb dL_act_201 rfl (lv_at hl 6 rfl) ?_
    refine lv_iload hx hb dL_act_202 (lv_at hl 2 rfl) ?_
    refine lv_iconst (v := nI 4) hx hb dL_act_204 (by decide) ?_
    refine fr_idiv ((yW y)) (4) (by omega) (by omega) (by omega) hx hb dL_act_205 ?_
    refine lv_iload_n hx hb dL_act_206 rfl (lv_at hl 8 rfl) ?_
    refine lv_iconst (v := nI 3) hx hb dL_act_207 (by decide) ?_
    refine lv_iand hx hb dL_act_208 ?_
    refine lv_if_le (tgt := 216) hx hb dL_act_209 (by decide) (fun c_4 => ?_) (fun c_4 => ?_)
    · have c_4' := Int32.not_lt.mpr c_4
      refine lv_iconst (v := nI 0) hx hb dL_act_216 (by decide) ?_
      refine fr_val (show nI 0 = bI (yF y) from by rw [yF_f c_4]; rfl) ?_
      refine fr_Vi (As := [.int (nI (((yW y) / 4))), .int (bI (yF y))]) (rest := []) (fs' := [[(((AD 8) 0), .inr (5, [.ref ((AD 0) 0), .ref ((AD 1) 0), .ref ((AD 8) 1), .ref ((AD 9) 0), .ref ((AD 7) 0)]))], [(((AD 8) 1), .inr (2, [.ref ((AD 8) 2), .int (nI (setO (r_mir ν (nI (((yW y) / 4))) (yF y)) od ct)), .int (nI (setC (r_mir ν (nI (((yW y) / 4))) (yF y)) ct))]))], [(((AD 8) 2), .inl (T 3, 5, .inr (.inr (.inr (.inr (plA AD))))))], stW T (AD 2) (updP (π) ((od + ct) % 5) ν 0), stW T (AD 3) (updP (π) ((od + ct) % 5) ν 1), stW T (AD 4) (updP (π) ((od + ct) % 5) ν 2), stW T (AD 5) (updP (π) ((od + ct) % 5) ν 3), stW T (AD 6) (updP (π) ((od + ct) % 5) ν 4), stW T (AD 0) (s_mir ν (nI (((yW y) / 4))) (yF y)), blW T (AD 7) β]) (ci := 5) (q0 := (RX5, TX5, 5)) (i0 := 0) ⟨hx, hb, hml, hown, hts⟩ (kX5_setMirror l D T Z AD od ct (π) ν (nI (((yW y) / 4))) (yF y) Hi.1 Hi.2.1) (cwV 2 hts gL_act_X5_setMirror rfl rfl rfl (by decide +kernel) ⟨Nat.le_of_ble_eq_true rfl, Nat.le_of_ble_eq_true rfl⟩) hK hN hM hP hD hS hA [0, 1, 2, 3, 4, 5, 6, 7, 8] rfl rfl rfl rfl rfl rfl hl.1 rfl (Nat.le_of_ble_eq_true rfl) dL_act_217 ⟨Nat.zero_le _, Nat.zero_le _⟩ (fun H locs hP hD hS => ?_)
      exact fr_iret hx hb hr hlk hP hS (by rw [q_1] <;> rfl) (by rw [q_1] <;> rfl) dL_act_220
    · have c_4' := Int32.not_le.mp c_4
      refine lv_iconst (v := nI 1) hx hb dL_act_212 (by decide) ?_
      refine lv_goto (tgt := 217) hx hb dL_act_213 (by decide) ?_
      refine fr_val (show nI 1 = bI (yF y) from by rw [yF_t c_4]; rfl) ?_
      refine fr_Vi (As := [.int (nI (((yW y) / 4))), .int (bI (yF y))]) (rest := []) (fs' := [[(((AD 8) 0), .inr (5, [.ref ((AD 0) 0), .ref ((AD 1) 0), .ref ((AD 8) 1), .ref ((AD 9) 0), .ref ((AD 7) 0)]))], [(((AD 8) 1), .inr (2, [.ref ((AD 8) 2), .int (nI (setO (r_mir ν (nI (((yW y) / 4))) (yF y)) od ct)), .int (nI (setC (r_mir ν (nI (((yW y) / 4))) (yF y)) ct))]))], [(((AD 8) 2), .inl (T 3, 5, .inr (.inr (.inr (.inr (plA AD))))))], stW T (AD 2) (updP (π) ((od + ct) % 5) ν 0), stW T (AD 3) (updP (π) ((od + ct) % 5) ν 1), stW T (AD 4) (updP (π) ((od + ct) % 5) ν 2), stW T (AD 5) (updP (π) ((od + ct) % 5) ν 3), stW T (AD 6) (updP (π) ((od + ct) % 5) ν 4), stW T (AD 0) (s_mir ν (nI (((yW y) / 4))) (yF y)), blW T (AD 7) β]) (ci := 5) (q0 := (RX5, TX5, 5)) (i0 := 0) ⟨hx, hb, hml, hown, hts⟩ (kX5_setMirror l D T Z AD od ct (π) ν (nI (((yW y) / 4))) (yF y) Hi.1 Hi.2.1) (cwV 2 hts gL_act_X5_setMirror rfl rfl rfl (by decide +kernel) ⟨Nat.le_of_ble_eq_true rfl, Nat.le_of_ble_eq_true rfl⟩) hK hN hM hP hD hS hA [0, 1, 2, 3, 4, 5, 6, 7, 8] rfl rfl rfl rfl rfl rfl hl.1 rfl (Nat.le_of_ble_eq_true rfl) dL_act_217 ⟨Nat.zero_le _, Nat.zero_le _⟩ (fun H locs hP hD hS => ?_)
      exact fr_iret hx hb hr hlk hP hS (by rw [q_1] <;> rfl) (by rw [q_1] <;> rfl) dL_act_220
  · refine fr_val (show nI (upN x % 20) = nI 6 from by rw [q_1]) ?_
    refine lv_tableIn (off := 156) (tgt := 221) hx hb dL_act_65 (by decide) (by decide) rfl (by decide) ?_
    refine lv_aload_n hx hb dL_act_221 rfl (lv_at hl 6 rfl) ?_
    refine lv_iload hx hb dL_act_222 (lv_at hl 2 rfl) ?_
    refine lv_iconst (v := nI 4) hx hb dL_act_224 (by decide) ?_
    refine fr_idiv ((yW y)) (4) (by omega) (by omega) (by omega) hx hb dL_act_225 ?_
    refine fr_Vi (As := [.int (nI (((yW y) / 4)))]) (rest := []) (fs' := [[(((AD 8) 0), .inr (5, [.ref ((AD 0) 0), .ref ((AD 1) 0), .ref ((AD 8) 1), .ref ((AD 9) 0), .ref ((AD 7) 0)]))], [(((AD 8) 1), .inr (2, [.ref ((AD 8) 2), .int (nI (setO (r_scr ν (nI (((yW y) / 4)))) od ct)), .int (nI (setC (r_scr ν (nI (((yW y) / 4)))) ct))]))], [(((AD 8) 2), .inl (T 3, 5, .inr (.inr (.inr (.inr (plA AD))))))], stW T (AD 2) (updP (π) ((od + ct) % 5) ν 0), stW T (AD 3) (updP (π) ((od + ct) % 5) ν 1), stW T (AD 4) (updP (π) ((od + ct) % 5) ν 2), stW T (AD 5) (updP (π) ((od + ct) % 5) ν 3), stW T (AD 6) (updP (π) ((od + ct) % 5) ν 4), stW T (AD 0) (s_scr ν (nI (((yW y) / 4)))), blW T (AD 7) β]) (ci := 5) (q0 := (RX5, TX5, 5)) (i0 := 0) ⟨hx, hb, hml, hown, hts⟩ (kX5_scrub l D T Z AD od ct (π) ν (nI (((yW y) / 4))) Hi.1 Hi.2.1) (cwV 1 hts gL_act_X5_scrub rfl rfl rfl (by decide +kernel) ⟨Nat.le_of_ble_eq_true rfl, Nat.le_of_ble_eq_true rfl⟩) hK hN hM hP hD hS hA [0, 1, 2, 3, 4, 5, 6, 7, 8] rfl rfl rfl rfl rfl rfl hl.1 rfl (Nat.le_of_ble_eq_true rfl) dL_act_226 ⟨Nat.zero_le _, Nat.zero_le _⟩ (fun H locs hP hD hS => ?_)
    exact fr_iret hx hb hr hlk hP hS (by rw [q_1] <;> rfl) (by rw [q_1] <;> rfl) dL_act_229
  · refine fr_val (show nI (upN x % 20) = nI 7 from by rw [q_1]) ?_
    refine lv_tableIn (off := 165) (tgt := 230) hx hb dL_act_65 (by decide) (by decide) rfl (by decide) ?_
    refine lv_aload_n hx hb dL_act_230 rfl (lv_at hl 6 rfl) ?_
    refine lv_iload_n hx hb dL_act_231 rfl (lv_at hl 5 rfl) ?_
    refine lv_iload_n hx hb dL_act_232 rfl (lv_at hl 8 rfl) ?_
    refine lv_iconst (v := nI 2) hx hb dL_act_233 (by decide) ?_
    refine lv_ishr hx hb dL_act_234 ?_
    refine lv_iconst (v := nI 3) hx hb dL_act_235 (by decide) ?_
    refine fr_S0 (As := [.int (y >>> ((nI 2) &&& 31)), .int (nI 3)]) (rest := [.int (nI ((yT y))), .ref ((AD 8) 0)]) ⟨hx, hb, hml, hown, hts⟩ (kL_up l D T Z (y >>> ((nI 2) &&& 31)) 3 (by decide) (by decide)) (va_cwS 2 hts gL_act_L_up rfl rfl rfl (by decide +kernel) ⟨Nat.le_of_ble_eq_true rfl, Nat.le_of_ble_eq_true rfl⟩) hK hN hM hP hD hS hA rfl hl.1 rfl (Nat.le_of_ble_eq_true rfl) dL_act_236 ⟨Nat.zero_le _, Nat.zero_le _⟩ (fun H locs hP hD hS => ?_)
    refine fr_Vi (As := [.int (nI ((yT y))), .int (nI ((upN (y >>> ((nI 2) &&& 31)) % 3)))]) (rest := []) (fs' := [[(((AD 8) 0), .inr (5, [.ref ((AD 0) 0), .ref ((AD 1) 0), .ref ((AD 8) 1), .ref ((AD 9) 0), .ref ((AD 7) 0)]))], [(((AD 8) 1), .inr (2, [.ref ((AD 8) 2), .int (nI (setO (r_mod ν (nI ((yT y))) (nI ((upN (y >>> ((nI 2) &&& 31)) % 3)))) od ct)), .int (nI (setC (r_mod ν (nI ((yT y))) (nI ((upN (y >>> ((nI 2) &&& 31)) % 3)))) ct))]))], [(((AD 8) 2), .inl (T 3, 5, .inr (.inr (.inr (.inr (plA AD))))))], stW T (AD 2) (updP (π) ((od + ct) % 5) ν 0), stW T (AD 3) (updP (π) ((od + ct) % 5) ν 1), stW T (AD 4) (updP (π) ((od + ct) % 5) ν 2), stW T (AD 5) (updP (π) ((od + ct) % 5) ν 3), stW T (AD 6) (updP (π) ((od + ct) % 5) ν 4), stW T (AD 0) (s_mod ν (nI ((yT y))) (nI ((upN (y >>> ((nI 2) &&& 31)) % 3)))), blW T (AD 7) β]) (ci := 5) (q0 := (RX5, TX5, 5)) (i0 := 0) ⟨hx, hb, hml, hown, hts⟩ (kX5_setMode l D T Z AD od ct (π) ν (nI ((yT y))) (nI ((upN (y >>> ((nI 2) &&& 31)) % 3))) Hi.1 Hi.2.1) (cwV 2 hts gL_act_X5_setMode rfl rfl rfl (by decide +kernel) ⟨Nat.le_of_ble_eq_true rfl, Nat.le_of_ble_eq_true rfl⟩) hK hN hM hP hD hS hA [0, 1, 2, 3, 4, 5, 6, 7, 8] rfl rfl rfl rfl rfl rfl hl.1 rfl (Nat.le_of_ble_eq_true rfl) dL_act_239 ⟨Nat.zero_le _, Nat.zero_le _⟩ (fun H locs hP hD hS => ?_)
    exact fr_iret hx hb hr hlk hP hS (by rw [q_1] <;> rfl) (by rw [q_1] <;> rfl) dL_act_242
  · refine fr_val (show nI (upN x % 20) = nI 8 from by rw [q_1]) ?_
    refine lv_tableIn (off := 178) (tgt := 243) hx hb dL_act_65 (by decide) (by decide) rfl (by decide) ?_
    refine lv_aload_n hx hb dL_act_243 rfl (lv_at hl 6 rfl) ?_
    refine lv_iload_n hx hb dL_act_244 rfl (lv_at hl 5 rfl) ?_
    refine fr_Vi (As := [.int (nI ((yT y)))]) (rest := []) (fs' := [[(((AD 8) 0), .inr (5, [.ref ((AD 0) 0), .ref ((AD 1) 0), .ref ((AD 8) 1), .ref ((AD 9) 0), .ref ((AD 7) 0)]))], [(((AD 8) 1), .inr (2, [.ref ((AD 8) 2), .int (nI (setO (r_res ν (nI ((yT y)))) od ct)), .int (nI (setC (r_res ν (nI ((yT y)))) ct))]))], [(((AD 8) 2), .inl (T 3, 5, .inr (.inr (.inr (.inr (plA AD))))))], stW T (AD 2) (updP (π) ((od + ct) % 5) ν 0), stW T (AD 3) (updP (π) ((od + ct) % 5) ν 1), stW T (AD 4) (updP (π) ((od + ct) % 5) ν 2), stW T (AD 5) (updP (π) ((od + ct) % 5) ν 3), stW T (AD 6) (updP (π) ((od + ct) % 5) ν 4), stW T (AD 0) (s_res ν (nI ((yT y)))), blW T (AD 7) β]) (ci := 5) (q0 := (RX5, TX5, 5)) (i0 := 0) ⟨hx, hb, hml, hown, hts⟩ (kX5_restart l D T Z AD od ct (π) ν (nI ((yT y))) Hi.1 Hi.2.1) (cwV 1 hts gL_act_X5_restart rfl rfl rfl (by decide +kernel) ⟨Nat.le_of_ble_eq_true rfl, Nat.le_of_ble_eq_true rfl⟩) hK hN hM hP hD hS hA [0, 1, 2, 3, 4, 5, 6, 7, 8] rfl rfl rfl rfl rfl rfl hl.1 rfl (Nat.le_of_ble_eq_true rfl) dL_act_245 ⟨Nat.zero_le _, Nat.zero_le _⟩ (fun H locs hP hD hS => ?_)
    exact fr_iret hx hb hr hlk hP hS (by rw [q_1] <;> rfl) (by rw [q_1] <;> rfl) dL_act_248
  · refine fr_val (show nI (upN x % 20) = nI 9 from by rw [q_1]) ?_
    refine lv_tableIn (off := 184) (tgt := 249) hx hb dL_act_65 (by decide) (by decide) rfl (by decide) ?_
    refine lv_aload_n hx hb dL_act_249 rfl (lv_at hl 6 rfl) ?_
    refine lv_iload_n hx hb dL_act_250 rfl (lv_at hl 5 rfl) ?_
    refine lv_iload hx hb dL_act_251 (lv_at hl 4 rfl) ?_
    refine lv_iload_n hx hb dL_act_253 rfl (lv_at hl 8 rfl) ?_
    refine lv_iconst (v := nI 4) hx hb dL_act_254 (by decide) ?_
    refine lv_ishr hx hb dL_act_255 ?_
    refine lv_ldc hx hb hown w_72 dL_act_256 ?_
    refine fr_val (show (65536 : Int32) = nI 65536 from rfl) ?_
    refine fr_S0 (As := [.int (y >>> ((nI 4) &&& 31)), .int (nI 65536)]) (rest := [.int (nI ((yA y))), .int (nI ((yT y))), .ref ((AD 8) 0)]) ⟨hx, hb, hml, hown, hts⟩ (kL_up l D T Z (y >>> ((nI 4) &&& 31)) 65536 (by decide) (by decide)) (va_cwS 2 hts gL_act_L_up rfl rfl rfl (by decide +kernel) ⟨Nat.le_of_ble_eq_true rfl, Nat.le_of_ble_eq_true rfl⟩) hK hN hM hP hD hS hA rfl hl.1 rfl (Nat.le_of_ble_eq_true rfl) dL_act_258 ⟨Nat.zero_le _, Nat.zero_le _⟩ (fun H locs hP hD hS => ?_)
    refine fr_Vi (As := [.int (nI ((yT y))), .int (nI ((yA y))), .int (nI ((upN (y >>> ((nI 4) &&& 31)) % 65536)))]) (rest := []) (fs' := [[(((AD 8) 0), .inr (5, [.ref ((AD 0) 0), .ref ((AD 1) 0), .ref ((AD 8) 1), .ref ((AD 9) 0), .ref ((AD 7) 0)]))], [(((AD 8) 1), .inr (2, [.ref ((AD 8) 2), .int (nI (setO (r_giv ν (nI ((yT y))) (nI ((yA y))) (nI ((upN (y >>> ((nI 4) &&& 31)) % 65536)))) od ct)), .int (nI (setC (r_giv ν (nI ((yT y))) (nI ((yA y))) (nI ((upN (y >>> ((nI 4) &&& 31)) % 65536)))) ct))]))], [(((AD 8) 2), .inl (T 3, 5, .inr (.inr (.inr (.inr (plA AD))))))], stW T (AD 2) (updP (π) ((od + ct) % 5) ν 0), stW T (AD 3) (updP (π) ((od + ct) % 5) ν 1), stW T (AD 4) (updP (π) ((od + ct) % 5) ν 2), stW T (AD 5) (updP (π) ((od + ct) % 5) ν 3), stW T (AD 6) (updP (π) ((od + ct) % 5) ν 4), stW T (AD 0) (s_giv ν (nI ((yT y))) (nI ((yA y))) (nI ((upN (y >>> ((nI 4) &&& 31)) % 65536)))), blW T (AD 7) β]) (ci := 5) (q0 := (RX5, TX5, 5)) (i0 := 0) ⟨hx, hb, hml, hown, hts⟩ (kX5_setRegister l D T Z AD od ct (π) ν (nI ((yT y))) (nI ((yA y))) (nI ((upN (y >>> ((nI 4) &&& 31)) % 65536))) Hi.1 Hi.2.1) (cwV 3 hts gL_act_X5_setRegister rfl rfl rfl (by decide +kernel) ⟨Nat.le_of_ble_eq_true rfl, Nat.le_of_ble_eq_true rfl⟩) hK hN hM hP hD hS hA [0, 1, 2, 3, 4, 5, 6, 7, 8] rfl rfl rfl rfl rfl rfl hl.1 rfl (Nat.le_of_ble_eq_true rfl) dL_act_261 ⟨Nat.zero_le _, Nat.zero_le _⟩ (fun H locs hP hD hS => ?_)
    exact fr_iret hx hb hr hlk hP hS (by rw [q_1] <;> rfl) (by rw [q_1] <;> rfl) dL_act_264
  · refine fr_val (show nI (upN x % 20) = nI 10 from by rw [q_1]) ?_
    refine lv_tableIn (off := 200) (tgt := 265) hx hb dL_act_65 (by decide) (by decide) rfl (by decide) ?_
    refine lv_aload_n hx hb dL_act_265 rfl (lv_at hl 6 rfl) ?_
    refine lv_iload_n hx hb dL_act_266 rfl (lv_at hl 5 rfl) ?_
    refine lv_iload hx hb dL_act_267 (lv_at hl 4 rfl) ?_
    refine lv_iload hx hb dL_act_269 (lv_at hl 2 rfl) ?_
    refine fr_Vi (As := [.int (nI ((yT y))), .int (nI ((yA y))), .int (nI ((yW y)))]) (rest := []) (fs' := [[(((AD 8) 0), .inr (5, [.ref ((AD 0) 0), .ref ((AD 1) 0), .ref ((AD 8) 1), .ref ((AD 9) 0), .ref ((AD 7) 0)]))], [(((AD 8) 1), .inr (2, [.ref ((AD 8) 2), .int (nI (setO (r_ld ν (nI ((yT y))) (nI ((yA y))) (nI ((yW y)))) od ct)), .int (nI (setC (r_ld ν (nI ((yT y))) (nI ((yA y))) (nI ((yW y)))) ct))]))], [(((AD 8) 2), .inl (T 3, 5, .inr (.inr (.inr (.inr (plA AD))))))], stW T (AD 2) (updP (π) ((od + ct) % 5) ν 0), stW T (AD 3) (updP (π) ((od + ct) % 5) ν 1), stW T (AD 4) (updP (π) ((od + ct) % 5) ν 2), stW T (AD 5) (updP (π) ((od + ct) % 5) ν 3), stW T (AD 6) (updP (π) ((od + ct) % 5) ν 4), stW T (AD 0) (s_ld ν (nI ((yT y))) (nI ((yA y))) (nI ((yW y)))), blW T (AD 7) β]) (ci := 5) (q0 := (RX5, TX5, 5)) (i0 := 0) ⟨hx, hb, hml, hown, hts⟩ (kX5_load l D T Z AD od ct (π) ν (nI ((yT y))) (nI ((yA y))) (nI ((yW y))) Hi.1 Hi.2.1) (cwV 3 hts gL_act_X5_load rfl rfl rfl (by decide +kernel) ⟨Nat.le_of_ble_eq_true rfl, Nat.le_of_ble_eq_true rfl⟩) hK hN hM hP hD hS hA [0, 1, 2, 3, 4, 5, 6, 7, 8] rfl rfl rfl rfl rfl rfl hl.1 rfl (Nat.le_of_ble_eq_true rfl) dL_act_271 ⟨Nat.zero_le _, Nat.zero_le _⟩ (fun H locs hP hD hS => ?_)
    exact fr_iret hx hb hr hlk hP hS (by rw [q_1] <;> rfl) (by rw [q_1] <;> rfl) dL_act_274
  · refine fr_val (show nI (upN x % 20) = nI 11 from by rw [q_1]) ?_
    refine lv_tableIn (off := 200) (tgt := 265) hx hb dL_act_65 (by decide) (by decide) rfl (by decide) ?_
    refine lv_aload_n hx hb dL_act_265 rfl (lv_at hl 6 rfl) ?_
    refine lv_iload_n hx hb dL_act_266 rfl (lv_at hl 5 rfl) ?_
    refine lv_iload hx hb dL_act_267 (lv_at hl 4 rfl) ?_
    refine lv_iload hx hb dL_act_269 (lv_at hl 2 rfl) ?_
    refine fr_Vi (As := [.int (nI ((yT y))), .int (nI ((yA y))), .int (nI ((yW y)))]) (rest := []) (fs' := [[(((AD 8) 0), .inr (5, [.ref ((AD 0) 0), .ref ((AD 1) 0), .ref ((AD 8) 1), .ref ((AD 9) 0), .ref ((AD 7) 0)]))], [(((AD 8) 1), .inr (2, [.ref ((AD 8) 2), .int (nI (setO (r_ld ν (nI ((yT y))) (nI ((yA y))) (nI ((yW y)))) od ct)), .int (nI (setC (r_ld ν (nI ((yT y))) (nI ((yA y))) (nI ((yW y)))) ct))]))], [(((AD 8) 2), .inl (T 3, 5, .inr (.inr (.inr (.inr (plA AD))))))], stW T (AD 2) (updP (π) ((od + ct) % 5) ν 0), stW T (AD 3) (updP (π) ((od + ct) % 5) ν 1), stW T (AD 4) (updP (π) ((od + ct) % 5) ν 2), stW T (AD 5) (updP (π) ((od + ct) % 5) ν 3), stW T (AD 6) (updP (π) ((od + ct) % 5) ν 4), stW T (AD 0) (s_ld ν (nI ((yT y))) (nI ((yA y))) (nI ((yW y)))), blW T (AD 7) β]) (ci := 5) (q0 := (RX5, TX5, 5)) (i0 := 0) ⟨hx, hb, hml, hown, hts⟩ (kX5_load l D T Z AD od ct (π) ν (nI ((yT y))) (nI ((yA y))) (nI ((yW y))) Hi.1 Hi.2.1) (cwV 3 hts gL_act_X5_load rfl rfl rfl (by decide +kernel) ⟨Nat.le_of_ble_eq_true rfl, Nat.le_of_ble_eq_true rfl⟩) hK hN hM hP hD hS hA [0, 1, 2, 3, 4, 5, 6, 7, 8] rfl rfl rfl rfl rfl rfl hl.1 rfl (Nat.le_of_ble_eq_true rfl) dL_act_271 ⟨Nat.zero_le _, Nat.zero_le _⟩ (fun H locs hP hD hS => ?_)
    exact fr_iret hx hb hr hlk hP hS (by rw [q_1] <;> rfl) (by rw [q_1] <;> rfl) dL_act_274
  · refine fr_val (show nI (upN x % 20) = nI 12 from by rw [q_1]) ?_
    refine lv_tableIn (off := 210) (tgt := 275) hx hb dL_act_65 (by decide) (by decide) rfl (by decide) ?_
    refine lv_aload_n hx hb dL_act_275 rfl (lv_at hl 6 rfl) ?_
    refine lv_iload_n hx hb dL_act_276 rfl (lv_at hl 5 rfl) ?_
    refine lv_iload hx hb dL_act_277 (lv_at hl 4 rfl) ?_
    refine lv_iload hx hb dL_act_279 (lv_at hl 2 rfl) ?_
    refine lv_iload_n hx hb dL_act_281 rfl (lv_at hl 8 rfl) ?_
    refine lv_bipush (v := nI 11) hx hb dL_act_282 (by decide) ?_
    refine lv_ishr hx hb dL_act_284 ?_
    refine lv_iconst (v := nI 1) hx hb dL_act_285 (by decide) ?_
    refine lv_iand hx hb dL_act_286 ?_
    refine fr_Vi (As := [.int (nI ((yT y))), .int (nI ((yA y))), .int (nI ((yW y))), .int ((y >>> ((nI 11) &&& 31)) &&& (nI 1))]) (rest := []) (fs' := [[(((AD 8) 0), .inr (5, [.ref ((AD 0) 0), .ref ((AD 1) 0), .ref ((AD 8) 1), .ref ((AD 9) 0), .ref ((AD 7) 0)]))], [(((AD 8) 1), .inr (2, [.ref ((AD 8) 2), .int (nI (setO (r_ldb ν (nI ((yT y))) (nI ((yA y))) (nI ((yW y))) ((y >>> ((nI 11) &&& 31)) &&& (nI 1))) od ct)), .int (nI (setC (r_ldb ν (nI ((yT y))) (nI ((yA y))) (nI ((yW y))) ((y >>> ((nI 11) &&& 31)) &&& (nI 1))) ct))]))], [(((AD 8) 2), .inl (T 3, 5, .inr (.inr (.inr (.inr (plA AD))))))], stW T (AD 2) (updP (π) ((od + ct) % 5) ν 0), stW T (AD 3) (updP (π) ((od + ct) % 5) ν 1), stW T (AD 4) (updP (π) ((od + ct) % 5) ν 2), stW T (AD 5) (updP (π) ((od + ct) % 5) ν 3), stW T (AD 6) (updP (π) ((od + ct) % 5) ν 4), stW T (AD 0) (s_ldb ν (nI ((yT y))) (nI ((yA y))) (nI ((yW y))) ((y >>> ((nI 11) &&& 31)) &&& (nI 1))), blW T (AD 7) β]) (ci := 5) (q0 := (RX5, TX5, 5)) (i0 := 0) ⟨hx, hb, hml, hown, hts⟩ (kX5_loadByte l D T Z AD od ct (π) ν (nI ((yT y))) (nI ((yA y))) (nI ((yW y))) ((y >>> ((nI 11) &&& 31)) &&& (nI 1)) Hi.1 Hi.2.1) (cwV 4 hts gL_act_X5_loadByte rfl rfl rfl (by decide +kernel) ⟨Nat.le_of_ble_eq_true rfl, Nat.le_of_ble_eq_true rfl⟩) hK hN hM hP hD hS hA [0, 1, 2, 3, 4, 5, 6, 7, 8] rfl rfl rfl rfl rfl rfl hl.1 rfl (Nat.le_of_ble_eq_true rfl) dL_act_287 ⟨Nat.zero_le _, Nat.zero_le _⟩ (fun H locs hP hD hS => ?_)
    exact fr_iret hx hb hr hlk hP hS (by rw [q_1] <;> rfl) (by rw [q_1] <;> rfl) dL_act_290
  · refine fr_val (show nI (upN x % 20) = nI 13 from by rw [q_1]) ?_
    refine lv_tableIn (off := 226) (tgt := 291) hx hb dL_act_65 (by decide) (by decide) rfl (by decide) ?_
    refine lv_aload_n hx hb dL_act_291 rfl (lv_at hl 6 rfl) ?_
    refine lv_iload_n hx hb dL_act_292 rfl (lv_at hl 5 rfl) ?_
    refine lv_iload hx hb dL_act_293 (lv_at hl 4 rfl) ?_
    refine lv_iload hx hb dL_act_295 (lv_at hl 2 rfl) ?_
    refine fr_Vi (As := [.int (nI ((yT y))), .int (nI ((yA y))), .int (nI ((yW y)))]) (rest := []) (fs' := [[(((AD 8) 0), .inr (5, [.ref ((AD 0) 0), .ref ((AD 1) 0), .ref ((AD 8) 1), .ref ((AD 9) 0), .ref ((AD 7) 0)]))], [(((AD 8) 1), .inr (2, [.ref ((AD 8) 2), .int (nI (setO (r_sto ν (nI ((yT y))) (nI ((yA y))) (nI ((yW y)))) od ct)), .int (nI (setC (r_sto ν (nI ((yT y))) (nI ((yA y))) (nI ((yW y)))) ct))]))], [(((AD 8) 2), .inl (T 3, 5, .inr (.inr (.inr (.inr (plA AD))))))], stW T (AD 2) (updP (π) ((od + ct) % 5) ν 0), stW T (AD 3) (updP (π) ((od + ct) % 5) ν 1), stW T (AD 4) (updP (π) ((od + ct) % 5) ν 2), stW T (AD 5) (updP (π) ((od + ct) % 5) ν 3), stW T (AD 6) (updP (π) ((od + ct) % 5) ν 4), stW T (AD 0) (s_sto ν (nI ((yT y))) (nI ((yA y))) (nI ((yW y)))), blW T (AD 7) β]) (ci := 5) (q0 := (RX5, TX5, 5)) (i0 := 0) ⟨hx, hb, hml, hown, hts⟩ (kX5_store l D T Z AD od ct (π) ν (nI ((yT y))) (nI ((yA y))) (nI ((yW y))) Hi.1 Hi.2.1) (cwV 3 hts gL_act_X5_store rfl rfl rfl (by decide +kernel) ⟨Nat.le_of_ble_eq_true rfl, Nat.le_of_ble_eq_true rfl⟩) hK hN hM hP hD hS hA [0, 1, 2, 3, 4, 5, 6, 7, 8] rfl rfl rfl rfl rfl rfl hl.1 rfl (Nat.le_of_ble_eq_true rfl) dL_act_297 ⟨Nat.zero_le _, Nat.zero_le _⟩ (fun H locs hP hD hS => ?_)
    exact fr_iret hx hb hr hlk hP hS (by rw [q_1] <;> rfl) (by rw [q_1] <;> rfl) dL_act_300
  · refine fr_val (show nI (upN x % 20) = nI 14 from by rw [q_1]) ?_
    refine lv_tableIn (off := 226) (tgt := 291) hx hb dL_act_65 (by decide) (by decide) rfl (by decide) ?_
    refine lv_aload_n hx hb dL_act_291 rfl (lv_at hl 6 rfl) ?_
    refine lv_iload_n hx hb dL_act_292 rfl (lv_at hl 5 rfl) ?_
    refine lv_iload hx hb dL_act_293 (lv_at hl 4 rfl) ?_
    refine lv_iload hx hb dL_act_295 (lv_at hl 2 rfl) ?_
    refine fr_Vi (As := [.int (nI ((yT y))), .int (nI ((yA y))), .int (nI ((yW y)))]) (rest := []) (fs' := [[(((AD 8) 0), .inr (5, [.ref ((AD 0) 0), .ref ((AD 1) 0), .ref ((AD 8) 1), .ref ((AD 9) 0), .ref ((AD 7) 0)]))], [(((AD 8) 1), .inr (2, [.ref ((AD 8) 2), .int (nI (setO (r_sto ν (nI ((yT y))) (nI ((yA y))) (nI ((yW y)))) od ct)), .int (nI (setC (r_sto ν (nI ((yT y))) (nI ((yA y))) (nI ((yW y)))) ct))]))], [(((AD 8) 2), .inl (T 3, 5, .inr (.inr (.inr (.inr (plA AD))))))], stW T (AD 2) (updP (π) ((od + ct) % 5) ν 0), stW T (AD 3) (updP (π) ((od + ct) % 5) ν 1), stW T (AD 4) (updP (π) ((od + ct) % 5) ν 2), stW T (AD 5) (updP (π) ((od + ct) % 5) ν 3), stW T (AD 6) (updP (π) ((od + ct) % 5) ν 4), stW T (AD 0) (s_sto ν (nI ((yT y))) (nI ((yA y))) (nI ((yW y)))), blW T (AD 7) β]) (ci := 5) (q0 := (RX5, TX5, 5)) (i0 := 0) ⟨hx, hb, hml, hown, hts⟩ (kX5_store l D T Z AD od ct (π) ν (nI ((yT y))) (nI ((yA y))) (nI ((yW y))) Hi.1 Hi.2.1) (cwV 3 hts gL_act_X5_store rfl rfl rfl (by decide +kernel) ⟨Nat.le_of_ble_eq_true rfl, Nat.le_of_ble_eq_true rfl⟩) hK hN hM hP hD hS hA [0, 1, 2, 3, 4, 5, 6, 7, 8] rfl rfl rfl rfl rfl rfl hl.1 rfl (Nat.le_of_ble_eq_true rfl) dL_act_297 ⟨Nat.zero_le _, Nat.zero_le _⟩ (fun H locs hP hD hS => ?_)
    exact fr_iret hx hb hr hlk hP hS (by rw [q_1] <;> rfl) (by rw [q_1] <;> rfl) dL_act_300
  · refine fr_val (show nI (upN x % 20) = nI 15 from by rw [q_1]) ?_
    refine lv_tableIn (off := 236) (tgt := 301) hx hb dL_act_65 (by decide) (by decide) rfl (by decide) ?_
    refine lv_aload_n hx hb dL_act_301 rfl (lv_at hl 6 rfl) ?_
    refine lv_iload_n hx hb dL_act_302 rfl (lv_at hl 5 rfl) ?_
    refine lv_iload hx hb dL_act_303 (lv_at hl 4 rfl) ?_
    refine lv_iload hx hb dL_act_305 (lv_at hl 2 rfl) ?_
    refine lv_iload_n hx hb dL_act_307 rfl (lv_at hl 8 rfl) ?_
    refine lv_bipush (v := nI 11) hx hb dL_act_308 (by decide) ?_
    refine lv_ishr hx hb dL_act_310 ?_
    refine lv_iconst (v := nI 1) hx hb dL_act_311 (by decide) ?_
    refine lv_iand hx hb dL_act_312 ?_
    refine fr_Vi (As := [.int (nI ((yT y))), .int (nI ((yA y))), .int (nI ((yW y))), .int ((y >>> ((nI 11) &&& 31)) &&& (nI 1))]) (rest := []) (fs' := [[(((AD 8) 0), .inr (5, [.ref ((AD 0) 0), .ref ((AD 1) 0), .ref ((AD 8) 1), .ref ((AD 9) 0), .ref ((AD 7) 0)]))], [(((AD 8) 1), .inr (2, [.ref ((AD 8) 2), .int (nI (setO (r_stb ν (nI ((yT y))) (nI ((yA y))) (nI ((yW y))) ((y >>> ((nI 11) &&& 31)) &&& (nI 1))) od ct)), .int (nI (setC (r_stb ν (nI ((yT y))) (nI ((yA y))) (nI ((yW y))) ((y >>> ((nI 11) &&& 31)) &&& (nI 1))) ct))]))], [(((AD 8) 2), .inl (T 3, 5, .inr (.inr (.inr (.inr (plA AD))))))], stW T (AD 2) (updP (π) ((od + ct) % 5) ν 0), stW T (AD 3) (updP (π) ((od + ct) % 5) ν 1), stW T (AD 4) (updP (π) ((od + ct) % 5) ν 2), stW T (AD 5) (updP (π) ((od + ct) % 5) ν 3), stW T (AD 6) (updP (π) ((od + ct) % 5) ν 4), stW T (AD 0) (s_stb ν (nI ((yT y))) (nI ((yA y))) (nI ((yW y))) ((y >>> ((nI 11) &&& 31)) &&& (nI 1))), blW T (AD 7) β]) (ci := 5) (q0 := (RX5, TX5, 5)) (i0 := 0) ⟨hx, hb, hml, hown, hts⟩ (kX5_storeByte l D T Z AD od ct (π) ν (nI ((yT y))) (nI ((yA y))) (nI ((yW y))) ((y >>> ((nI 11) &&& 31)) &&& (nI 1)) Hi.1 Hi.2.1) (cwV 4 hts gL_act_X5_storeByte rfl rfl rfl (by decide +kernel) ⟨Nat.le_of_ble_eq_true rfl, Nat.le_of_ble_eq_true rfl⟩) hK hN hM hP hD hS hA [0, 1, 2, 3, 4, 5, 6, 7, 8] rfl rfl rfl rfl rfl rfl hl.1 rfl (Nat.le_of_ble_eq_true rfl) dL_act_313 ⟨Nat.zero_le _, Nat.zero_le _⟩ (fun H locs hP hD hS => ?_)
    exact fr_iret hx hb hr hlk hP hS (by rw [q_1] <;> rfl) (by rw [q_1] <;> rfl) dL_act_316
  · refine fr_val (show nI (upN x % 20) = nI 16 from by rw [q_1]) ?_
    refine lv_tableIn (off := 252) (tgt := 317) hx hb dL_act_65 (by decide) (by decide) rfl (by decide) ?_
    refine lv_aload_n hx hb dL_act_317 rfl (lv_at hl 6 rfl) ?_
    refine lv_iload_n hx hb dL_act_318 rfl (lv_at hl 5 rfl) ?_
    refine lv_iload hx hb dL_act_319 (lv_at hl 4 rfl) ?_
    refine lv_iload hx hb dL_act_321 (lv_at hl 3 rfl) ?_
    refine fr_Vi (As := [.int (nI ((yT y))), .int (nI ((yA y))), .int (nI ((yB y)))]) (rest := []) (fs' := [[(((AD 8) 0), .inr (5, [.ref ((AD 0) 0), .ref ((AD 1) 0), .ref ((AD 8) 1), .ref ((AD 9) 0), .ref ((AD 7) 0)]))], [(((AD 8) 1), .inr (2, [.ref ((AD 8) 2), .int (nI (setO (r_mov ν (nI ((yT y))) (nI ((yA y))) (nI ((yB y)))) od ct)), .int (nI (setC (r_mov ν (nI ((yT y))) (nI ((yA y))) (nI ((yB y)))) ct))]))], [(((AD 8) 2), .inl (T 3, 5, .inr (.inr (.inr (.inr (plA AD))))))], stW T (AD 2) (updP (π) ((od + ct) % 5) ν 0), stW T (AD 3) (updP (π) ((od + ct) % 5) ν 1), stW T (AD 4) (updP (π) ((od + ct) % 5) ν 2), stW T (AD 5) (updP (π) ((od + ct) % 5) ν 3), stW T (AD 6) (updP (π) ((od + ct) % 5) ν 4), stW T (AD 0) (s_mov ν (nI ((yT y))) (nI ((yA y))) (nI ((yB y)))), blW T (AD 7) β]) (ci := 5) (q0 := (RX5, TX5, 5)) (i0 := 0) ⟨hx, hb, hml, hown, hts⟩ (kX5_move l D T Z AD od ct (π) ν (nI ((yT y))) (nI ((yA y))) (nI ((yB y))) Hi.1 Hi.2.1) (cwV 3 hts gL_act_X5_move rfl rfl rfl (by decide +kernel) ⟨Nat.le_of_ble_eq_true rfl, Nat.le_of_ble_eq_true rfl⟩) hK hN hM hP hD hS hA [0, 1, 2, 3, 4, 5, 6, 7, 8] rfl rfl rfl rfl rfl rfl hl.1 rfl (Nat.le_of_ble_eq_true rfl) dL_act_323 ⟨Nat.zero_le _, Nat.zero_le _⟩ (fun H locs hP hD hS => ?_)
    exact fr_iret hx hb hr hlk hP hS (by rw [q_1] <;> rfl) (by rw [q_1] <;> rfl) dL_act_326
  · refine fr_val (show nI (upN x % 20) = nI 17 from by rw [q_1]) ?_
    refine lv_tableIn (off := 262) (tgt := 327) hx hb dL_act_65 (by decide) (by decide) rfl (by decide) ?_
    refine lv_aload_n hx hb dL_act_327 rfl (lv_at hl 6 rfl) ?_
    refine lv_iload_n hx hb dL_act_328 rfl (lv_at hl 5 rfl) ?_
    refine lv_iload_n hx hb dL_act_329 rfl (lv_at hl 8 rfl) ?_
    refine lv_bipush (v := nI 6) hx hb dL_act_330 (by decide) ?_
    refine lv_ishr hx hb dL_act_332 ?_
    refine lv_iconst (v := nI 4) hx hb dL_act_333 (by decide) ?_
    refine fr_S0 (As := [.int (y >>> ((nI 6) &&& 31)), .int (nI 4)]) (rest := [.int (nI ((yT y))), .ref ((AD 8) 0)]) ⟨hx, hb, hml, hown, hts⟩ (kL_up l D T Z (y >>> ((nI 6) &&& 31)) 4 (by decide) (by decide)) (va_cwS 2 hts gL_act_L_up rfl rfl rfl (by decide +kernel) ⟨Nat.le_of_ble_eq_true rfl, Nat.le_of_ble_eq_true rfl⟩) hK hN hM hP hD hS hA rfl hl.1 rfl (Nat.le_of_ble_eq_true rfl) dL_act_334 ⟨Nat.zero_le _, Nat.zero_le _⟩ (fun H locs hP hD hS => ?_)
    refine lv_iload hx hb dL_act_337 (lv_at hl 4 rfl) ?_
    refine lv_iload hx hb dL_act_339 (lv_at hl 3 rfl) ?_
    refine lv_iload_n hx hb dL_act_341 rfl (lv_at hl 8 rfl) ?_
    refine lv_bipush (v := nI 8) hx hb dL_act_342 (by decide) ?_
    refine lv_ishr hx hb dL_act_344 ?_
    refine lv_iconst (v := nI 4) hx hb dL_act_345 (by decide) ?_
    refine fr_S0 (As := [.int (y >>> ((nI 8) &&& 31)), .int (nI 4)]) (rest := [.int (nI ((yB y))), .int (nI ((yA y))), .int (nI ((upN (y >>> ((nI 6) &&& 31)) % 4))), .int (nI ((yT y))), .ref ((AD 8) 0)]) ⟨hx, hb, hml, hown, hts⟩ (kL_up l D T Z (y >>> ((nI 8) &&& 31)) 4 (by decide) (by decide)) (va_cwS 2 hts gL_act_L_up rfl rfl rfl (by decide +kernel) ⟨Nat.le_of_ble_eq_true rfl, Nat.le_of_ble_eq_true rfl⟩) hK hN hM hP hD hS hA rfl hl.1 rfl (Nat.le_of_ble_eq_true rfl) dL_act_346 ⟨Nat.zero_le _, Nat.zero_le _⟩ (fun H locs hP hD hS => ?_)
    refine fr_Vi (As := [.int (nI ((yT y))), .int (nI ((upN (y >>> ((nI 6) &&& 31)) % 4))), .int (nI ((yA y))), .int (nI ((yB y))), .int (nI ((upN (y >>> ((nI 8) &&& 31)) % 4)))]) (rest := []) (fs' := [[(((AD 8) 0), .inr (5, [.ref ((AD 0) 0), .ref ((AD 1) 0), .ref ((AD 8) 1), .ref ((AD 9) 0), .ref ((AD 7) 0)]))], [(((AD 8) 1), .inr (2, [.ref ((AD 8) 2), .int (nI (setO (r_cmp ν (nI ((yT y))) (nI ((upN (y >>> ((nI 6) &&& 31)) % 4))) (nI ((yA y))) (nI ((yB y))) (nI ((upN (y >>> ((nI 8) &&& 31)) % 4)))) od ct)), .int (nI (setC (r_cmp ν (nI ((yT y))) (nI ((upN (y >>> ((nI 6) &&& 31)) % 4))) (nI ((yA y))) (nI ((yB y))) (nI ((upN (y >>> ((nI 8) &&& 31)) % 4)))) ct))]))], [(((AD 8) 2), .inl (T 3, 5, .inr (.inr (.inr (.inr (plA AD))))))], stW T (AD 2) (updP (π) ((od + ct) % 5) ν 0), stW T (AD 3) (updP (π) ((od + ct) % 5) ν 1), stW T (AD 4) (updP (π) ((od + ct) % 5) ν 2), stW T (AD 5) (updP (π) ((od + ct) % 5) ν 3), stW T (AD 6) (updP (π) ((od + ct) % 5) ν 4), stW T (AD 0) (s_cmp ν (nI ((yT y))) (nI ((upN (y >>> ((nI 6) &&& 31)) % 4))) (nI ((yA y))) (nI ((yB y))) (nI ((upN (y >>> ((nI 8) &&& 31)) % 4)))), blW T (AD 7) β]) (ci := 5) (q0 := (RX5, TX5, 5)) (i0 := 0) ⟨hx, hb, hml, hown, hts⟩ (kX5_compute l D T Z AD od ct (π) ν (nI ((yT y))) (nI ((upN (y >>> ((nI 6) &&& 31)) % 4))) (nI ((yA y))) (nI ((yB y))) (nI ((upN (y >>> ((nI 8) &&& 31)) % 4))) Hi.1 Hi.2.1 Hi.pi.hh) (cwV 5 hts gL_act_X5_compute rfl rfl rfl (by decide +kernel) ⟨Nat.le_of_ble_eq_true rfl, Nat.le_of_ble_eq_true rfl⟩) hK hN hM hP hD hS hA [0, 1, 2, 3, 4, 5, 6, 7, 8] rfl rfl rfl rfl rfl rfl hl.1 rfl (Nat.le_of_ble_eq_true rfl) dL_act_349 ⟨Nat.zero_le _, Nat.zero_le _⟩ (fun H locs hP hD hS => ?_)
    exact fr_iret hx hb hr hlk hP hS (by rw [q_1] <;> rfl) (by rw [q_1] <;> rfl) dL_act_352
  · refine fr_val (show nI (upN x % 20) = nI 18 from by rw [q_1]) ?_
    refine lv_tableIn (off := 288) (tgt := 353) hx hb dL_act_65 (by decide) (by decide) rfl (by decide) ?_
    refine lv_aload_n hx hb dL_act_353 rfl (lv_at hl 6 rfl) ?_
    refine lv_iload_n hx hb dL_act_354 rfl (lv_at hl 5 rfl) ?_
    refine lv_iload hx hb dL_act_355 (lv_at hl 4 rfl) ?_
    refine lv_iload hx hb dL_act_357 (lv_at hl 3 rfl) ?_
    refine fr_Vi (As := [.int (nI ((yT y))), .int (nI ((yA y))), .int (nI ((yB y)))]) (rest := []) (fs' := [[(((AD 8) 0), .inr (5, [.ref ((AD 0) 0), .ref ((AD 1) 0), .ref ((AD 8) 1), .ref ((AD 9) 0), .ref ((AD 7) 0)]))], [(((AD 8) 1), .inr (2, [.ref ((AD 8) 2), .int (nI (setO (r_lad ν (nI ((yT y))) (nI ((yA y))) (nI ((yB y)))) od ct)), .int (nI (setC (r_lad ν (nI ((yT y))) (nI ((yA y))) (nI ((yB y)))) ct))]))], [(((AD 8) 2), .inl (T 3, 5, .inr (.inr (.inr (.inr (plA AD))))))], stW T (AD 2) (updP (π) ((od + ct) % 5) ν 0), stW T (AD 3) (updP (π) ((od + ct) % 5) ν 1), stW T (AD 4) (updP (π) ((od + ct) % 5) ν 2), stW T (AD 5) (updP (π) ((od + ct) % 5) ν 3), stW T (AD 6) (updP (π) ((od + ct) % 5) ν 4), stW T (AD 0) (s_lad ν (nI ((yT y))) (nI ((yA y))) (nI ((yB y)))), blW T (AD 7) β]) (ci := 5) (q0 := (RX5, TX5, 5)) (i0 := 0) ⟨hx, hb, hml, hown, hts⟩ (kX5_loadAt l D T Z AD od ct (π) ν (nI ((yT y))) (nI ((yA y))) (nI ((yB y))) Hi.1 Hi.2.1 Hi.pi.hh (fun t a ht ha => ((PI_use (t := t) (a := a) (b := a) Hi.pi).r (by omega)).1)) (cwV 3 hts gL_act_X5_loadAt rfl rfl rfl (by decide +kernel) ⟨Nat.le_of_ble_eq_true rfl, Nat.le_of_ble_eq_true rfl⟩) hK hN hM hP hD hS hA [0, 1, 2, 3, 4, 5, 6, 7, 8] rfl rfl rfl rfl rfl rfl hl.1 rfl (Nat.le_of_ble_eq_true rfl) dL_act_359 ⟨Nat.zero_le _, Nat.zero_le _⟩ (fun H locs hP hD hS => ?_)
    exact fr_iret hx hb hr hlk hP hS (by rw [q_1] <;> rfl) (by rw [q_1] <;> rfl) dL_act_362
  · refine fr_val (show nI (upN x % 20) = nI 19 from by rw [q_1]) ?_
    refine lv_tableOut (tgt := 363) hx hb dL_act_65 (by decide) (by decide) ?_
    refine lv_aload_n hx hb dL_act_363 rfl (lv_at hl 6 rfl) ?_
    refine lv_iload_n hx hb dL_act_364 rfl (lv_at hl 5 rfl) ?_
    refine lv_iload hx hb dL_act_365 (lv_at hl 4 rfl) ?_
    refine fr_Vi (As := [.int (nI ((yT y))), .int (nI ((yA y)))]) (rest := []) (fs' := [[(((AD 8) 0), .inr (5, [.ref ((AD 0) 0), .ref ((AD 1) 0), .ref ((AD 8) 1), .ref ((AD 9) 0), .ref ((AD 7) 0)]))], [(((AD 8) 1), .inr (2, [.ref ((AD 8) 2), .int (nI (setO (r_out ν (nI ((yT y))) (nI ((yA y)))) od ct)), .int (nI (setC (r_out ν (nI ((yT y))) (nI ((yA y)))) ct))]))], [(((AD 8) 2), .inl (T 3, 5, .inr (.inr (.inr (.inr (plA AD))))))], stW T (AD 2) (updP (π) ((od + ct) % 5) ν 0), stW T (AD 3) (updP (π) ((od + ct) % 5) ν 1), stW T (AD 4) (updP (π) ((od + ct) % 5) ν 2), stW T (AD 5) (updP (π) ((od + ct) % 5) ν 3), stW T (AD 6) (updP (π) ((od + ct) % 5) ν 4), stW T (AD 0) (s_out ν (nI ((yT y))) (nI ((yA y)))), blW T (AD 7) β]) (ci := 5) (q0 := (RX5, TX5, 5)) (i0 := 0) ⟨hx, hb, hml, hown, hts⟩ (kX5_output l D T Z AD od ct (π) ν (nI ((yT y))) (nI ((yA y))) Hi.1 Hi.2.1 Hi.pi.hh) (cwV 2 hts gL_act_X5_output rfl rfl rfl (by decide +kernel) ⟨Nat.le_of_ble_eq_true rfl, Nat.le_of_ble_eq_true rfl⟩) hK hN hM hP hD hS hA [0, 1, 2, 3, 4, 5, 6, 7, 8] rfl rfl rfl rfl rfl rfl hl.1 rfl (Nat.le_of_ble_eq_true rfl) dL_act_367 ⟨Nat.zero_le _, Nat.zero_le _⟩ (fun H locs hP hD hS => ?_)
    exact fr_iret hx hb hr hlk hP hS (by rw [q_1] <;> rfl) (by rw [q_1] <;> rfl) dL_act_370
