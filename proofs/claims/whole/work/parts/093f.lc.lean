set_option maxHeartbeats 8000000 in
set_option maxRecDepth 100000 in
theorem lc_24 (l : Launch) (pP : Program) (eE : Env) (s : State) (mM : MethodId) (bW : List Frame) (mE : Method) (cC : Code) (b L : Nat) (xs : Nat → Int32) (D : va_G) (T : Nat → ClassId) (Z : ZZ) (AD : Nat → Nat → Nat) (md : Nat → Nat) (i : Nat) (hi9 : i + 6 ≤ L) (hC : LC pP s mM cC b L xs D T Z) (hn9 : LWat l pP eE s mM bW mE cC b L xs D T Z AD md i 1526) : LWat l pP eE s mM bW mE cC b L xs D T Z AD md i 1030 := by
  obtain ⟨hx, hb, hml, hown, hts, hK, hN, hM, hX, hbl, hL⟩ := hC
  have hA : ∀ q : Nat, s.heap.size ≤ q → (fun q : Nat => s.heap.size ≤ q) q := fun _ h => h
  have hbA : ¬ (fun q : Nat => s.heap.size ≤ q) b := Nat.not_le.mpr hbl
  intro ν od ct π τ β ch len kd q p le σ nu ρ n ch2 len2 hI hn hch hlen H locs hP hD hS ls hl
  subst hn; subst hch; subst hlen
  refine lv_aload_n hx hb dL_law_1030 rfl (lv_at hl 1 rfl) ?_
  refine lv_aload_n hx hb dL_law_1031 rfl (lv_at hl 0 rfl) ?_
  refine lv_iload_n hx hb dL_law_1032 rfl (lv_at hl 3 rfl) ?_
  refine lv_iconst (v := nI 1) hx hb dL_law_1033 (by decide) ?_
  refine fr_iadd (i) (1) hx hb dL_law_1034 ?_
  refine fr_sld (i + 1) hx hb hX hbl hbA hS (by omega) hL dL_law_1035 ?_
  refine fr_Vi (As := [.int (xs (i + 1))]) (rest := []) (fs' := [[(((AD 8) 0), .inr (5, [.ref ((AD 0) 0), .ref ((AD 1) 0), .ref ((AD 8) 1), .ref ((AD 9) 0), .ref ((AD 7) 0)]))], stW T (AD 0) ν, stW T (AD 1) τ, [(((AD 8) 1), .inr (2, [.ref ((AD 8) 2), .int (nI (od)), .int (nI (ct))]))], [(((AD 8) 2), .inl (T 3, 5, .inr (.inr (.inr (.inr (plA AD))))))], stW T (AD 2) (π 0), stW T (AD 3) (π 1), stW T (AD 4) (π 2), stW T (AD 5) (π 3), stW T (AD 6) (π 4), [(((AD 9) 0), .inr (4, [.ref ((AD 9) 1), .int (nI (len)), .int (nI (q.1)), .int (nI (kd)), .ref ((AD 9) 2), .int (nI (q.2.2))]))], [(((AD 9) 1), .inl (T 2, 90, .inl (nf ch)))], [(((AD 9) 2), .inl (T 0, 5, .inl (nf q.2.1)))], blW T (AD 7) β, [((md 0), .inr (6, [.ref (md 1), .int (nI (ct)), .ref (md 2), .int (nI (len)), .int (nI (p)), .int (nI (le)), .ref (md 3), .ref (md 4)]))], [((md 1), .inl (T 0, 1872, .inl (σ)))], [((md 2), .inl (T 0, 90, .inl (nf ch)))], [((md 3), .inl (T 0, 5, .inl (nf nu)))], [((md 4), .inl (T 0, 48, .inl (ρ)))]]) (ci := 5) (q0 := (RX5, TX5, 5)) (i0 := 0) ⟨hx, hb, hml, hown, hts⟩ (kX5_mirrorValue_o l D T Z AD ν (xs (i + 1))) (cwV 1 hts gL_law_X5_mirrorValue rfl rfl rfl (by decide +kernel) ⟨Nat.le_of_ble_eq_true rfl, Nat.le_of_ble_eq_true rfl⟩) hK hN hM hP hD hS hA [1, 0] rfl rfl rfl rfl rfl rfl hl.1 rfl (Nat.le_of_ble_eq_true rfl) dL_law_1036 ⟨Nat.le_of_ble_eq_true rfl, Nat.le_of_ble_eq_true rfl⟩ (fun H locs hP hD hS => ?_)
  refine lv_aload_n hx hb dL_law_1039 rfl (lv_at hl 2 rfl) ?_
  refine lv_aload_n hx hb dL_law_1040 rfl (lv_at hl 0 rfl) ?_
  refine lv_iload_n hx hb dL_law_1041 rfl (lv_at hl 3 rfl) ?_
  refine lv_iconst (v := nI 1) hx hb dL_law_1042 (by decide) ?_
  refine fr_iadd (i) (1) hx hb dL_law_1043 ?_
  refine fr_sld (i + 1) hx hb hX hbl hbA hS (by omega) hL dL_law_1044 ?_
  refine fr_Vi (As := [.int (xs (i + 1))]) (rest := [.int (if iN (xs (i + 1)) 32 then (if bz (ν 9 (tn (xs (i + 1)) / 4)) then ν 3 (tn (xs (i + 1))) else -6) else -1)]) (fs' := [[(((AD 8) 0), .inr (5, [.ref ((AD 0) 0), .ref ((AD 1) 0), .ref ((AD 8) 1), .ref ((AD 9) 0), .ref ((AD 7) 0)]))], stW T (AD 0) ν, stW T (AD 1) τ, [(((AD 8) 1), .inr (2, [.ref ((AD 8) 2), .int (nI (od)), .int (nI (ct))]))], [(((AD 8) 2), .inl (T 3, 5, .inr (.inr (.inr (.inr (plA AD))))))], stW T (AD 2) (π 0), stW T (AD 3) (π 1), stW T (AD 4) (π 2), stW T (AD 5) (π 3), stW T (AD 6) (π 4), [(((AD 9) 0), .inr (4, [.ref ((AD 9) 1), .int (nI (len)), .int (nI (q.1)), .int (nI (kd)), .ref ((AD 9) 2), .int (nI (q.2.2))]))], [(((AD 9) 1), .inl (T 2, 90, .inl (nf ch)))], [(((AD 9) 2), .inl (T 0, 5, .inl (nf q.2.1)))], blW T (AD 7) β, [((md 0), .inr (6, [.ref (md 1), .int (nI (ct)), .ref (md 2), .int (nI (len)), .int (nI (p)), .int (nI (le)), .ref (md 3), .ref (md 4)]))], [((md 1), .inl (T 0, 1872, .inl (σ)))], [((md 2), .inl (T 0, 90, .inl (nf ch)))], [((md 3), .inl (T 0, 5, .inl (nf nu)))], [((md 4), .inl (T 0, 48, .inl (ρ)))]]) (ci := 6) (q0 := (RX6, TX6, 8)) (i0 := 14) ⟨hx, hb, hml, hown, hts⟩ (kX6_mirrorValue l D T Z md ct len p le σ (xs (i + 1))) (cwV 1 hts gL_law_X6_mirrorValue rfl rfl rfl (by decide +kernel) ⟨Nat.le_of_ble_eq_true rfl, Nat.le_of_ble_eq_true rfl⟩) hK hN hM hP hD hS hA [14, 15] rfl rfl rfl rfl rfl rfl hl.1 rfl (Nat.le_of_ble_eq_true rfl) dL_law_1045 ⟨Nat.le_of_ble_eq_true rfl, Nat.le_of_ble_eq_true rfl⟩ (fun H locs hP hD hS => ?_)
  have hE9 := q_mirrorValue (w := xs (i + 1)) hI.1.1
  refine lv_icmp_eq (tgt := 1526) hx hb dL_law_1048 (by decide) (fun _ => ?_) (fun z => absurd hE9 z)
  exact hn9 _ _ _ π _ _ _ _ _ _ _ _ _ _ _ _ _ _ hI rfl rfl rfl _ _ hP hD hS ls (lv_sub hl [0, 1, 2, 3] rfl)

set_option maxHeartbeats 8000000 in
set_option maxRecDepth 100000 in
theorem lc_25 (l : Launch) (pP : Program) (eE : Env) (s : State) (mM : MethodId) (bW : List Frame) (mE : Method) (cC : Code) (b L : Nat) (xs : Nat → Int32) (D : va_G) (T : Nat → ClassId) (Z : ZZ) (AD : Nat → Nat → Nat) (md : Nat → Nat) (i : Nat) (hi9 : i + 6 ≤ L) (hC : LC pP s mM cC b L xs D T Z) (hn9 : LWat l pP eE s mM bW mE cC b L xs D T Z AD md i 1526) : LWat l pP eE s mM bW mE cC b L xs D T Z AD md i 1053 := by
  obtain ⟨hx, hb, hml, hown, hts, hK, hN, hM, hX, hbl, hL⟩ := hC
  have hA : ∀ q : Nat, s.heap.size ≤ q → (fun q : Nat => s.heap.size ≤ q) q := fun _ h => h
  have hbA : ¬ (fun q : Nat => s.heap.size ≤ q) b := Nat.not_le.mpr hbl
  intro ν od ct π τ β ch len kd q p le σ nu ρ n ch2 len2 hI hn hch hlen H locs hP hD hS ls hl
  subst hn; subst hch; subst hlen
  refine lv_aload_n hx hb dL_law_1053 rfl (lv_at hl 1 rfl) ?_
  refine lv_aload_n hx hb dL_law_1054 rfl (lv_at hl 0 rfl) ?_
  refine lv_iload_n hx hb dL_law_1055 rfl (lv_at hl 3 rfl) ?_
  refine lv_iconst (v := nI 1) hx hb dL_law_1056 (by decide) ?_
  refine fr_iadd (i) (1) hx hb dL_law_1057 ?_
  refine fr_sld (i + 1) hx hb hX hbl hbA hS (by omega) hL dL_law_1058 ?_
  refine fr_Vi (As := [.int (xs (i + 1))]) (rest := []) (fs' := [[(((AD 8) 0), .inr (5, [.ref ((AD 0) 0), .ref ((AD 1) 0), .ref ((AD 8) 1), .ref ((AD 9) 0), .ref ((AD 7) 0)]))], stW T (AD 0) ν, stW T (AD 1) τ, [(((AD 8) 1), .inr (2, [.ref ((AD 8) 2), .int (nI (od)), .int (nI (ct))]))], [(((AD 8) 2), .inl (T 3, 5, .inr (.inr (.inr (.inr (plA AD))))))], stW T (AD 2) (π 0), stW T (AD 3) (π 1), stW T (AD 4) (π 2), stW T (AD 5) (π 3), stW T (AD 6) (π 4), [(((AD 9) 0), .inr (4, [.ref ((AD 9) 1), .int (nI (len)), .int (nI (q.1)), .int (nI (kd)), .ref ((AD 9) 2), .int (nI (q.2.2))]))], [(((AD 9) 1), .inl (T 2, 90, .inl (nf ch)))], [(((AD 9) 2), .inl (T 0, 5, .inl (nf q.2.1)))], blW T (AD 7) β, [((md 0), .inr (6, [.ref (md 1), .int (nI (ct)), .ref (md 2), .int (nI (len)), .int (nI (p)), .int (nI (le)), .ref (md 3), .ref (md 4)]))], [((md 1), .inl (T 0, 1872, .inl (σ)))], [((md 2), .inl (T 0, 90, .inl (nf ch)))], [((md 3), .inl (T 0, 5, .inl (nf nu)))], [((md 4), .inl (T 0, 48, .inl (ρ)))]]) (ci := 5) (q0 := (RX5, TX5, 5)) (i0 := 0) ⟨hx, hb, hml, hown, hts⟩ (kX5_mirrorOrigin_o l D T Z AD ν (xs (i + 1))) (cwV 1 hts gL_law_X5_mirrorOrigin rfl rfl rfl (by decide +kernel) ⟨Nat.le_of_ble_eq_true rfl, Nat.le_of_ble_eq_true rfl⟩) hK hN hM hP hD hS hA [1, 0] rfl rfl rfl rfl rfl rfl hl.1 rfl (Nat.le_of_ble_eq_true rfl) dL_law_1059 ⟨Nat.le_of_ble_eq_true rfl, Nat.le_of_ble_eq_true rfl⟩ (fun H locs hP hD hS => ?_)
  refine lv_aload_n hx hb dL_law_1062 rfl (lv_at hl 2 rfl) ?_
  refine lv_aload_n hx hb dL_law_1063 rfl (lv_at hl 0 rfl) ?_
  refine lv_iload_n hx hb dL_law_1064 rfl (lv_at hl 3 rfl) ?_
  refine lv_iconst (v := nI 1) hx hb dL_law_1065 (by decide) ?_
  refine fr_iadd (i) (1) hx hb dL_law_1066 ?_
  refine fr_sld (i + 1) hx hb hX hbl hbA hS (by omega) hL dL_law_1067 ?_
  refine fr_Vi (As := [.int (xs (i + 1))]) (rest := [.int (if iN (xs (i + 1)) 32 then (if bz (ν 9 (tn (xs (i + 1)) / 4)) then ν 4 (tn (xs (i + 1))) else -6) else -1)]) (fs' := [[(((AD 8) 0), .inr (5, [.ref ((AD 0) 0), .ref ((AD 1) 0), .ref ((AD 8) 1), .ref ((AD 9) 0), .ref ((AD 7) 0)]))], stW T (AD 0) ν, stW T (AD 1) τ, [(((AD 8) 1), .inr (2, [.ref ((AD 8) 2), .int (nI (od)), .int (nI (ct))]))], [(((AD 8) 2), .inl (T 3, 5, .inr (.inr (.inr (.inr (plA AD))))))], stW T (AD 2) (π 0), stW T (AD 3) (π 1), stW T (AD 4) (π 2), stW T (AD 5) (π 3), stW T (AD 6) (π 4), [(((AD 9) 0), .inr (4, [.ref ((AD 9) 1), .int (nI (len)), .int (nI (q.1)), .int (nI (kd)), .ref ((AD 9) 2), .int (nI (q.2.2))]))], [(((AD 9) 1), .inl (T 2, 90, .inl (nf ch)))], [(((AD 9) 2), .inl (T 0, 5, .inl (nf q.2.1)))], blW T (AD 7) β, [((md 0), .inr (6, [.ref (md 1), .int (nI (ct)), .ref (md 2), .int (nI (len)), .int (nI (p)), .int (nI (le)), .ref (md 3), .ref (md 4)]))], [((md 1), .inl (T 0, 1872, .inl (σ)))], [((md 2), .inl (T 0, 90, .inl (nf ch)))], [((md 3), .inl (T 0, 5, .inl (nf nu)))], [((md 4), .inl (T 0, 48, .inl (ρ)))]]) (ci := 6) (q0 := (RX6, TX6, 8)) (i0 := 14) ⟨hx, hb, hml, hown, hts⟩ (kX6_mirrorOrigin l D T Z md ct len p le σ (xs (i + 1))) (cwV 1 hts gL_law_X6_mirrorOrigin rfl rfl rfl (by decide +kernel) ⟨Nat.le_of_ble_eq_true rfl, Nat.le_of_ble_eq_true rfl⟩) hK hN hM hP hD hS hA [14, 15] rfl rfl rfl rfl rfl rfl hl.1 rfl (Nat.le_of_ble_eq_true rfl) dL_law_1068 ⟨Nat.le_of_ble_eq_true rfl, Nat.le_of_ble_eq_true rfl⟩ (fun H locs hP hD hS => ?_)
  have hE9 := q_mirrorOrigin (w := xs (i + 1)) hI.1.1
  refine lv_icmp_eq (tgt := 1526) hx hb dL_law_1071 (by decide) (fun _ => ?_) (fun z => absurd hE9 z)
  exact hn9 _ _ _ π _ _ _ _ _ _ _ _ _ _ _ _ _ _ hI rfl rfl rfl _ _ hP hD hS ls (lv_sub hl [0, 1, 2, 3] rfl)

set_option maxHeartbeats 8000000 in
set_option maxRecDepth 100000 in
theorem lc_26 (l : Launch) (pP : Program) (eE : Env) (s : State) (mM : MethodId) (bW : List Frame) (mE : Method) (cC : Code) (b L : Nat) (xs : Nat → Int32) (D : va_G) (T : Nat → ClassId) (Z : ZZ) (AD : Nat → Nat → Nat) (md : Nat → Nat) (i : Nat) (hi9 : i + 6 ≤ L) (hC : LC pP s mM cC b L xs D T Z) (hn9 : LWat l pP eE s mM bW mE cC b L xs D T Z AD md i 1526) : LWat l pP eE s mM bW mE cC b L xs D T Z AD md i 1076 := by
  obtain ⟨hx, hb, hml, hown, hts, hK, hN, hM, hX, hbl, hL⟩ := hC
  have hA : ∀ q : Nat, s.heap.size ≤ q → (fun q : Nat => s.heap.size ≤ q) q := fun _ h => h
  have hbA : ¬ (fun q : Nat => s.heap.size ≤ q) b := Nat.not_le.mpr hbl
  intro ν od ct π τ β ch len kd q p le σ nu ρ n ch2 len2 hI hn hch hlen H locs hP hD hS ls hl
  subst hn; subst hch; subst hlen
  refine lv_aload_n hx hb dL_law_1076 rfl (lv_at hl 1 rfl) ?_
  refine lv_aload_n hx hb dL_law_1077 rfl (lv_at hl 0 rfl) ?_
  refine lv_iload_n hx hb dL_law_1078 rfl (lv_at hl 3 rfl) ?_
  refine lv_iconst (v := nI 1) hx hb dL_law_1079 (by decide) ?_
  refine fr_iadd (i) (1) hx hb dL_law_1080 ?_
  refine fr_sld (i + 1) hx hb hX hbl hbA hS (by omega) hL dL_law_1081 ?_
  refine lv_aload_n hx hb dL_law_1082 rfl (lv_at hl 0 rfl) ?_
  refine lv_iload_n hx hb dL_law_1083 rfl (lv_at hl 3 rfl) ?_
  refine lv_iconst (v := nI 2) hx hb dL_law_1084 (by decide) ?_
  refine fr_iadd (i) (2) hx hb dL_law_1085 ?_
  refine fr_sld (i + 2) hx hb hX hbl hbA hS (by omega) hL dL_law_1086 ?_
  refine fr_Vi (As := [.int (xs (i + 1)), .int (xs (i + 2))]) (rest := []) (fs' := [[(((AD 8) 0), .inr (5, [.ref ((AD 0) 0), .ref ((AD 1) 0), .ref ((AD 8) 1), .ref ((AD 9) 0), .ref ((AD 7) 0)]))], stW T (AD 0) ν, stW T (AD 1) τ, [(((AD 8) 1), .inr (2, [.ref ((AD 8) 2), .int (nI (od)), .int (nI (ct))]))], [(((AD 8) 2), .inl (T 3, 5, .inr (.inr (.inr (.inr (plA AD))))))], stW T (AD 2) (π 0), stW T (AD 3) (π 1), stW T (AD 4) (π 2), stW T (AD 5) (π 3), stW T (AD 6) (π 4), [(((AD 9) 0), .inr (4, [.ref ((AD 9) 1), .int (nI (len)), .int (nI (q.1)), .int (nI (kd)), .ref ((AD 9) 2), .int (nI (q.2.2))]))], [(((AD 9) 1), .inl (T 2, 90, .inl (nf ch)))], [(((AD 9) 2), .inl (T 0, 5, .inl (nf q.2.1)))], blW T (AD 7) β, [((md 0), .inr (6, [.ref (md 1), .int (nI (ct)), .ref (md 2), .int (nI (len)), .int (nI (p)), .int (nI (le)), .ref (md 3), .ref (md 4)]))], [((md 1), .inl (T 0, 1872, .inl (σ)))], [((md 2), .inl (T 0, 90, .inl (nf ch)))], [((md 3), .inl (T 0, 5, .inl (nf nu)))], [((md 4), .inl (T 0, 48, .inl (ρ)))]]) (ci := 5) (q0 := (RX5, TX5, 5)) (i0 := 0) ⟨hx, hb, hml, hown, hts⟩ (kX5_register_o l D T Z AD ν (xs (i + 1)) (xs (i + 2))) (cwV 2 hts gL_law_X5_register rfl rfl rfl (by decide +kernel) ⟨Nat.le_of_ble_eq_true rfl, Nat.le_of_ble_eq_true rfl⟩) hK hN hM hP hD hS hA [1, 0] rfl rfl rfl rfl rfl rfl hl.1 rfl (Nat.le_of_ble_eq_true rfl) dL_law_1087 ⟨Nat.le_of_ble_eq_true rfl, Nat.le_of_ble_eq_true rfl⟩ (fun H locs hP hD hS => ?_)
  refine lv_aload_n hx hb dL_law_1090 rfl (lv_at hl 2 rfl) ?_
  refine lv_aload_n hx hb dL_law_1091 rfl (lv_at hl 0 rfl) ?_
  refine lv_iload_n hx hb dL_law_1092 rfl (lv_at hl 3 rfl) ?_
  refine lv_iconst (v := nI 1) hx hb dL_law_1093 (by decide) ?_
  refine fr_iadd (i) (1) hx hb dL_law_1094 ?_
  refine fr_sld (i + 1) hx hb hX hbl hbA hS (by omega) hL dL_law_1095 ?_
  refine lv_aload_n hx hb dL_law_1096 rfl (lv_at hl 0 rfl) ?_
  refine lv_iload_n hx hb dL_law_1097 rfl (lv_at hl 3 rfl) ?_
  refine lv_iconst (v := nI 2) hx hb dL_law_1098 (by decide) ?_
  refine fr_iadd (i) (2) hx hb dL_law_1099 ?_
  refine fr_sld (i + 2) hx hb hX hbl hbA hS (by omega) hL dL_law_1100 ?_
  refine fr_Vi (As := [.int (xs (i + 1)), .int (xs (i + 2))]) (rest := [.int (if iN (xs (i + 1)) 4 && iN (xs (i + 2)) 4 then ν 6 (tn (xs (i + 1)) * 4 + tn (xs (i + 2))) else -1)]) (fs' := [[(((AD 8) 0), .inr (5, [.ref ((AD 0) 0), .ref ((AD 1) 0), .ref ((AD 8) 1), .ref ((AD 9) 0), .ref ((AD 7) 0)]))], stW T (AD 0) ν, stW T (AD 1) τ, [(((AD 8) 1), .inr (2, [.ref ((AD 8) 2), .int (nI (od)), .int (nI (ct))]))], [(((AD 8) 2), .inl (T 3, 5, .inr (.inr (.inr (.inr (plA AD))))))], stW T (AD 2) (π 0), stW T (AD 3) (π 1), stW T (AD 4) (π 2), stW T (AD 5) (π 3), stW T (AD 6) (π 4), [(((AD 9) 0), .inr (4, [.ref ((AD 9) 1), .int (nI (len)), .int (nI (q.1)), .int (nI (kd)), .ref ((AD 9) 2), .int (nI (q.2.2))]))], [(((AD 9) 1), .inl (T 2, 90, .inl (nf ch)))], [(((AD 9) 2), .inl (T 0, 5, .inl (nf q.2.1)))], blW T (AD 7) β, [((md 0), .inr (6, [.ref (md 1), .int (nI (ct)), .ref (md 2), .int (nI (len)), .int (nI (p)), .int (nI (le)), .ref (md 3), .ref (md 4)]))], [((md 1), .inl (T 0, 1872, .inl (σ)))], [((md 2), .inl (T 0, 90, .inl (nf ch)))], [((md 3), .inl (T 0, 5, .inl (nf nu)))], [((md 4), .inl (T 0, 48, .inl (ρ)))]]) (ci := 6) (q0 := (RX6, TX6, 8)) (i0 := 14) ⟨hx, hb, hml, hown, hts⟩ (kX6_register l D T Z md ct len p le σ (xs (i + 1)) (xs (i + 2))) (cwV 2 hts gL_law_X6_register rfl rfl rfl (by decide +kernel) ⟨Nat.le_of_ble_eq_true rfl, Nat.le_of_ble_eq_true rfl⟩) hK hN hM hP hD hS hA [14, 15] rfl rfl rfl rfl rfl rfl hl.1 rfl (Nat.le_of_ble_eq_true rfl) dL_law_1101 ⟨Nat.le_of_ble_eq_true rfl, Nat.le_of_ble_eq_true rfl⟩ (fun H locs hP hD hS => ?_)
  have hE9 := q_register (t := xs (i + 1)) (r := xs (i + 2)) hI.1.1
  refine lv_icmp_eq (tgt := 1526) hx hb dL_law_1104 (by decide) (fun _ => ?_) (fun z => absurd hE9 z)
  exact hn9 _ _ _ π _ _ _ _ _ _ _ _ _ _ _ _ _ _ hI rfl rfl rfl _ _ hP hD hS ls (lv_sub hl [0, 1, 2, 3] rfl)

set_option maxHeartbeats 8000000 in
set_option maxRecDepth 100000 in
theorem lc_27 (l : Launch) (pP : Program) (eE : Env) (s : State) (mM : MethodId) (bW : List Frame) (mE : Method) (cC : Code) (b L : Nat) (xs : Nat → Int32) (D : va_G) (T : Nat → ClassId) (Z : ZZ) (AD : Nat → Nat → Nat) (md : Nat → Nat) (i : Nat) (hi9 : i + 6 ≤ L) (hC : LC pP s mM cC b L xs D T Z) (hn9 : LWat l pP eE s mM bW mE cC b L xs D T Z AD md i 1526) : LWat l pP eE s mM bW mE cC b L xs D T Z AD md i 1109 := by
  obtain ⟨hx, hb, hml, hown, hts, hK, hN, hM, hX, hbl, hL⟩ := hC
  have hA : ∀ q : Nat, s.heap.size ≤ q → (fun q : Nat => s.heap.size ≤ q) q := fun _ h => h
  have hbA : ¬ (fun q : Nat => s.heap.size ≤ q) b := Nat.not_le.mpr hbl
  intro ν od ct π τ β ch len kd q p le σ nu ρ n ch2 len2 hI hn hch hlen H locs hP hD hS ls hl
  subst hn; subst hch; subst hlen
  refine lv_aload_n hx hb dL_law_1109 rfl (lv_at hl 1 rfl) ?_
  refine lv_aload_n hx hb dL_law_1110 rfl (lv_at hl 0 rfl) ?_
  refine lv_iload_n hx hb dL_law_1111 rfl (lv_at hl 3 rfl) ?_
  refine lv_iconst (v := nI 1) hx hb dL_law_1112 (by decide) ?_
  refine fr_iadd (i) (1) hx hb dL_law_1113 ?_
  refine fr_sld (i + 1) hx hb hX hbl hbA hS (by omega) hL dL_law_1114 ?_
  refine lv_aload_n hx hb dL_law_1115 rfl (lv_at hl 0 rfl) ?_
  refine lv_iload_n hx hb dL_law_1116 rfl (lv_at hl 3 rfl) ?_
  refine lv_iconst (v := nI 2) hx hb dL_law_1117 (by decide) ?_
  refine fr_iadd (i) (2) hx hb dL_law_1118 ?_
  refine fr_sld (i + 2) hx hb hX hbl hbA hS (by omega) hL dL_law_1119 ?_
  refine fr_Vi (As := [.int (xs (i + 1)), .int (xs (i + 2))]) (rest := []) (fs' := [[(((AD 8) 0), .inr (5, [.ref ((AD 0) 0), .ref ((AD 1) 0), .ref ((AD 8) 1), .ref ((AD 9) 0), .ref ((AD 7) 0)]))], stW T (AD 0) ν, stW T (AD 1) τ, [(((AD 8) 1), .inr (2, [.ref ((AD 8) 2), .int (nI (od)), .int (nI (ct))]))], [(((AD 8) 2), .inl (T 3, 5, .inr (.inr (.inr (.inr (plA AD))))))], stW T (AD 2) (π 0), stW T (AD 3) (π 1), stW T (AD 4) (π 2), stW T (AD 5) (π 3), stW T (AD 6) (π 4), [(((AD 9) 0), .inr (4, [.ref ((AD 9) 1), .int (nI (len)), .int (nI (q.1)), .int (nI (kd)), .ref ((AD 9) 2), .int (nI (q.2.2))]))], [(((AD 9) 1), .inl (T 2, 90, .inl (nf ch)))], [(((AD 9) 2), .inl (T 0, 5, .inl (nf q.2.1)))], blW T (AD 7) β, [((md 0), .inr (6, [.ref (md 1), .int (nI (ct)), .ref (md 2), .int (nI (len)), .int (nI (p)), .int (nI (le)), .ref (md 3), .ref (md 4)]))], [((md 1), .inl (T 0, 1872, .inl (σ)))], [((md 2), .inl (T 0, 90, .inl (nf ch)))], [((md 3), .inl (T 0, 5, .inl (nf nu)))], [((md 4), .inl (T 0, 48, .inl (ρ)))]]) (ci := 5) (q0 := (RX5, TX5, 5)) (i0 := 0) ⟨hx, hb, hml, hown, hts⟩ (kX5_registerOrigin_o l D T Z AD ν (xs (i + 1)) (xs (i + 2))) (cwV 2 hts gL_law_X5_registerOrigin rfl rfl rfl (by decide +kernel) ⟨Nat.le_of_ble_eq_true rfl, Nat.le_of_ble_eq_true rfl⟩) hK hN hM hP hD hS hA [1, 0] rfl rfl rfl rfl rfl rfl hl.1 rfl (Nat.le_of_ble_eq_true rfl) dL_law_1120 ⟨Nat.le_of_ble_eq_true rfl, Nat.le_of_ble_eq_true rfl⟩ (fun H locs hP hD hS => ?_)
  refine lv_aload_n hx hb dL_law_1123 rfl (lv_at hl 2 rfl) ?_
  refine lv_aload_n hx hb dL_law_1124 rfl (lv_at hl 0 rfl) ?_
  refine lv_iload_n hx hb dL_law_1125 rfl (lv_at hl 3 rfl) ?_
  refine lv_iconst (v := nI 1) hx hb dL_law_1126 (by decide) ?_
  refine fr_iadd (i) (1) hx hb dL_law_1127 ?_
  refine fr_sld (i + 1) hx hb hX hbl hbA hS (by omega) hL dL_law_1128 ?_
  refine lv_aload_n hx hb dL_law_1129 rfl (lv_at hl 0 rfl) ?_
  refine lv_iload_n hx hb dL_law_1130 rfl (lv_at hl 3 rfl) ?_
  refine lv_iconst (v := nI 2) hx hb dL_law_1131 (by decide) ?_
  refine fr_iadd (i) (2) hx hb dL_law_1132 ?_
  refine fr_sld (i + 2) hx hb hX hbl hbA hS (by omega) hL dL_law_1133 ?_
  refine fr_Vi (As := [.int (xs (i + 1)), .int (xs (i + 2))]) (rest := [.int (if iN (xs (i + 1)) 4 && iN (xs (i + 2)) 4 then ν 7 (tn (xs (i + 1)) * 4 + tn (xs (i + 2))) else -1)]) (fs' := [[(((AD 8) 0), .inr (5, [.ref ((AD 0) 0), .ref ((AD 1) 0), .ref ((AD 8) 1), .ref ((AD 9) 0), .ref ((AD 7) 0)]))], stW T (AD 0) ν, stW T (AD 1) τ, [(((AD 8) 1), .inr (2, [.ref ((AD 8) 2), .int (nI (od)), .int (nI (ct))]))], [(((AD 8) 2), .inl (T 3, 5, .inr (.inr (.inr (.inr (plA AD))))))], stW T (AD 2) (π 0), stW T (AD 3) (π 1), stW T (AD 4) (π 2), stW T (AD 5) (π 3), stW T (AD 6) (π 4), [(((AD 9) 0), .inr (4, [.ref ((AD 9) 1), .int (nI (len)), .int (nI (q.1)), .int (nI (kd)), .ref ((AD 9) 2), .int (nI (q.2.2))]))], [(((AD 9) 1), .inl (T 2, 90, .inl (nf ch)))], [(((AD 9) 2), .inl (T 0, 5, .inl (nf q.2.1)))], blW T (AD 7) β, [((md 0), .inr (6, [.ref (md 1), .int (nI (ct)), .ref (md 2), .int (nI (len)), .int (nI (p)), .int (nI (le)), .ref (md 3), .ref (md 4)]))], [((md 1), .inl (T 0, 1872, .inl (σ)))], [((md 2), .inl (T 0, 90, .inl (nf ch)))], [((md 3), .inl (T 0, 5, .inl (nf nu)))], [((md 4), .inl (T 0, 48, .inl (ρ)))]]) (ci := 6) (q0 := (RX6, TX6, 8)) (i0 := 14) ⟨hx, hb, hml, hown, hts⟩ (kX6_registerOrigin l D T Z md ct len p le σ (xs (i + 1)) (xs (i + 2))) (cwV 2 hts gL_law_X6_registerOrigin rfl rfl rfl (by decide +kernel) ⟨Nat.le_of_ble_eq_true rfl, Nat.le_of_ble_eq_true rfl⟩) hK hN hM hP hD hS hA [14, 15] rfl rfl rfl rfl rfl rfl hl.1 rfl (Nat.le_of_ble_eq_true rfl) dL_law_1134 ⟨Nat.le_of_ble_eq_true rfl, Nat.le_of_ble_eq_true rfl⟩ (fun H locs hP hD hS => ?_)
  have hE9 := q_registerOrigin (t := xs (i + 1)) (r := xs (i + 2)) hI.1.1
  refine lv_icmp_eq (tgt := 1526) hx hb dL_law_1137 (by decide) (fun _ => ?_) (fun z => absurd hE9 z)
  exact hn9 _ _ _ π _ _ _ _ _ _ _ _ _ _ _ _ _ _ hI rfl rfl rfl _ _ hP hD hS ls (lv_sub hl [0, 1, 2, 3] rfl)

set_option maxHeartbeats 8000000 in
set_option maxRecDepth 100000 in
theorem lc_28 (l : Launch) (pP : Program) (eE : Env) (s : State) (mM : MethodId) (bW : List Frame) (mE : Method) (cC : Code) (b L : Nat) (xs : Nat → Int32) (D : va_G) (T : Nat → ClassId) (Z : ZZ) (AD : Nat → Nat → Nat) (md : Nat → Nat) (i : Nat) (hi9 : i + 6 ≤ L) (hC : LC pP s mM cC b L xs D T Z) (hn9 : LWat l pP eE s mM bW mE cC b L xs D T Z AD md i 1526) : LWat l pP eE s mM bW mE cC b L xs D T Z AD md i 1142 := by
  obtain ⟨hx, hb, hml, hown, hts, hK, hN, hM, hX, hbl, hL⟩ := hC
  have hA : ∀ q : Nat, s.heap.size ≤ q → (fun q : Nat => s.heap.size ≤ q) q := fun _ h => h
  have hbA : ¬ (fun q : Nat => s.heap.size ≤ q) b := Nat.not_le.mpr hbl
  intro ν od ct π τ β ch len kd q p le σ nu ρ n ch2 len2 hI hn hch hlen H locs hP hD hS ls hl
  subst hn; subst hch; subst hlen
  refine lv_aload_n hx hb dL_law_1142 rfl (lv_at hl 1 rfl) ?_
  refine lv_aload_n hx hb dL_law_1143 rfl (lv_at hl 0 rfl) ?_
  refine lv_iload_n hx hb dL_law_1144 rfl (lv_at hl 3 rfl) ?_
  refine lv_iconst (v := nI 1) hx hb dL_law_1145 (by decide) ?_
  refine fr_iadd (i) (1) hx hb dL_law_1146 ?_
  refine fr_sld (i + 1) hx hb hX hbl hbA hS (by omega) hL dL_law_1147 ?_
  refine lv_aload_n hx hb dL_law_1148 rfl (lv_at hl 0 rfl) ?_
  refine lv_iload_n hx hb dL_law_1149 rfl (lv_at hl 3 rfl) ?_
  refine lv_iconst (v := nI 2) hx hb dL_law_1150 (by decide) ?_
  refine fr_iadd (i) (2) hx hb dL_law_1151 ?_
  refine fr_sld (i + 2) hx hb hX hbl hbA hS (by omega) hL dL_law_1152 ?_
  refine fr_Vi (As := [.int (xs (i + 1)), .int (xs (i + 2))]) (rest := []) (fs' := [[(((AD 8) 0), .inr (5, [.ref ((AD 0) 0), .ref ((AD 1) 0), .ref ((AD 8) 1), .ref ((AD 9) 0), .ref ((AD 7) 0)]))], stW T (AD 0) ν, stW T (AD 1) τ, [(((AD 8) 1), .inr (2, [.ref ((AD 8) 2), .int (nI (od)), .int (nI (ct))]))], [(((AD 8) 2), .inl (T 3, 5, .inr (.inr (.inr (.inr (plA AD))))))], stW T (AD 2) (π 0), stW T (AD 3) (π 1), stW T (AD 4) (π 2), stW T (AD 5) (π 3), stW T (AD 6) (π 4), [(((AD 9) 0), .inr (4, [.ref ((AD 9) 1), .int (nI (len)), .int (nI (q.1)), .int (nI (kd)), .ref ((AD 9) 2), .int (nI (q.2.2))]))], [(((AD 9) 1), .inl (T 2, 90, .inl (nf ch)))], [(((AD 9) 2), .inl (T 0, 5, .inl (nf q.2.1)))], blW T (AD 7) β, [((md 0), .inr (6, [.ref (md 1), .int (nI (ct)), .ref (md 2), .int (nI (len)), .int (nI (p)), .int (nI (le)), .ref (md 3), .ref (md 4)]))], [((md 1), .inl (T 0, 1872, .inl (σ)))], [((md 2), .inl (T 0, 90, .inl (nf ch)))], [((md 3), .inl (T 0, 5, .inl (nf nu)))], [((md 4), .inl (T 0, 48, .inl (ρ)))]]) (ci := 5) (q0 := (RX5, TX5, 5)) (i0 := 0) ⟨hx, hb, hml, hown, hts⟩ (kX5_registerHops_o l D T Z AD ν (xs (i + 1)) (xs (i + 2))) (cwV 2 hts gL_law_X5_registerHops rfl rfl rfl (by decide +kernel) ⟨Nat.le_of_ble_eq_true rfl, Nat.le_of_ble_eq_true rfl⟩) hK hN hM hP hD hS hA [1, 0] rfl rfl rfl rfl rfl rfl hl.1 rfl (Nat.le_of_ble_eq_true rfl) dL_law_1153 ⟨Nat.le_of_ble_eq_true rfl, Nat.le_of_ble_eq_true rfl⟩ (fun H locs hP hD hS => ?_)
  refine lv_aload_n hx hb dL_law_1156 rfl (lv_at hl 2 rfl) ?_
  refine lv_aload_n hx hb dL_law_1157 rfl (lv_at hl 0 rfl) ?_
  refine lv_iload_n hx hb dL_law_1158 rfl (lv_at hl 3 rfl) ?_
  refine lv_iconst (v := nI 1) hx hb dL_law_1159 (by decide) ?_
  refine fr_iadd (i) (1) hx hb dL_law_1160 ?_
  refine fr_sld (i + 1) hx hb hX hbl hbA hS (by omega) hL dL_law_1161 ?_
  refine lv_aload_n hx hb dL_law_1162 rfl (lv_at hl 0 rfl) ?_
  refine lv_iload_n hx hb dL_law_1163 rfl (lv_at hl 3 rfl) ?_
  refine lv_iconst (v := nI 2) hx hb dL_law_1164 (by decide) ?_
  refine fr_iadd (i) (2) hx hb dL_law_1165 ?_
  refine fr_sld (i + 2) hx hb hX hbl hbA hS (by omega) hL dL_law_1166 ?_
  refine fr_Vi (As := [.int (xs (i + 1)), .int (xs (i + 2))]) (rest := [.int (if iN (xs (i + 1)) 4 && iN (xs (i + 2)) 4 then ν 8 (tn (xs (i + 1)) * 4 + tn (xs (i + 2))) else -1)]) (fs' := [[(((AD 8) 0), .inr (5, [.ref ((AD 0) 0), .ref ((AD 1) 0), .ref ((AD 8) 1), .ref ((AD 9) 0), .ref ((AD 7) 0)]))], stW T (AD 0) ν, stW T (AD 1) τ, [(((AD 8) 1), .inr (2, [.ref ((AD 8) 2), .int (nI (od)), .int (nI (ct))]))], [(((AD 8) 2), .inl (T 3, 5, .inr (.inr (.inr (.inr (plA AD))))))], stW T (AD 2) (π 0), stW T (AD 3) (π 1), stW T (AD 4) (π 2), stW T (AD 5) (π 3), stW T (AD 6) (π 4), [(((AD 9) 0), .inr (4, [.ref ((AD 9) 1), .int (nI (len)), .int (nI (q.1)), .int (nI (kd)), .ref ((AD 9) 2), .int (nI (q.2.2))]))], [(((AD 9) 1), .inl (T 2, 90, .inl (nf ch)))], [(((AD 9) 2), .inl (T 0, 5, .inl (nf q.2.1)))], blW T (AD 7) β, [((md 0), .inr (6, [.ref (md 1), .int (nI (ct)), .ref (md 2), .int (nI (len)), .int (nI (p)), .int (nI (le)), .ref (md 3), .ref (md 4)]))], [((md 1), .inl (T 0, 1872, .inl (σ)))], [((md 2), .inl (T 0, 90, .inl (nf ch)))], [((md 3), .inl (T 0, 5, .inl (nf nu)))], [((md 4), .inl (T 0, 48, .inl (ρ)))]]) (ci := 6) (q0 := (RX6, TX6, 8)) (i0 := 14) ⟨hx, hb, hml, hown, hts⟩ (kX6_registerHops l D T Z md ct len p le σ (xs (i + 1)) (xs (i + 2))) (cwV 2 hts gL_law_X6_registerHops rfl rfl rfl (by decide +kernel) ⟨Nat.le_of_ble_eq_true rfl, Nat.le_of_ble_eq_true rfl⟩) hK hN hM hP hD hS hA [14, 15] rfl rfl rfl rfl rfl rfl hl.1 rfl (Nat.le_of_ble_eq_true rfl) dL_law_1167 ⟨Nat.le_of_ble_eq_true rfl, Nat.le_of_ble_eq_true rfl⟩ (fun H locs hP hD hS => ?_)
  have hE9 := q_registerHops (t := xs (i + 1)) (r := xs (i + 2)) hI.1.1
  refine lv_icmp_eq (tgt := 1526) hx hb dL_law_1170 (by decide) (fun _ => ?_) (fun z => absurd hE9 z)
  exact hn9 _ _ _ π _ _ _ _ _ _ _ _ _ _ _ _ _ _ hI rfl rfl rfl _ _ hP hD hS ls (lv_sub hl [0, 1, 2, 3] rfl)

set_option maxHeartbeats 8000000 in
set_option maxRecDepth 100000 in
theorem lc_29 (l : Launch) (pP : Program) (eE : Env) (s : State) (mM : MethodId) (bW : List Frame) (mE : Method) (cC : Code) (b L : Nat) (xs : Nat → Int32) (D : va_G) (T : Nat → ClassId) (Z : ZZ) (AD : Nat → Nat → Nat) (md : Nat → Nat) (i : Nat) (hi9 : i + 6 ≤ L) (hC : LC pP s mM cC b L xs D T Z) (hn9 : LWat l pP eE s mM bW mE cC b L xs D T Z AD md i 1526) : LWat l pP eE s mM bW mE cC b L xs D T Z AD md i 1175 := by
  obtain ⟨hx, hb, hml, hown, hts, hK, hN, hM, hX, hbl, hL⟩ := hC
  have hA : ∀ q : Nat, s.heap.size ≤ q → (fun q : Nat => s.heap.size ≤ q) q := fun _ h => h
  have hbA : ¬ (fun q : Nat => s.heap.size ≤ q) b := Nat.not_le.mpr hbl
  intro ν od ct π τ β ch len kd q p le σ nu ρ n ch2 len2 hI hn hch hlen H locs hP hD hS ls hl
  subst hn; subst hch; subst hlen
  refine lv_aload_n hx hb dL_law_1175 rfl (lv_at hl 1 rfl) ?_
  refine lv_aload_n hx hb dL_law_1176 rfl (lv_at hl 0 rfl) ?_
  refine lv_iload_n hx hb dL_law_1177 rfl (lv_at hl 3 rfl) ?_
  refine lv_iconst (v := nI 1) hx hb dL_law_1178 (by decide) ?_
  refine fr_iadd (i) (1) hx hb dL_law_1179 ?_
  refine fr_sld (i + 1) hx hb hX hbl hbA hS (by omega) hL dL_law_1180 ?_
  refine fr_Vi (As := [.int (xs (i + 1))]) (rest := []) (fs' := [[(((AD 8) 0), .inr (5, [.ref ((AD 0) 0), .ref ((AD 1) 0), .ref ((AD 8) 1), .ref ((AD 9) 0), .ref ((AD 7) 0)]))], stW T (AD 0) ν, stW T (AD 1) τ, [(((AD 8) 1), .inr (2, [.ref ((AD 8) 2), .int (nI (od)), .int (nI (ct))]))], [(((AD 8) 2), .inl (T 3, 5, .inr (.inr (.inr (.inr (plA AD))))))], stW T (AD 2) (π 0), stW T (AD 3) (π 1), stW T (AD 4) (π 2), stW T (AD 5) (π 3), stW T (AD 6) (π 4), [(((AD 9) 0), .inr (4, [.ref ((AD 9) 1), .int (nI (len)), .int (nI (q.1)), .int (nI (kd)), .ref ((AD 9) 2), .int (nI (q.2.2))]))], [(((AD 9) 1), .inl (T 2, 90, .inl (nf ch)))], [(((AD 9) 2), .inl (T 0, 5, .inl (nf q.2.1)))], blW T (AD 7) β, [((md 0), .inr (6, [.ref (md 1), .int (nI (ct)), .ref (md 2), .int (nI (len)), .int (nI (p)), .int (nI (le)), .ref (md 3), .ref (md 4)]))], [((md 1), .inl (T 0, 1872, .inl (σ)))], [((md 2), .inl (T 0, 90, .inl (nf ch)))], [((md 3), .inl (T 0, 5, .inl (nf nu)))], [((md 4), .inl (T 0, 48, .inl (ρ)))]]) (ci := 5) (q0 := (RX5, TX5, 5)) (i0 := 0) ⟨hx, hb, hml, hown, hts⟩ (kX5_mode_o l D T Z AD ν (xs (i + 1))) (cwV 1 hts gL_law_X5_mode rfl rfl rfl (by decide +kernel) ⟨Nat.le_of_ble_eq_true rfl, Nat.le_of_ble_eq_true rfl⟩) hK hN hM hP hD hS hA [1, 0] rfl rfl rfl rfl rfl rfl hl.1 rfl (Nat.le_of_ble_eq_true rfl) dL_law_1181 ⟨Nat.le_of_ble_eq_true rfl, Nat.le_of_ble_eq_true rfl⟩ (fun H locs hP hD hS => ?_)
  refine lv_aload_n hx hb dL_law_1184 rfl (lv_at hl 2 rfl) ?_
  refine lv_aload_n hx hb dL_law_1185 rfl (lv_at hl 0 rfl) ?_
  refine lv_iload_n hx hb dL_law_1186 rfl (lv_at hl 3 rfl) ?_
  refine lv_iconst (v := nI 1) hx hb dL_law_1187 (by decide) ?_
  refine fr_iadd (i) (1) hx hb dL_law_1188 ?_
  refine fr_sld (i + 1) hx hb hX hbl hbA hS (by omega) hL dL_law_1189 ?_
  refine fr_Vi (As := [.int (xs (i + 1))]) (rest := [.int (if iN (xs (i + 1)) 4 then ν 10 (tn (xs (i + 1))) else -1)]) (fs' := [[(((AD 8) 0), .inr (5, [.ref ((AD 0) 0), .ref ((AD 1) 0), .ref ((AD 8) 1), .ref ((AD 9) 0), .ref ((AD 7) 0)]))], stW T (AD 0) ν, stW T (AD 1) τ, [(((AD 8) 1), .inr (2, [.ref ((AD 8) 2), .int (nI (od)), .int (nI (ct))]))], [(((AD 8) 2), .inl (T 3, 5, .inr (.inr (.inr (.inr (plA AD))))))], stW T (AD 2) (π 0), stW T (AD 3) (π 1), stW T (AD 4) (π 2), stW T (AD 5) (π 3), stW T (AD 6) (π 4), [(((AD 9) 0), .inr (4, [.ref ((AD 9) 1), .int (nI (len)), .int (nI (q.1)), .int (nI (kd)), .ref ((AD 9) 2), .int (nI (q.2.2))]))], [(((AD 9) 1), .inl (T 2, 90, .inl (nf ch)))], [(((AD 9) 2), .inl (T 0, 5, .inl (nf q.2.1)))], blW T (AD 7) β, [((md 0), .inr (6, [.ref (md 1), .int (nI (ct)), .ref (md 2), .int (nI (len)), .int (nI (p)), .int (nI (le)), .ref (md 3), .ref (md 4)]))], [((md 1), .inl (T 0, 1872, .inl (σ)))], [((md 2), .inl (T 0, 90, .inl (nf ch)))], [((md 3), .inl (T 0, 5, .inl (nf nu)))], [((md 4), .inl (T 0, 48, .inl (ρ)))]]) (ci := 6) (q0 := (RX6, TX6, 8)) (i0 := 14) ⟨hx, hb, hml, hown, hts⟩ (kX6_mode l D T Z md ct len p le σ (xs (i + 1))) (cwV 1 hts gL_law_X6_mode rfl rfl rfl (by decide +kernel) ⟨Nat.le_of_ble_eq_true rfl, Nat.le_of_ble_eq_true rfl⟩) hK hN hM hP hD hS hA [14, 15] rfl rfl rfl rfl rfl rfl hl.1 rfl (Nat.le_of_ble_eq_true rfl) dL_law_1190 ⟨Nat.le_of_ble_eq_true rfl, Nat.le_of_ble_eq_true rfl⟩ (fun H locs hP hD hS => ?_)
  have hE9 := q_mode (t := xs (i + 1)) hI.1.1
  refine lv_icmp_eq (tgt := 1526) hx hb dL_law_1193 (by decide) (fun _ => ?_) (fun z => absurd hE9 z)
  exact hn9 _ _ _ π _ _ _ _ _ _ _ _ _ _ _ _ _ _ hI rfl rfl rfl _ _ hP hD hS ls (lv_sub hl [0, 1, 2, 3] rfl)
