set_option maxHeartbeats 8000000 in
set_option maxRecDepth 100000 in
theorem lc_0 (l : Launch) (pP : Program) (eE : Env) (s : State) (mM : MethodId) (bW : List Frame) (mE : Method) (cC : Code) (b L : Nat) (xs : Nat → Int32) (D : va_G) (T : Nat → ClassId) (Z : ZZ) (AD : Nat → Nat → Nat) (md : Nat → Nat) (i : Nat) (hi9 : i + 6 ≤ L) (hC : LC pP s mM cC b L xs D T Z) (hn9 : LWat l pP eE s mM bW mE cC b L xs D T Z AD md i 1526) : LWat l pP eE s mM bW mE cC b L xs D T Z AD md i 232 := by
  obtain ⟨hx, hb, hml, hown, hts, hK, hN, hM, hX, hbl, hL⟩ := hC
  have hA : ∀ q : Nat, s.heap.size ≤ q → (fun q : Nat => s.heap.size ≤ q) q := fun _ h => h
  have hbA : ¬ (fun q : Nat => s.heap.size ≤ q) b := Nat.not_le.mpr hbl
  intro ν od ct π τ β ch len kd q p le σ nu ρ n ch2 len2 hI hn hch hlen H locs hP hD hS ls hl
  subst hn; subst hch; subst hlen
  refine lv_aload_n hx hb dL_law_232 rfl (lv_at hl 1 rfl) ?_
  refine lv_aload_n hx hb dL_law_233 rfl (lv_at hl 0 rfl) ?_
  refine lv_iload_n hx hb dL_law_234 rfl (lv_at hl 3 rfl) ?_
  refine lv_iconst (v := nI 1) hx hb dL_law_235 (by decide) ?_
  refine fr_iadd (i) (1) hx hb dL_law_236 ?_
  refine fr_sld (i + 1) hx hb hX hbl hbA hS (by omega) hL dL_law_237 ?_
  refine fr_Vi (As := [.int (xs (i + 1))]) (rest := []) (fs' := [[(((AD 8) 0), .inr (5, [.ref ((AD 0) 0), .ref ((AD 1) 0), .ref ((AD 8) 1), .ref ((AD 9) 0), .ref ((AD 7) 0)]))], stW T (AD 0) (s_inj ν (xs (i + 1))), stW T (AD 1) τ, [(((AD 8) 1), .inr (2, [.ref ((AD 8) 2), .int (nI (setO (r_inj ν (xs (i + 1))) od ct)), .int (nI (setC (r_inj ν (xs (i + 1))) ct))]))], [(((AD 8) 2), .inl (T 3, 5, .inr (.inr (.inr (.inr (plA AD))))))], stW T (AD 2) (updP π ((od + ct) % 5) ν 0), stW T (AD 3) (updP π ((od + ct) % 5) ν 1), stW T (AD 4) (updP π ((od + ct) % 5) ν 2), stW T (AD 5) (updP π ((od + ct) % 5) ν 3), stW T (AD 6) (updP π ((od + ct) % 5) ν 4), [(((AD 9) 0), .inr (4, [.ref ((AD 9) 1), .int (nI (len)), .int (nI (q.1)), .int (nI (kd)), .ref ((AD 9) 2), .int (nI (q.2.2))]))], [(((AD 9) 1), .inl (T 2, 90, .inl (nf ch)))], [(((AD 9) 2), .inl (T 0, 5, .inl (nf q.2.1)))], blW T (AD 7) β, [((md 0), .inr (6, [.ref (md 1), .int (nI (ct)), .ref (md 2), .int (nI (len)), .int (nI (p)), .int (nI (le)), .ref (md 3), .ref (md 4)]))], [((md 1), .inl (T 0, 1872, .inl (σ)))], [((md 2), .inl (T 0, 90, .inl (nf ch)))], [((md 3), .inl (T 0, 5, .inl (nf nu)))], [((md 4), .inl (T 0, 48, .inl (ρ)))]]) (ci := 5) (q0 := (RX5, TX5, 5)) (i0 := 0) ⟨hx, hb, hml, hown, hts⟩ (kX5_inject l D T Z AD od ct π ν (xs (i + 1)) hI.1.2.2.1 hI.1.2.2.2 hI.hi) (cwV 1 hts gL_law_X5_inject rfl rfl rfl (by decide +kernel) ⟨Nat.le_of_ble_eq_true rfl, Nat.le_of_ble_eq_true rfl⟩) hK hN hM hP hD hS hA [0, 3, 4, 5, 6, 7, 8, 9, 1] rfl rfl rfl rfl rfl rfl hl.1 rfl (Nat.le_of_ble_eq_true rfl) dL_law_238 ⟨Nat.le_of_ble_eq_true rfl, Nat.le_of_ble_eq_true rfl⟩ (fun H locs hP hD hS => ?_)
  refine lv_aload_n hx hb dL_law_241 rfl (lv_at hl 2 rfl) ?_
  refine lv_aload_n hx hb dL_law_242 rfl (lv_at hl 0 rfl) ?_
  refine lv_iload_n hx hb dL_law_243 rfl (lv_at hl 3 rfl) ?_
  refine lv_iconst (v := nI 1) hx hb dL_law_244 (by decide) ?_
  refine fr_iadd (i) (1) hx hb dL_law_245 ?_
  refine fr_sld (i + 1) hx hb hX hbl hbA hS (by omega) hL dL_law_246 ?_
  refine fr_Vi (As := [.int (xs (i + 1))]) (rest := [.int (r_inj ν (xs (i + 1)))]) (fs' := [[(((AD 8) 0), .inr (5, [.ref ((AD 0) 0), .ref ((AD 1) 0), .ref ((AD 8) 1), .ref ((AD 9) 0), .ref ((AD 7) 0)]))], stW T (AD 0) (s_inj ν (xs (i + 1))), stW T (AD 1) τ, [(((AD 8) 1), .inr (2, [.ref ((AD 8) 2), .int (nI (setO (r_inj ν (xs (i + 1))) od ct)), .int (nI (setC (r_inj ν (xs (i + 1))) ct))]))], [(((AD 8) 2), .inl (T 3, 5, .inr (.inr (.inr (.inr (plA AD))))))], stW T (AD 2) (updP π ((od + ct) % 5) ν 0), stW T (AD 3) (updP π ((od + ct) % 5) ν 1), stW T (AD 4) (updP π ((od + ct) % 5) ν 2), stW T (AD 5) (updP π ((od + ct) % 5) ν 3), stW T (AD 6) (updP π ((od + ct) % 5) ν 4), [(((AD 9) 0), .inr (4, [.ref ((AD 9) 1), .int (nI (len)), .int (nI (q.1)), .int (nI (kd)), .ref ((AD 9) 2), .int (nI (q.2.2))]))], [(((AD 9) 1), .inl (T 2, 90, .inl (nf ch)))], [(((AD 9) 2), .inl (T 0, 5, .inl (nf q.2.1)))], blW T (AD 7) β, [((md 0), .inr (6, [.ref (md 1), .int (nI (mAN (iN (xs (i + 1)) 32) ct (mInjR (mCp σ 0 5) 1560))), .ref (md 2), .int (nI (len)), .int (nI (p)), .int (nI (le)), .ref (md 3), .ref (md 4)]))], [((md 1), .inl (T 0, 1872, .inl (mAS (iN (xs (i + 1)) 32) (mInjS (mCp σ 0 5) 1560 (tn (xs (i + 1)))) ct (mInjR (mCp σ 0 5) 1560) σ)))], [((md 2), .inl (T 0, 90, .inl (nf ch)))], [((md 3), .inl (T 0, 5, .inl (nf nu)))], [((md 4), .inl (T 0, 48, .inl (ρ)))]]) (ci := 6) (q0 := (RX6, TX6, 8)) (i0 := 14) ⟨hx, hb, hml, hown, hts⟩ (kX6_inject l D T Z md ct len p le σ (xs (i + 1)) hI.1.2.2.2 hI.mhi) (cwV 1 hts gL_law_X6_inject rfl rfl rfl (by decide +kernel) ⟨Nat.le_of_ble_eq_true rfl, Nat.le_of_ble_eq_true rfl⟩) hK hN hM hP hD hS hA [14, 15] rfl rfl rfl rfl rfl rfl hl.1 rfl (Nat.le_of_ble_eq_true rfl) dL_law_247 ⟨Nat.le_of_ble_eq_true rfl, Nat.le_of_ble_eq_true rfl⟩ (fun H locs hP hD hS => ?_)
  have hE8 := hI.act (A_inj (x := xs (i + 1)) (RP_begin hI.1.1))
  have hE9 := hE8.2.2
  refine lv_icmp_eq (tgt := 1526) hx hb dL_law_250 (by decide) (fun _ => ?_) (fun z => absurd hE9 z)
  exact hn9 _ _ _ (updP π ((od + ct) % 5) ν) _ _ _ _ _ _ _ _ _ _ _ _ _ _ hE8.1 hE8.2.1.symm rfl rfl _ _ hP hD hS ls (lv_sub hl [0, 1, 2, 3] rfl)

set_option maxHeartbeats 8000000 in
set_option maxRecDepth 100000 in
theorem lc_1 (l : Launch) (pP : Program) (eE : Env) (s : State) (mM : MethodId) (bW : List Frame) (mE : Method) (cC : Code) (b L : Nat) (xs : Nat → Int32) (D : va_G) (T : Nat → ClassId) (Z : ZZ) (AD : Nat → Nat → Nat) (md : Nat → Nat) (i : Nat) (hi9 : i + 6 ≤ L) (hC : LC pP s mM cC b L xs D T Z) (hn9 : LWat l pP eE s mM bW mE cC b L xs D T Z AD md i 1526) : LWat l pP eE s mM bW mE cC b L xs D T Z AD md i 255 := by
  obtain ⟨hx, hb, hml, hown, hts, hK, hN, hM, hX, hbl, hL⟩ := hC
  have hA : ∀ q : Nat, s.heap.size ≤ q → (fun q : Nat => s.heap.size ≤ q) q := fun _ h => h
  have hbA : ¬ (fun q : Nat => s.heap.size ≤ q) b := Nat.not_le.mpr hbl
  intro ν od ct π τ β ch len kd q p le σ nu ρ n ch2 len2 hI hn hch hlen H locs hP hD hS ls hl
  subst hn; subst hch; subst hlen
  refine lv_aload_n hx hb dL_law_255 rfl (lv_at hl 1 rfl) ?_
  refine lv_aload_n hx hb dL_law_256 rfl (lv_at hl 0 rfl) ?_
  refine lv_iload_n hx hb dL_law_257 rfl (lv_at hl 3 rfl) ?_
  refine lv_iconst (v := nI 1) hx hb dL_law_258 (by decide) ?_
  refine fr_iadd (i) (1) hx hb dL_law_259 ?_
  refine fr_sld (i + 1) hx hb hX hbl hbA hS (by omega) hL dL_law_260 ?_
  refine lv_aload_n hx hb dL_law_261 rfl (lv_at hl 0 rfl) ?_
  refine lv_iload_n hx hb dL_law_262 rfl (lv_at hl 3 rfl) ?_
  refine lv_iconst (v := nI 2) hx hb dL_law_263 (by decide) ?_
  refine fr_iadd (i) (2) hx hb dL_law_264 ?_
  refine fr_sld (i + 2) hx hb hX hbl hbA hS (by omega) hL dL_law_265 ?_
  refine lv_aload_n hx hb dL_law_266 rfl (lv_at hl 0 rfl) ?_
  refine lv_iload_n hx hb dL_law_267 rfl (lv_at hl 3 rfl) ?_
  refine lv_iconst (v := nI 3) hx hb dL_law_268 (by decide) ?_
  refine fr_iadd (i) (3) hx hb dL_law_269 ?_
  refine fr_sld (i + 3) hx hb hX hbl hbA hS (by omega) hL dL_law_270 ?_
  refine fr_Vi (As := [.int (xs (i + 1)), .int (xs (i + 2)), .int (xs (i + 3))]) (rest := []) (fs' := [[(((AD 8) 0), .inr (5, [.ref ((AD 0) 0), .ref ((AD 1) 0), .ref ((AD 8) 1), .ref ((AD 9) 0), .ref ((AD 7) 0)]))], stW T (AD 0) (s_cpy ν β (xs (i + 1)) (xs (i + 2)) (xs (i + 3))), stW T (AD 1) τ, [(((AD 8) 1), .inr (2, [.ref ((AD 8) 2), .int (nI (setO (r_cpy ν β (xs (i + 1)) (xs (i + 2)) (xs (i + 3))) od ct)), .int (nI (setC (r_cpy ν β (xs (i + 1)) (xs (i + 2)) (xs (i + 3))) ct))]))], [(((AD 8) 2), .inl (T 3, 5, .inr (.inr (.inr (.inr (plA AD))))))], stW T (AD 2) (updP π ((od + ct) % 5) ν 0), stW T (AD 3) (updP π ((od + ct) % 5) ν 1), stW T (AD 4) (updP π ((od + ct) % 5) ν 2), stW T (AD 5) (updP π ((od + ct) % 5) ν 3), stW T (AD 6) (updP π ((od + ct) % 5) ν 4), [(((AD 9) 0), .inr (4, [.ref ((AD 9) 1), .int (nI (len)), .int (nI (q.1)), .int (nI (kd)), .ref ((AD 9) 2), .int (nI (q.2.2))]))], [(((AD 9) 1), .inl (T 2, 90, .inl (nf ch)))], [(((AD 9) 2), .inl (T 0, 5, .inl (nf q.2.1)))], blW T (AD 7) (b_cpy ν β (xs (i + 1)) (xs (i + 2)) (xs (i + 3))), [((md 0), .inr (6, [.ref (md 1), .int (nI (ct)), .ref (md 2), .int (nI (len)), .int (nI (p)), .int (nI (le)), .ref (md 3), .ref (md 4)]))], [((md 1), .inl (T 0, 1872, .inl (σ)))], [((md 2), .inl (T 0, 90, .inl (nf ch)))], [((md 3), .inl (T 0, 5, .inl (nf nu)))], [((md 4), .inl (T 0, 48, .inl (ρ)))]]) (ci := 5) (q0 := (RX5, TX5, 5)) (i0 := 0) ⟨hx, hb, hml, hown, hts⟩ (kX5_copyBlock l D T Z AD od ct π ν β (xs (i + 1)) (xs (i + 2)) (xs (i + 3)) hI.1.2.2.1 hI.1.2.2.2) (cwV 3 hts gL_law_X5_copyBlock rfl rfl rfl (by decide +kernel) ⟨Nat.le_of_ble_eq_true rfl, Nat.le_of_ble_eq_true rfl⟩) hK hN hM hP hD hS hA [0, 3, 4, 5, 6, 7, 8, 9, 1, 13] rfl rfl rfl rfl rfl rfl hl.1 rfl (Nat.le_of_ble_eq_true rfl) dL_law_271 ⟨Nat.le_of_ble_eq_true rfl, Nat.le_of_ble_eq_true rfl⟩ (fun H locs hP hD hS => ?_)
  refine lv_aload_n hx hb dL_law_274 rfl (lv_at hl 2 rfl) ?_
  refine lv_aload_n hx hb dL_law_275 rfl (lv_at hl 0 rfl) ?_
  refine lv_iload_n hx hb dL_law_276 rfl (lv_at hl 3 rfl) ?_
  refine lv_iconst (v := nI 1) hx hb dL_law_277 (by decide) ?_
  refine fr_iadd (i) (1) hx hb dL_law_278 ?_
  refine fr_sld (i + 1) hx hb hX hbl hbA hS (by omega) hL dL_law_279 ?_
  refine lv_aload_n hx hb dL_law_280 rfl (lv_at hl 0 rfl) ?_
  refine lv_iload_n hx hb dL_law_281 rfl (lv_at hl 3 rfl) ?_
  refine lv_iconst (v := nI 2) hx hb dL_law_282 (by decide) ?_
  refine fr_iadd (i) (2) hx hb dL_law_283 ?_
  refine fr_sld (i + 2) hx hb hX hbl hbA hS (by omega) hL dL_law_284 ?_
  refine lv_aload_n hx hb dL_law_285 rfl (lv_at hl 0 rfl) ?_
  refine lv_iload_n hx hb dL_law_286 rfl (lv_at hl 3 rfl) ?_
  refine lv_iconst (v := nI 3) hx hb dL_law_287 (by decide) ?_
  refine fr_iadd (i) (3) hx hb dL_law_288 ?_
  refine fr_sld (i + 3) hx hb hX hbl hbA hS (by omega) hL dL_law_289 ?_
  refine fr_Vi (As := [.int (xs (i + 1)), .int (xs (i + 2)), .int (xs (i + 3))]) (rest := [.int (r_cpy ν β (xs (i + 1)) (xs (i + 2)) (xs (i + 3)))]) (fs' := [[(((AD 8) 0), .inr (5, [.ref ((AD 0) 0), .ref ((AD 1) 0), .ref ((AD 8) 1), .ref ((AD 9) 0), .ref ((AD 7) 0)]))], stW T (AD 0) (s_cpy ν β (xs (i + 1)) (xs (i + 2)) (xs (i + 3))), stW T (AD 1) τ, [(((AD 8) 1), .inr (2, [.ref ((AD 8) 2), .int (nI (setO (r_cpy ν β (xs (i + 1)) (xs (i + 2)) (xs (i + 3))) od ct)), .int (nI (setC (r_cpy ν β (xs (i + 1)) (xs (i + 2)) (xs (i + 3))) ct))]))], [(((AD 8) 2), .inl (T 3, 5, .inr (.inr (.inr (.inr (plA AD))))))], stW T (AD 2) (updP π ((od + ct) % 5) ν 0), stW T (AD 3) (updP π ((od + ct) % 5) ν 1), stW T (AD 4) (updP π ((od + ct) % 5) ν 2), stW T (AD 5) (updP π ((od + ct) % 5) ν 3), stW T (AD 6) (updP π ((od + ct) % 5) ν 4), [(((AD 9) 0), .inr (4, [.ref ((AD 9) 1), .int (nI (len)), .int (nI (q.1)), .int (nI (kd)), .ref ((AD 9) 2), .int (nI (q.2.2))]))], [(((AD 9) 1), .inl (T 2, 90, .inl (nf ch)))], [(((AD 9) 2), .inl (T 0, 5, .inl (nf q.2.1)))], blW T (AD 7) (b_cpy ν β (xs (i + 1)) (xs (i + 2)) (xs (i + 3))), [((md 0), .inr (6, [.ref (md 1), .int (nI (mAN (cpOkM (xs (i + 1)) (xs (i + 2)) (xs (i + 3))) ct (sumI (cpyC (fetM (mCp σ 0 5) (tn (xs (i + 1))) (tn (xs (i + 3)))) (redM (mCp σ 0 5) ρ (tn (xs (i + 1))) (tn (xs (i + 3)))) (tn (xs (i + 2)))) (tn (xs (i + 3)))))), .ref (md 2), .int (nI (len)), .int (nI (p)), .int (nI (le)), .ref (md 3), .ref (md 4)]))], [((md 1), .inl (T 0, 1872, .inl (mAS (cpOkM (xs (i + 1)) (xs (i + 2)) (xs (i + 3))) (putM (fetM (mCp σ 0 5) (tn (xs (i + 1))) (tn (xs (i + 3)))) (redM (mCp σ 0 5) ρ (tn (xs (i + 1))) (tn (xs (i + 3)))) (tn (xs (i + 2))) (tn (xs (i + 3)))) ct (sumI (cpyC (fetM (mCp σ 0 5) (tn (xs (i + 1))) (tn (xs (i + 3)))) (redM (mCp σ 0 5) ρ (tn (xs (i + 1))) (tn (xs (i + 3)))) (tn (xs (i + 2)))) (tn (xs (i + 3)))) σ)))], [((md 2), .inl (T 0, 90, .inl (nf ch)))], [((md 3), .inl (T 0, 5, .inl (nf nu)))], [((md 4), .inl (T 0, 48, .inl (if cpOkM (xs (i + 1)) (xs (i + 2)) (xs (i + 3)) then redM (mCp σ 0 5) ρ (tn (xs (i + 1))) (tn (xs (i + 3))) else ρ)))]]) (ci := 6) (q0 := (RX6, TX6, 8)) (i0 := 14) ⟨hx, hb, hml, hown, hts⟩ (kX6_copyBlock l D T Z md ct len p le σ ρ (xs (i + 1)) (xs (i + 2)) (xs (i + 3)) hI.1.2.2.2) (cwV 3 hts gL_law_X6_copyBlock rfl rfl rfl (by decide +kernel) ⟨Nat.le_of_ble_eq_true rfl, Nat.le_of_ble_eq_true rfl⟩) hK hN hM hP hD hS hA [14, 15, 18] rfl rfl rfl rfl rfl rfl hl.1 rfl (Nat.le_of_ble_eq_true rfl) dL_law_290 ⟨Nat.le_of_ble_eq_true rfl, Nat.le_of_ble_eq_true rfl⟩ (fun H locs hP hD hS => ?_)
  have hE8 := hI.act (A_cpy (x := xs (i + 1)) (y := xs (i + 2)) (c := xs (i + 3)) (β := β) (ρ := ρ) (RP_begin hI.1.1))
  have hE9 := hE8.2.2
  refine lv_icmp_eq (tgt := 1526) hx hb dL_law_293 (by decide) (fun _ => ?_) (fun z => absurd hE9 z)
  exact hn9 _ _ _ (updP π ((od + ct) % 5) ν) _ _ _ _ _ _ _ _ _ _ _ _ _ _ hE8.1 hE8.2.1.symm rfl rfl _ _ hP hD hS ls (lv_sub hl [0, 1, 2, 3] rfl)

set_option maxHeartbeats 8000000 in
set_option maxRecDepth 100000 in
theorem lc_2 (l : Launch) (pP : Program) (eE : Env) (s : State) (mM : MethodId) (bW : List Frame) (mE : Method) (cC : Code) (b L : Nat) (xs : Nat → Int32) (D : va_G) (T : Nat → ClassId) (Z : ZZ) (AD : Nat → Nat → Nat) (md : Nat → Nat) (i : Nat) (hi9 : i + 6 ≤ L) (hC : LC pP s mM cC b L xs D T Z) (hn9 : LWat l pP eE s mM bW mE cC b L xs D T Z AD md i 1526) : LWat l pP eE s mM bW mE cC b L xs D T Z AD md i 298 := by
  obtain ⟨hx, hb, hml, hown, hts, hK, hN, hM, hX, hbl, hL⟩ := hC
  have hA : ∀ q : Nat, s.heap.size ≤ q → (fun q : Nat => s.heap.size ≤ q) q := fun _ h => h
  have hbA : ¬ (fun q : Nat => s.heap.size ≤ q) b := Nat.not_le.mpr hbl
  intro ν od ct π τ β ch len kd q p le σ nu ρ n ch2 len2 hI hn hch hlen H locs hP hD hS ls hl
  subst hn; subst hch; subst hlen
  refine lv_aload_n hx hb dL_law_298 rfl (lv_at hl 1 rfl) ?_
  refine lv_aload_n hx hb dL_law_299 rfl (lv_at hl 0 rfl) ?_
  refine lv_iload_n hx hb dL_law_300 rfl (lv_at hl 3 rfl) ?_
  refine lv_iconst (v := nI 1) hx hb dL_law_301 (by decide) ?_
  refine fr_iadd (i) (1) hx hb dL_law_302 ?_
  refine fr_sld (i + 1) hx hb hX hbl hbA hS (by omega) hL dL_law_303 ?_
  refine lv_aload_n hx hb dL_law_304 rfl (lv_at hl 0 rfl) ?_
  refine lv_iload_n hx hb dL_law_305 rfl (lv_at hl 3 rfl) ?_
  refine lv_iconst (v := nI 2) hx hb dL_law_306 (by decide) ?_
  refine fr_iadd (i) (2) hx hb dL_law_307 ?_
  refine fr_sld (i + 2) hx hb hX hbl hbA hS (by omega) hL dL_law_308 ?_
  refine lv_aload_n hx hb dL_law_309 rfl (lv_at hl 0 rfl) ?_
  refine lv_iload_n hx hb dL_law_310 rfl (lv_at hl 3 rfl) ?_
  refine lv_iconst (v := nI 3) hx hb dL_law_311 (by decide) ?_
  refine fr_iadd (i) (3) hx hb dL_law_312 ?_
  refine fr_sld (i + 3) hx hb hX hbl hbA hS (by omega) hL dL_law_313 ?_
  refine fr_Vi (As := [.int (xs (i + 1)), .int (xs (i + 2)), .int (xs (i + 3))]) (rest := []) (fs' := [[(((AD 8) 0), .inr (5, [.ref ((AD 0) 0), .ref ((AD 1) 0), .ref ((AD 8) 1), .ref ((AD 9) 0), .ref ((AD 7) 0)]))], stW T (AD 0) (s_fil ν (xs (i + 1)) (xs (i + 2)) (xs (i + 3))), stW T (AD 1) τ, [(((AD 8) 1), .inr (2, [.ref ((AD 8) 2), .int (nI (setO (r_fil ν (xs (i + 1)) (xs (i + 2)) (xs (i + 3))) od ct)), .int (nI (setC (r_fil ν (xs (i + 1)) (xs (i + 2)) (xs (i + 3))) ct))]))], [(((AD 8) 2), .inl (T 3, 5, .inr (.inr (.inr (.inr (plA AD))))))], stW T (AD 2) (updP π ((od + ct) % 5) ν 0), stW T (AD 3) (updP π ((od + ct) % 5) ν 1), stW T (AD 4) (updP π ((od + ct) % 5) ν 2), stW T (AD 5) (updP π ((od + ct) % 5) ν 3), stW T (AD 6) (updP π ((od + ct) % 5) ν 4), [(((AD 9) 0), .inr (4, [.ref ((AD 9) 1), .int (nI (len)), .int (nI (q.1)), .int (nI (kd)), .ref ((AD 9) 2), .int (nI (q.2.2))]))], [(((AD 9) 1), .inl (T 2, 90, .inl (nf ch)))], [(((AD 9) 2), .inl (T 0, 5, .inl (nf q.2.1)))], blW T (AD 7) β, [((md 0), .inr (6, [.ref (md 1), .int (nI (ct)), .ref (md 2), .int (nI (len)), .int (nI (p)), .int (nI (le)), .ref (md 3), .ref (md 4)]))], [((md 1), .inl (T 0, 1872, .inl (σ)))], [((md 2), .inl (T 0, 90, .inl (nf ch)))], [((md 3), .inl (T 0, 5, .inl (nf nu)))], [((md 4), .inl (T 0, 48, .inl (ρ)))]]) (ci := 5) (q0 := (RX5, TX5, 5)) (i0 := 0) ⟨hx, hb, hml, hown, hts⟩ (kX5_fill l D T Z AD od ct π ν (xs (i + 1)) (xs (i + 2)) (xs (i + 3)) hI.1.2.2.1 hI.1.2.2.2) (cwV 3 hts gL_law_X5_fill rfl rfl rfl (by decide +kernel) ⟨Nat.le_of_ble_eq_true rfl, Nat.le_of_ble_eq_true rfl⟩) hK hN hM hP hD hS hA [0, 3, 4, 5, 6, 7, 8, 9, 1] rfl rfl rfl rfl rfl rfl hl.1 rfl (Nat.le_of_ble_eq_true rfl) dL_law_314 ⟨Nat.le_of_ble_eq_true rfl, Nat.le_of_ble_eq_true rfl⟩ (fun H locs hP hD hS => ?_)
  refine lv_aload_n hx hb dL_law_317 rfl (lv_at hl 2 rfl) ?_
  refine lv_aload_n hx hb dL_law_318 rfl (lv_at hl 0 rfl) ?_
  refine lv_iload_n hx hb dL_law_319 rfl (lv_at hl 3 rfl) ?_
  refine lv_iconst (v := nI 1) hx hb dL_law_320 (by decide) ?_
  refine fr_iadd (i) (1) hx hb dL_law_321 ?_
  refine fr_sld (i + 1) hx hb hX hbl hbA hS (by omega) hL dL_law_322 ?_
  refine lv_aload_n hx hb dL_law_323 rfl (lv_at hl 0 rfl) ?_
  refine lv_iload_n hx hb dL_law_324 rfl (lv_at hl 3 rfl) ?_
  refine lv_iconst (v := nI 2) hx hb dL_law_325 (by decide) ?_
  refine fr_iadd (i) (2) hx hb dL_law_326 ?_
  refine fr_sld (i + 2) hx hb hX hbl hbA hS (by omega) hL dL_law_327 ?_
  refine lv_aload_n hx hb dL_law_328 rfl (lv_at hl 0 rfl) ?_
  refine lv_iload_n hx hb dL_law_329 rfl (lv_at hl 3 rfl) ?_
  refine lv_iconst (v := nI 3) hx hb dL_law_330 (by decide) ?_
  refine fr_iadd (i) (3) hx hb dL_law_331 ?_
  refine fr_sld (i + 3) hx hb hX hbl hbA hS (by omega) hL dL_law_332 ?_
  refine fr_Vi (As := [.int (xs (i + 1)), .int (xs (i + 2)), .int (xs (i + 3))]) (rest := [.int (r_fil ν (xs (i + 1)) (xs (i + 2)) (xs (i + 3)))]) (fs' := [[(((AD 8) 0), .inr (5, [.ref ((AD 0) 0), .ref ((AD 1) 0), .ref ((AD 8) 1), .ref ((AD 9) 0), .ref ((AD 7) 0)]))], stW T (AD 0) (s_fil ν (xs (i + 1)) (xs (i + 2)) (xs (i + 3))), stW T (AD 1) τ, [(((AD 8) 1), .inr (2, [.ref ((AD 8) 2), .int (nI (setO (r_fil ν (xs (i + 1)) (xs (i + 2)) (xs (i + 3))) od ct)), .int (nI (setC (r_fil ν (xs (i + 1)) (xs (i + 2)) (xs (i + 3))) ct))]))], [(((AD 8) 2), .inl (T 3, 5, .inr (.inr (.inr (.inr (plA AD))))))], stW T (AD 2) (updP π ((od + ct) % 5) ν 0), stW T (AD 3) (updP π ((od + ct) % 5) ν 1), stW T (AD 4) (updP π ((od + ct) % 5) ν 2), stW T (AD 5) (updP π ((od + ct) % 5) ν 3), stW T (AD 6) (updP π ((od + ct) % 5) ν 4), [(((AD 9) 0), .inr (4, [.ref ((AD 9) 1), .int (nI (len)), .int (nI (q.1)), .int (nI (kd)), .ref ((AD 9) 2), .int (nI (q.2.2))]))], [(((AD 9) 1), .inl (T 2, 90, .inl (nf ch)))], [(((AD 9) 2), .inl (T 0, 5, .inl (nf q.2.1)))], blW T (AD 7) β, [((md 0), .inr (6, [.ref (md 1), .int (nI (mAN (filOkM (xs (i + 1)) (xs (i + 2)) (xs (i + 3))) ct (sumI (filC (mCp σ 0 5) (tn (xs (i + 1))) (nI (tn (xs (i + 3))))) (tn (xs (i + 2)))))), .ref (md 2), .int (nI (len)), .int (nI (p)), .int (nI (le)), .ref (md 3), .ref (md 4)]))], [((md 1), .inl (T 0, 1872, .inl (mAS (filOkM (xs (i + 1)) (xs (i + 2)) (xs (i + 3))) (filM (mCp σ 0 5) (tn (xs (i + 1))) (nI (tn (xs (i + 3)))) (tn (xs (i + 2)))) ct (sumI (filC (mCp σ 0 5) (tn (xs (i + 1))) (nI (tn (xs (i + 3))))) (tn (xs (i + 2)))) σ)))], [((md 2), .inl (T 0, 90, .inl (nf ch)))], [((md 3), .inl (T 0, 5, .inl (nf nu)))], [((md 4), .inl (T 0, 48, .inl (ρ)))]]) (ci := 6) (q0 := (RX6, TX6, 8)) (i0 := 14) ⟨hx, hb, hml, hown, hts⟩ (kX6_fill l D T Z md ct len p le σ (xs (i + 1)) (xs (i + 2)) (xs (i + 3)) hI.1.2.2.2) (cwV 3 hts gL_law_X6_fill rfl rfl rfl (by decide +kernel) ⟨Nat.le_of_ble_eq_true rfl, Nat.le_of_ble_eq_true rfl⟩) hK hN hM hP hD hS hA [14, 15] rfl rfl rfl rfl rfl rfl hl.1 rfl (Nat.le_of_ble_eq_true rfl) dL_law_333 ⟨Nat.le_of_ble_eq_true rfl, Nat.le_of_ble_eq_true rfl⟩ (fun H locs hP hD hS => ?_)
  have hE8 := hI.act (A_fil (x := xs (i + 1)) (c := xs (i + 2)) (y := xs (i + 3)) (RP_begin hI.1.1))
  have hE9 := hE8.2.2
  refine lv_icmp_eq (tgt := 1526) hx hb dL_law_336 (by decide) (fun _ => ?_) (fun z => absurd hE9 z)
  exact hn9 _ _ _ (updP π ((od + ct) % 5) ν) _ _ _ _ _ _ _ _ _ _ _ _ _ _ hE8.1 hE8.2.1.symm rfl rfl _ _ hP hD hS ls (lv_sub hl [0, 1, 2, 3] rfl)

set_option maxHeartbeats 8000000 in
set_option maxRecDepth 100000 in
theorem lc_3 (l : Launch) (pP : Program) (eE : Env) (s : State) (mM : MethodId) (bW : List Frame) (mE : Method) (cC : Code) (b L : Nat) (xs : Nat → Int32) (D : va_G) (T : Nat → ClassId) (Z : ZZ) (AD : Nat → Nat → Nat) (md : Nat → Nat) (i : Nat) (hi9 : i + 6 ≤ L) (hC : LC pP s mM cC b L xs D T Z) (hn9 : LWat l pP eE s mM bW mE cC b L xs D T Z AD md i 1526) : LWat l pP eE s mM bW mE cC b L xs D T Z AD md i 341 := by
  obtain ⟨hx, hb, hml, hown, hts, hK, hN, hM, hX, hbl, hL⟩ := hC
  have hA : ∀ q : Nat, s.heap.size ≤ q → (fun q : Nat => s.heap.size ≤ q) q := fun _ h => h
  have hbA : ¬ (fun q : Nat => s.heap.size ≤ q) b := Nat.not_le.mpr hbl
  intro ν od ct π τ β ch len kd q p le σ nu ρ n ch2 len2 hI hn hch hlen H locs hP hD hS ls hl
  subst hn; subst hch; subst hlen
  refine lv_aload_n hx hb dL_law_341 rfl (lv_at hl 1 rfl) ?_
  refine lv_aload_n hx hb dL_law_342 rfl (lv_at hl 0 rfl) ?_
  refine lv_iload_n hx hb dL_law_343 rfl (lv_at hl 3 rfl) ?_
  refine lv_iconst (v := nI 1) hx hb dL_law_344 (by decide) ?_
  refine fr_iadd (i) (1) hx hb dL_law_345 ?_
  refine fr_sld (i + 1) hx hb hX hbl hbA hS (by omega) hL dL_law_346 ?_
  refine lv_aload_n hx hb dL_law_347 rfl (lv_at hl 0 rfl) ?_
  refine lv_iload_n hx hb dL_law_348 rfl (lv_at hl 3 rfl) ?_
  refine lv_iconst (v := nI 2) hx hb dL_law_349 (by decide) ?_
  refine fr_iadd (i) (2) hx hb dL_law_350 ?_
  refine fr_sld (i + 2) hx hb hX hbl hbA hS (by omega) hL dL_law_351 ?_
  refine lv_if_eq (tgt := 359) hx hb dL_law_352 (by decide) (fun c9 => ?_) (fun c9 => ?_)
  · refine lv_iconst (v := nI 0) hx hb dL_law_359 (by decide) ?_
    refine fr_Vi (As := [.int (xs (i + 1)), .int (nI 0)]) (rest := []) (fs' := [[(((AD 8) 0), .inr (5, [.ref ((AD 0) 0), .ref ((AD 1) 0), .ref ((AD 8) 1), .ref ((AD 9) 0), .ref ((AD 7) 0)]))], stW T (AD 0) (s_mir ν (xs (i + 1)) false), stW T (AD 1) τ, [(((AD 8) 1), .inr (2, [.ref ((AD 8) 2), .int (nI (setO (r_mir ν (xs (i + 1)) false) od ct)), .int (nI (setC (r_mir ν (xs (i + 1)) false) ct))]))], [(((AD 8) 2), .inl (T 3, 5, .inr (.inr (.inr (.inr (plA AD))))))], stW T (AD 2) (updP π ((od + ct) % 5) ν 0), stW T (AD 3) (updP π ((od + ct) % 5) ν 1), stW T (AD 4) (updP π ((od + ct) % 5) ν 2), stW T (AD 5) (updP π ((od + ct) % 5) ν 3), stW T (AD 6) (updP π ((od + ct) % 5) ν 4), [(((AD 9) 0), .inr (4, [.ref ((AD 9) 1), .int (nI (len)), .int (nI (q.1)), .int (nI (kd)), .ref ((AD 9) 2), .int (nI (q.2.2))]))], [(((AD 9) 1), .inl (T 2, 90, .inl (nf ch)))], [(((AD 9) 2), .inl (T 0, 5, .inl (nf q.2.1)))], blW T (AD 7) β, [((md 0), .inr (6, [.ref (md 1), .int (nI (ct)), .ref (md 2), .int (nI (len)), .int (nI (p)), .int (nI (le)), .ref (md 3), .ref (md 4)]))], [((md 1), .inl (T 0, 1872, .inl (σ)))], [((md 2), .inl (T 0, 90, .inl (nf ch)))], [((md 3), .inl (T 0, 5, .inl (nf nu)))], [((md 4), .inl (T 0, 48, .inl (ρ)))]]) (ci := 5) (q0 := (RX5, TX5, 5)) (i0 := 0) ⟨hx, hb, hml, hown, hts⟩ (kX5_setMirror l D T Z AD od ct π ν (xs (i + 1)) false hI.1.2.2.1 hI.1.2.2.2) (cwV 2 hts gL_law_X5_setMirror rfl rfl rfl (by decide +kernel) ⟨Nat.le_of_ble_eq_true rfl, Nat.le_of_ble_eq_true rfl⟩) hK hN hM hP hD hS hA [0, 3, 4, 5, 6, 7, 8, 9, 1] rfl rfl rfl rfl rfl rfl hl.1 rfl (Nat.le_of_ble_eq_true rfl) dL_law_360 ⟨Nat.le_of_ble_eq_true rfl, Nat.le_of_ble_eq_true rfl⟩ (fun H locs hP hD hS => ?_)
    refine lv_aload_n hx hb dL_law_363 rfl (lv_at hl 2 rfl) ?_
    refine lv_aload_n hx hb dL_law_364 rfl (lv_at hl 0 rfl) ?_
    refine lv_iload_n hx hb dL_law_365 rfl (lv_at hl 3 rfl) ?_
    refine lv_iconst (v := nI 1) hx hb dL_law_366 (by decide) ?_
    refine fr_iadd (i) (1) hx hb dL_law_367 ?_
    refine fr_sld (i + 1) hx hb hX hbl hbA hS (by omega) hL dL_law_368 ?_
    refine lv_aload_n hx hb dL_law_369 rfl (lv_at hl 0 rfl) ?_
    refine lv_iload_n hx hb dL_law_370 rfl (lv_at hl 3 rfl) ?_
    refine lv_iconst (v := nI 2) hx hb dL_law_371 (by decide) ?_
    refine fr_iadd (i) (2) hx hb dL_law_372 ?_
    refine fr_sld (i + 2) hx hb hX hbl hbA hS (by omega) hL dL_law_373 ?_
    refine lv_if_eq (tgt := 381) hx hb dL_law_374 (by decide) (fun _ => ?_) (fun z => absurd c9 z)
    refine lv_iconst (v := nI 0) hx hb dL_law_381 (by decide) ?_
    refine fr_Vi (As := [.int (xs (i + 1)), .int (nI 0)]) (rest := [.int (r_mir ν (xs (i + 1)) false)]) (fs' := [[(((AD 8) 0), .inr (5, [.ref ((AD 0) 0), .ref ((AD 1) 0), .ref ((AD 8) 1), .ref ((AD 9) 0), .ref ((AD 7) 0)]))], stW T (AD 0) (s_mir ν (xs (i + 1)) false), stW T (AD 1) τ, [(((AD 8) 1), .inr (2, [.ref ((AD 8) 2), .int (nI (setO (r_mir ν (xs (i + 1)) false) od ct)), .int (nI (setC (r_mir ν (xs (i + 1)) false) ct))]))], [(((AD 8) 2), .inl (T 3, 5, .inr (.inr (.inr (.inr (plA AD))))))], stW T (AD 2) (updP π ((od + ct) % 5) ν 0), stW T (AD 3) (updP π ((od + ct) % 5) ν 1), stW T (AD 4) (updP π ((od + ct) % 5) ν 2), stW T (AD 5) (updP π ((od + ct) % 5) ν 3), stW T (AD 6) (updP π ((od + ct) % 5) ν 4), [(((AD 9) 0), .inr (4, [.ref ((AD 9) 1), .int (nI (len)), .int (nI (q.1)), .int (nI (kd)), .ref ((AD 9) 2), .int (nI (q.2.2))]))], [(((AD 9) 1), .inl (T 2, 90, .inl (nf ch)))], [(((AD 9) 2), .inl (T 0, 5, .inl (nf q.2.1)))], blW T (AD 7) β, [((md 0), .inr (6, [.ref (md 1), .int (nI (mAN (iN (xs (i + 1)) 8) ct (sumI (fun k => mMirS (mCp σ 0 5) 1560 (tn (xs (i + 1))) false (1560 + 240 + k)) 8))), .ref (md 2), .int (nI (len)), .int (nI (p)), .int (nI (le)), .ref (md 3), .ref (md 4)]))], [((md 1), .inl (T 0, 1872, .inl (mAS (iN (xs (i + 1)) 8) (mMirS (mCp σ 0 5) 1560 (tn (xs (i + 1))) false) ct (sumI (fun k => mMirS (mCp σ 0 5) 1560 (tn (xs (i + 1))) false (1560 + 240 + k)) 8) σ)))], [((md 2), .inl (T 0, 90, .inl (nf ch)))], [((md 3), .inl (T 0, 5, .inl (nf nu)))], [((md 4), .inl (T 0, 48, .inl (ρ)))]]) (ci := 6) (q0 := (RX6, TX6, 8)) (i0 := 14) ⟨hx, hb, hml, hown, hts⟩ (kX6_setMirror l D T Z md ct len p le σ (xs (i + 1)) false hI.1.2.2.2) (cwV 2 hts gL_law_X6_setMirror rfl rfl rfl (by decide +kernel) ⟨Nat.le_of_ble_eq_true rfl, Nat.le_of_ble_eq_true rfl⟩) hK hN hM hP hD hS hA [14, 15] rfl rfl rfl rfl rfl rfl hl.1 rfl (Nat.le_of_ble_eq_true rfl) dL_law_382 ⟨Nat.le_of_ble_eq_true rfl, Nat.le_of_ble_eq_true rfl⟩ (fun H locs hP hD hS => ?_)
    have hE8 := hI.act (A_mir (x := xs (i + 1)) (u := false) (RP_begin hI.1.1))
    have hE9 := hE8.2.2
    refine lv_icmp_eq (tgt := 1526) hx hb dL_law_385 (by decide) (fun _ => ?_) (fun z => absurd hE9 z)
    exact hn9 _ _ _ (updP π ((od + ct) % 5) ν) _ _ _ _ _ _ _ _ _ _ _ _ _ _ hE8.1 hE8.2.1.symm rfl rfl _ _ hP hD hS ls (lv_sub hl [0, 1, 2, 3] rfl)
  · refine lv_iconst (v := nI 1) hx hb dL_law_355 (by decide) ?_
    refine lv_goto (tgt := 360) hx hb dL_law_356 (by decide) ?_
    refine fr_Vi (As := [.int (xs (i + 1)), .int (nI 1)]) (rest := []) (fs' := [[(((AD 8) 0), .inr (5, [.ref ((AD 0) 0), .ref ((AD 1) 0), .ref ((AD 8) 1), .ref ((AD 9) 0), .ref ((AD 7) 0)]))], stW T (AD 0) (s_mir ν (xs (i + 1)) true), stW T (AD 1) τ, [(((AD 8) 1), .inr (2, [.ref ((AD 8) 2), .int (nI (setO (r_mir ν (xs (i + 1)) true) od ct)), .int (nI (setC (r_mir ν (xs (i + 1)) true) ct))]))], [(((AD 8) 2), .inl (T 3, 5, .inr (.inr (.inr (.inr (plA AD))))))], stW T (AD 2) (updP π ((od + ct) % 5) ν 0), stW T (AD 3) (updP π ((od + ct) % 5) ν 1), stW T (AD 4) (updP π ((od + ct) % 5) ν 2), stW T (AD 5) (updP π ((od + ct) % 5) ν 3), stW T (AD 6) (updP π ((od + ct) % 5) ν 4), [(((AD 9) 0), .inr (4, [.ref ((AD 9) 1), .int (nI (len)), .int (nI (q.1)), .int (nI (kd)), .ref ((AD 9) 2), .int (nI (q.2.2))]))], [(((AD 9) 1), .inl (T 2, 90, .inl (nf ch)))], [(((AD 9) 2), .inl (T 0, 5, .inl (nf q.2.1)))], blW T (AD 7) β, [((md 0), .inr (6, [.ref (md 1), .int (nI (ct)), .ref (md 2), .int (nI (len)), .int (nI (p)), .int (nI (le)), .ref (md 3), .ref (md 4)]))], [((md 1), .inl (T 0, 1872, .inl (σ)))], [((md 2), .inl (T 0, 90, .inl (nf ch)))], [((md 3), .inl (T 0, 5, .inl (nf nu)))], [((md 4), .inl (T 0, 48, .inl (ρ)))]]) (ci := 5) (q0 := (RX5, TX5, 5)) (i0 := 0) ⟨hx, hb, hml, hown, hts⟩ (kX5_setMirror l D T Z AD od ct π ν (xs (i + 1)) true hI.1.2.2.1 hI.1.2.2.2) (cwV 2 hts gL_law_X5_setMirror rfl rfl rfl (by decide +kernel) ⟨Nat.le_of_ble_eq_true rfl, Nat.le_of_ble_eq_true rfl⟩) hK hN hM hP hD hS hA [0, 3, 4, 5, 6, 7, 8, 9, 1] rfl rfl rfl rfl rfl rfl hl.1 rfl (Nat.le_of_ble_eq_true rfl) dL_law_360 ⟨Nat.le_of_ble_eq_true rfl, Nat.le_of_ble_eq_true rfl⟩ (fun H locs hP hD hS => ?_)
    refine lv_aload_n hx hb dL_law_363 rfl (lv_at hl 2 rfl) ?_
    refine lv_aload_n hx hb dL_law_364 rfl (lv_at hl 0 rfl) ?_
    refine lv_iload_n hx hb dL_law_365 rfl (lv_at hl 3 rfl) ?_
    refine lv_iconst (v := nI 1) hx hb dL_law_366 (by decide) ?_
    refine fr_iadd (i) (1) hx hb dL_law_367 ?_
    refine fr_sld (i + 1) hx hb hX hbl hbA hS (by omega) hL dL_law_368 ?_
    refine lv_aload_n hx hb dL_law_369 rfl (lv_at hl 0 rfl) ?_
    refine lv_iload_n hx hb dL_law_370 rfl (lv_at hl 3 rfl) ?_
    refine lv_iconst (v := nI 2) hx hb dL_law_371 (by decide) ?_
    refine fr_iadd (i) (2) hx hb dL_law_372 ?_
    refine fr_sld (i + 2) hx hb hX hbl hbA hS (by omega) hL dL_law_373 ?_
    refine lv_if_eq (tgt := 381) hx hb dL_law_374 (by decide) (fun z => absurd z c9) (fun _ => ?_)
    refine lv_iconst (v := nI 1) hx hb dL_law_377 (by decide) ?_
    refine lv_goto (tgt := 382) hx hb dL_law_378 (by decide) ?_
    refine fr_Vi (As := [.int (xs (i + 1)), .int (nI 1)]) (rest := [.int (r_mir ν (xs (i + 1)) true)]) (fs' := [[(((AD 8) 0), .inr (5, [.ref ((AD 0) 0), .ref ((AD 1) 0), .ref ((AD 8) 1), .ref ((AD 9) 0), .ref ((AD 7) 0)]))], stW T (AD 0) (s_mir ν (xs (i + 1)) true), stW T (AD 1) τ, [(((AD 8) 1), .inr (2, [.ref ((AD 8) 2), .int (nI (setO (r_mir ν (xs (i + 1)) true) od ct)), .int (nI (setC (r_mir ν (xs (i + 1)) true) ct))]))], [(((AD 8) 2), .inl (T 3, 5, .inr (.inr (.inr (.inr (plA AD))))))], stW T (AD 2) (updP π ((od + ct) % 5) ν 0), stW T (AD 3) (updP π ((od + ct) % 5) ν 1), stW T (AD 4) (updP π ((od + ct) % 5) ν 2), stW T (AD 5) (updP π ((od + ct) % 5) ν 3), stW T (AD 6) (updP π ((od + ct) % 5) ν 4), [(((AD 9) 0), .inr (4, [.ref ((AD 9) 1), .int (nI (len)), .int (nI (q.1)), .int (nI (kd)), .ref ((AD 9) 2), .int (nI (q.2.2))]))], [(((AD 9) 1), .inl (T 2, 90, .inl (nf ch)))], [(((AD 9) 2), .inl (T 0, 5, .inl (nf q.2.1)))], blW T (AD 7) β, [((md 0), .inr (6, [.ref (md 1), .int (nI (mAN (iN (xs (i + 1)) 8) ct (sumI (fun k => mMirS (mCp σ 0 5) 1560 (tn (xs (i + 1))) true (1560 + 240 + k)) 8))), .ref (md 2), .int (nI (len)), .int (nI (p)), .int (nI (le)), .ref (md 3), .ref (md 4)]))], [((md 1), .inl (T 0, 1872, .inl (mAS (iN (xs (i + 1)) 8) (mMirS (mCp σ 0 5) 1560 (tn (xs (i + 1))) true) ct (sumI (fun k => mMirS (mCp σ 0 5) 1560 (tn (xs (i + 1))) true (1560 + 240 + k)) 8) σ)))], [((md 2), .inl (T 0, 90, .inl (nf ch)))], [((md 3), .inl (T 0, 5, .inl (nf nu)))], [((md 4), .inl (T 0, 48, .inl (ρ)))]]) (ci := 6) (q0 := (RX6, TX6, 8)) (i0 := 14) ⟨hx, hb, hml, hown, hts⟩ (kX6_setMirror l D T Z md ct len p le σ (xs (i + 1)) true hI.1.2.2.2) (cwV 2 hts gL_law_X6_setMirror rfl rfl rfl (by decide +kernel) ⟨Nat.le_of_ble_eq_true rfl, Nat.le_of_ble_eq_true rfl⟩) hK hN hM hP hD hS hA [14, 15] rfl rfl rfl rfl rfl rfl hl.1 rfl (Nat.le_of_ble_eq_true rfl) dL_law_382 ⟨Nat.le_of_ble_eq_true rfl, Nat.le_of_ble_eq_true rfl⟩ (fun H locs hP hD hS => ?_)
    have hE8 := hI.act (A_mir (x := xs (i + 1)) (u := true) (RP_begin hI.1.1))
    have hE9 := hE8.2.2
    refine lv_icmp_eq (tgt := 1526) hx hb dL_law_385 (by decide) (fun _ => ?_) (fun z => absurd hE9 z)
    exact hn9 _ _ _ (updP π ((od + ct) % 5) ν) _ _ _ _ _ _ _ _ _ _ _ _ _ _ hE8.1 hE8.2.1.symm rfl rfl _ _ hP hD hS ls (lv_sub hl [0, 1, 2, 3] rfl)

set_option maxHeartbeats 8000000 in
set_option maxRecDepth 100000 in
theorem lc_4 (l : Launch) (pP : Program) (eE : Env) (s : State) (mM : MethodId) (bW : List Frame) (mE : Method) (cC : Code) (b L : Nat) (xs : Nat → Int32) (D : va_G) (T : Nat → ClassId) (Z : ZZ) (AD : Nat → Nat → Nat) (md : Nat → Nat) (i : Nat) (hi9 : i + 6 ≤ L) (hC : LC pP s mM cC b L xs D T Z) (hn9 : LWat l pP eE s mM bW mE cC b L xs D T Z AD md i 1526) : LWat l pP eE s mM bW mE cC b L xs D T Z AD md i 390 := by
  obtain ⟨hx, hb, hml, hown, hts, hK, hN, hM, hX, hbl, hL⟩ := hC
  have hA : ∀ q : Nat, s.heap.size ≤ q → (fun q : Nat => s.heap.size ≤ q) q := fun _ h => h
  have hbA : ¬ (fun q : Nat => s.heap.size ≤ q) b := Nat.not_le.mpr hbl
  intro ν od ct π τ β ch len kd q p le σ nu ρ n ch2 len2 hI hn hch hlen H locs hP hD hS ls hl
  subst hn; subst hch; subst hlen
  refine lv_aload_n hx hb dL_law_390 rfl (lv_at hl 1 rfl) ?_
  refine lv_aload_n hx hb dL_law_391 rfl (lv_at hl 0 rfl) ?_
  refine lv_iload_n hx hb dL_law_392 rfl (lv_at hl 3 rfl) ?_
  refine lv_iconst (v := nI 1) hx hb dL_law_393 (by decide) ?_
  refine fr_iadd (i) (1) hx hb dL_law_394 ?_
  refine fr_sld (i + 1) hx hb hX hbl hbA hS (by omega) hL dL_law_395 ?_
  refine fr_Vi (As := [.int (xs (i + 1))]) (rest := []) (fs' := [[(((AD 8) 0), .inr (5, [.ref ((AD 0) 0), .ref ((AD 1) 0), .ref ((AD 8) 1), .ref ((AD 9) 0), .ref ((AD 7) 0)]))], stW T (AD 0) (s_scr ν (xs (i + 1))), stW T (AD 1) τ, [(((AD 8) 1), .inr (2, [.ref ((AD 8) 2), .int (nI (setO (r_scr ν (xs (i + 1))) od ct)), .int (nI (setC (r_scr ν (xs (i + 1))) ct))]))], [(((AD 8) 2), .inl (T 3, 5, .inr (.inr (.inr (.inr (plA AD))))))], stW T (AD 2) (updP π ((od + ct) % 5) ν 0), stW T (AD 3) (updP π ((od + ct) % 5) ν 1), stW T (AD 4) (updP π ((od + ct) % 5) ν 2), stW T (AD 5) (updP π ((od + ct) % 5) ν 3), stW T (AD 6) (updP π ((od + ct) % 5) ν 4), [(((AD 9) 0), .inr (4, [.ref ((AD 9) 1), .int (nI (len)), .int (nI (q.1)), .int (nI (kd)), .ref ((AD 9) 2), .int (nI (q.2.2))]))], [(((AD 9) 1), .inl (T 2, 90, .inl (nf ch)))], [(((AD 9) 2), .inl (T 0, 5, .inl (nf q.2.1)))], blW T (AD 7) β, [((md 0), .inr (6, [.ref (md 1), .int (nI (ct)), .ref (md 2), .int (nI (len)), .int (nI (p)), .int (nI (le)), .ref (md 3), .ref (md 4)]))], [((md 1), .inl (T 0, 1872, .inl (σ)))], [((md 2), .inl (T 0, 90, .inl (nf ch)))], [((md 3), .inl (T 0, 5, .inl (nf nu)))], [((md 4), .inl (T 0, 48, .inl (ρ)))]]) (ci := 5) (q0 := (RX5, TX5, 5)) (i0 := 0) ⟨hx, hb, hml, hown, hts⟩ (kX5_scrub l D T Z AD od ct π ν (xs (i + 1)) hI.1.2.2.1 hI.1.2.2.2) (cwV 1 hts gL_law_X5_scrub rfl rfl rfl (by decide +kernel) ⟨Nat.le_of_ble_eq_true rfl, Nat.le_of_ble_eq_true rfl⟩) hK hN hM hP hD hS hA [0, 3, 4, 5, 6, 7, 8, 9, 1] rfl rfl rfl rfl rfl rfl hl.1 rfl (Nat.le_of_ble_eq_true rfl) dL_law_396 ⟨Nat.le_of_ble_eq_true rfl, Nat.le_of_ble_eq_true rfl⟩ (fun H locs hP hD hS => ?_)
  refine lv_aload_n hx hb dL_law_399 rfl (lv_at hl 2 rfl) ?_
  refine lv_aload_n hx hb dL_law_400 rfl (lv_at hl 0 rfl) ?_
  refine lv_iload_n hx hb dL_law_401 rfl (lv_at hl 3 rfl) ?_
  refine lv_iconst (v := nI 1) hx hb dL_law_402 (by decide) ?_
  refine fr_iadd (i) (1) hx hb dL_law_403 ?_
  refine fr_sld (i + 1) hx hb hX hbl hbA hS (by omega) hL dL_law_404 ?_
  refine fr_Vi (As := [.int (xs (i + 1))]) (rest := [.int (r_scr ν (xs (i + 1)))]) (fs' := [[(((AD 8) 0), .inr (5, [.ref ((AD 0) 0), .ref ((AD 1) 0), .ref ((AD 8) 1), .ref ((AD 9) 0), .ref ((AD 7) 0)]))], stW T (AD 0) (s_scr ν (xs (i + 1))), stW T (AD 1) τ, [(((AD 8) 1), .inr (2, [.ref ((AD 8) 2), .int (nI (setO (r_scr ν (xs (i + 1))) od ct)), .int (nI (setC (r_scr ν (xs (i + 1))) ct))]))], [(((AD 8) 2), .inl (T 3, 5, .inr (.inr (.inr (.inr (plA AD))))))], stW T (AD 2) (updP π ((od + ct) % 5) ν 0), stW T (AD 3) (updP π ((od + ct) % 5) ν 1), stW T (AD 4) (updP π ((od + ct) % 5) ν 2), stW T (AD 5) (updP π ((od + ct) % 5) ν 3), stW T (AD 6) (updP π ((od + ct) % 5) ν 4), [(((AD 9) 0), .inr (4, [.ref ((AD 9) 1), .int (nI (len)), .int (nI (q.1)), .int (nI (kd)), .ref ((AD 9) 2), .int (nI (q.2.2))]))], [(((AD 9) 1), .inl (T 2, 90, .inl (nf ch)))], [(((AD 9) 2), .inl (T 0, 5, .inl (nf q.2.1)))], blW T (AD 7) β, [((md 0), .inr (6, [.ref (md 1), .int (nI (mAN (iN (xs (i + 1)) 8) ct (mScrC (mCp σ 0 5) 1560 (tn (xs (i + 1)))))), .ref (md 2), .int (nI (len)), .int (nI (p)), .int (nI (le)), .ref (md 3), .ref (md 4)]))], [((md 1), .inl (T 0, 1872, .inl (mAS (iN (xs (i + 1)) 8) (mScr (mCp σ 0 5) 1560 (tn (xs (i + 1)))) ct (mScrC (mCp σ 0 5) 1560 (tn (xs (i + 1)))) σ)))], [((md 2), .inl (T 0, 90, .inl (nf ch)))], [((md 3), .inl (T 0, 5, .inl (nf nu)))], [((md 4), .inl (T 0, 48, .inl (ρ)))]]) (ci := 6) (q0 := (RX6, TX6, 8)) (i0 := 14) ⟨hx, hb, hml, hown, hts⟩ (kX6_scrub l D T Z md ct len p le σ (xs (i + 1)) hI.1.2.2.2) (cwV 1 hts gL_law_X6_scrub rfl rfl rfl (by decide +kernel) ⟨Nat.le_of_ble_eq_true rfl, Nat.le_of_ble_eq_true rfl⟩) hK hN hM hP hD hS hA [14, 15] rfl rfl rfl rfl rfl rfl hl.1 rfl (Nat.le_of_ble_eq_true rfl) dL_law_405 ⟨Nat.le_of_ble_eq_true rfl, Nat.le_of_ble_eq_true rfl⟩ (fun H locs hP hD hS => ?_)
  have hE8 := hI.act (A_scr (x := xs (i + 1)) (RP_begin hI.1.1))
  have hE9 := hE8.2.2
  refine lv_icmp_eq (tgt := 1526) hx hb dL_law_408 (by decide) (fun _ => ?_) (fun z => absurd hE9 z)
  exact hn9 _ _ _ (updP π ((od + ct) % 5) ν) _ _ _ _ _ _ _ _ _ _ _ _ _ _ hE8.1 hE8.2.1.symm rfl rfl _ _ hP hD hS ls (lv_sub hl [0, 1, 2, 3] rfl)

set_option maxHeartbeats 8000000 in
set_option maxRecDepth 100000 in
theorem lc_5 (l : Launch) (pP : Program) (eE : Env) (s : State) (mM : MethodId) (bW : List Frame) (mE : Method) (cC : Code) (b L : Nat) (xs : Nat → Int32) (D : va_G) (T : Nat → ClassId) (Z : ZZ) (AD : Nat → Nat → Nat) (md : Nat → Nat) (i : Nat) (hi9 : i + 6 ≤ L) (hC : LC pP s mM cC b L xs D T Z) (hn9 : LWat l pP eE s mM bW mE cC b L xs D T Z AD md i 1526) : LWat l pP eE s mM bW mE cC b L xs D T Z AD md i 413 := by
  obtain ⟨hx, hb, hml, hown, hts, hK, hN, hM, hX, hbl, hL⟩ := hC
  have hA : ∀ q : Nat, s.heap.size ≤ q → (fun q : Nat => s.heap.size ≤ q) q := fun _ h => h
  have hbA : ¬ (fun q : Nat => s.heap.size ≤ q) b := Nat.not_le.mpr hbl
  intro ν od ct π τ β ch len kd q p le σ nu ρ n ch2 len2 hI hn hch hlen H locs hP hD hS ls hl
  subst hn; subst hch; subst hlen
  refine lv_aload_n hx hb dL_law_413 rfl (lv_at hl 1 rfl) ?_
  refine lv_aload_n hx hb dL_law_414 rfl (lv_at hl 0 rfl) ?_
  refine lv_iload_n hx hb dL_law_415 rfl (lv_at hl 3 rfl) ?_
  refine lv_iconst (v := nI 1) hx hb dL_law_416 (by decide) ?_
  refine fr_iadd (i) (1) hx hb dL_law_417 ?_
  refine fr_sld (i + 1) hx hb hX hbl hbA hS (by omega) hL dL_law_418 ?_
  refine lv_aload_n hx hb dL_law_419 rfl (lv_at hl 0 rfl) ?_
  refine lv_iload_n hx hb dL_law_420 rfl (lv_at hl 3 rfl) ?_
  refine lv_iconst (v := nI 2) hx hb dL_law_421 (by decide) ?_
  refine fr_iadd (i) (2) hx hb dL_law_422 ?_
  refine fr_sld (i + 2) hx hb hX hbl hbA hS (by omega) hL dL_law_423 ?_
  refine fr_Vi (As := [.int (xs (i + 1)), .int (xs (i + 2))]) (rest := []) (fs' := [[(((AD 8) 0), .inr (5, [.ref ((AD 0) 0), .ref ((AD 1) 0), .ref ((AD 8) 1), .ref ((AD 9) 0), .ref ((AD 7) 0)]))], stW T (AD 0) (s_mod ν (xs (i + 1)) (xs (i + 2))), stW T (AD 1) τ, [(((AD 8) 1), .inr (2, [.ref ((AD 8) 2), .int (nI (setO (r_mod ν (xs (i + 1)) (xs (i + 2))) od ct)), .int (nI (setC (r_mod ν (xs (i + 1)) (xs (i + 2))) ct))]))], [(((AD 8) 2), .inl (T 3, 5, .inr (.inr (.inr (.inr (plA AD))))))], stW T (AD 2) (updP π ((od + ct) % 5) ν 0), stW T (AD 3) (updP π ((od + ct) % 5) ν 1), stW T (AD 4) (updP π ((od + ct) % 5) ν 2), stW T (AD 5) (updP π ((od + ct) % 5) ν 3), stW T (AD 6) (updP π ((od + ct) % 5) ν 4), [(((AD 9) 0), .inr (4, [.ref ((AD 9) 1), .int (nI (len)), .int (nI (q.1)), .int (nI (kd)), .ref ((AD 9) 2), .int (nI (q.2.2))]))], [(((AD 9) 1), .inl (T 2, 90, .inl (nf ch)))], [(((AD 9) 2), .inl (T 0, 5, .inl (nf q.2.1)))], blW T (AD 7) β, [((md 0), .inr (6, [.ref (md 1), .int (nI (ct)), .ref (md 2), .int (nI (len)), .int (nI (p)), .int (nI (le)), .ref (md 3), .ref (md 4)]))], [((md 1), .inl (T 0, 1872, .inl (σ)))], [((md 2), .inl (T 0, 90, .inl (nf ch)))], [((md 3), .inl (T 0, 5, .inl (nf nu)))], [((md 4), .inl (T 0, 48, .inl (ρ)))]]) (ci := 5) (q0 := (RX5, TX5, 5)) (i0 := 0) ⟨hx, hb, hml, hown, hts⟩ (kX5_setMode l D T Z AD od ct π ν (xs (i + 1)) (xs (i + 2)) hI.1.2.2.1 hI.1.2.2.2) (cwV 2 hts gL_law_X5_setMode rfl rfl rfl (by decide +kernel) ⟨Nat.le_of_ble_eq_true rfl, Nat.le_of_ble_eq_true rfl⟩) hK hN hM hP hD hS hA [0, 3, 4, 5, 6, 7, 8, 9, 1] rfl rfl rfl rfl rfl rfl hl.1 rfl (Nat.le_of_ble_eq_true rfl) dL_law_424 ⟨Nat.le_of_ble_eq_true rfl, Nat.le_of_ble_eq_true rfl⟩ (fun H locs hP hD hS => ?_)
  refine lv_aload_n hx hb dL_law_427 rfl (lv_at hl 2 rfl) ?_
  refine lv_aload_n hx hb dL_law_428 rfl (lv_at hl 0 rfl) ?_
  refine lv_iload_n hx hb dL_law_429 rfl (lv_at hl 3 rfl) ?_
  refine lv_iconst (v := nI 1) hx hb dL_law_430 (by decide) ?_
  refine fr_iadd (i) (1) hx hb dL_law_431 ?_
  refine fr_sld (i + 1) hx hb hX hbl hbA hS (by omega) hL dL_law_432 ?_
  refine lv_aload_n hx hb dL_law_433 rfl (lv_at hl 0 rfl) ?_
  refine lv_iload_n hx hb dL_law_434 rfl (lv_at hl 3 rfl) ?_
  refine lv_iconst (v := nI 2) hx hb dL_law_435 (by decide) ?_
  refine fr_iadd (i) (2) hx hb dL_law_436 ?_
  refine fr_sld (i + 2) hx hb hX hbl hbA hS (by omega) hL dL_law_437 ?_
  refine fr_Vi (As := [.int (xs (i + 1)), .int (xs (i + 2))]) (rest := [.int (r_mod ν (xs (i + 1)) (xs (i + 2)))]) (fs' := [[(((AD 8) 0), .inr (5, [.ref ((AD 0) 0), .ref ((AD 1) 0), .ref ((AD 8) 1), .ref ((AD 9) 0), .ref ((AD 7) 0)]))], stW T (AD 0) (s_mod ν (xs (i + 1)) (xs (i + 2))), stW T (AD 1) τ, [(((AD 8) 1), .inr (2, [.ref ((AD 8) 2), .int (nI (setO (r_mod ν (xs (i + 1)) (xs (i + 2))) od ct)), .int (nI (setC (r_mod ν (xs (i + 1)) (xs (i + 2))) ct))]))], [(((AD 8) 2), .inl (T 3, 5, .inr (.inr (.inr (.inr (plA AD))))))], stW T (AD 2) (updP π ((od + ct) % 5) ν 0), stW T (AD 3) (updP π ((od + ct) % 5) ν 1), stW T (AD 4) (updP π ((od + ct) % 5) ν 2), stW T (AD 5) (updP π ((od + ct) % 5) ν 3), stW T (AD 6) (updP π ((od + ct) % 5) ν 4), [(((AD 9) 0), .inr (4, [.ref ((AD 9) 1), .int (nI (len)), .int (nI (q.1)), .int (nI (kd)), .ref ((AD 9) 2), .int (nI (q.2.2))]))], [(((AD 9) 1), .inl (T 2, 90, .inl (nf ch)))], [(((AD 9) 2), .inl (T 0, 5, .inl (nf q.2.1)))], blW T (AD 7) β, [((md 0), .inr (6, [.ref (md 1), .int (nI (mAN (iN (xs (i + 1)) 4 && iN (xs (i + 2)) 3) ct (mCp σ 0 5 (1560 + 248 + tn (xs (i + 1)))))), .ref (md 2), .int (nI (len)), .int (nI (p)), .int (nI (le)), .ref (md 3), .ref (md 4)]))], [((md 1), .inl (T 0, 1872, .inl (mAS (iN (xs (i + 1)) 4 && iN (xs (i + 2)) 3) (upd (mCp σ 0 5) (1560 + 248 + tn (xs (i + 1))) (nI (tn (xs (i + 2))))) ct (mCp σ 0 5 (1560 + 248 + tn (xs (i + 1)))) σ)))], [((md 2), .inl (T 0, 90, .inl (nf ch)))], [((md 3), .inl (T 0, 5, .inl (nf nu)))], [((md 4), .inl (T 0, 48, .inl (ρ)))]]) (ci := 6) (q0 := (RX6, TX6, 8)) (i0 := 14) ⟨hx, hb, hml, hown, hts⟩ (kX6_setMode l D T Z md ct len p le σ (xs (i + 1)) (xs (i + 2)) hI.1.2.2.2) (cwV 2 hts gL_law_X6_setMode rfl rfl rfl (by decide +kernel) ⟨Nat.le_of_ble_eq_true rfl, Nat.le_of_ble_eq_true rfl⟩) hK hN hM hP hD hS hA [14, 15] rfl rfl rfl rfl rfl rfl hl.1 rfl (Nat.le_of_ble_eq_true rfl) dL_law_438 ⟨Nat.le_of_ble_eq_true rfl, Nat.le_of_ble_eq_true rfl⟩ (fun H locs hP hD hS => ?_)
  have hE8 := hI.act (A_mod (t := xs (i + 1)) (m := xs (i + 2)) (RP_begin hI.1.1))
  have hE9 := hE8.2.2
  refine lv_icmp_eq (tgt := 1526) hx hb dL_law_441 (by decide) (fun _ => ?_) (fun z => absurd hE9 z)
  exact hn9 _ _ _ (updP π ((od + ct) % 5) ν) _ _ _ _ _ _ _ _ _ _ _ _ _ _ hE8.1 hE8.2.1.symm rfl rfl _ _ hP hD hS ls (lv_sub hl [0, 1, 2, 3] rfl)
