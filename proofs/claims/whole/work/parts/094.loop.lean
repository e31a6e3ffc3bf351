set_option maxHeartbeats 8000000 in
set_option maxRecDepth 100000 in
theorem law_loop (l : Launch) (pP : Program) (eE : Env) (s : State) (mM : MethodId) (bW : List Frame) (mE : Method) (cC : Code) (b L : Nat) (xs : Nat → Int32) (D : va_G) (T : Nat → ClassId) (Z : ZZ) (AD : Nat → Nat → Nat) (md : Nat → Nat) (hC : LC pP s mM cC b L xs D T Z) (hr : mE.sig.returnType = ret) (hlk : mE.locks = false) : ∀ n9 i : Nat, i ≤ L + 6 → L + 6 < i + 6 * n9 → LWat l pP eE s mM bW mE cC b L xs D T Z AD md i 18 := by
  intro n9
  induction n9 with
  | zero => intro i h1 h2; exact absurd h2 (by omega)
  | succ n9 ih =>
    intro i h1 h2
    have hC0 := hC
    obtain ⟨hx, hb, hml, hown, hts, hK, hN, hM, hX, hbl, hL⟩ := hC
    have hbA : ¬ (fun q : Nat => s.heap.size ≤ q) b := Nat.not_le.mpr hbl
    intro ν od ct π τ β ch len kd q p le σ nu ρ n ch2 len2 hI hn hch hlen H locs hP hD hS ls hl
    refine lv_iload_n hx hb dL_law_18 rfl (lv_at hl 3 rfl) ?_
    refine lv_aload_n hx hb dL_law_19 rfl (lv_at hl 0 rfl) ?_
    refine va_slen hx hb hX hbl hbA hS dL_law_20 ?_
    refine lv_bipush (v := nI 6) hx hb dL_law_21 (by decide) ?_
    refine lv_isub hx hb dL_law_23 ?_
    refine lv_icmp_gt (tgt := 1532) hx hb dL_law_24 (by decide) (fun c9 => ?_) (fun c9 => ?_)
    · refine lv_iconst (v := 1) hx hb dL_law_1532 (by decide) ?_
      refine va_forget (fun q hq => hS.2.2 q hq) ?_
      refine W.widen (k := 600000) (n := 7302250) (Nat.le_of_ble_eq_true rfl) (Nat.le_of_ble_eq_true rfl) ?_
      exact W.base (lw_ret (Drawn.sameBut.refl s.drawn lw_cs) hx hb hr hlk dL_law_1533)
    · have hi9 : i + 6 ≤ L := Nat.le_of_not_lt (fun z => c9 ((last_6 hL h1).mpr z))
      have hn9 : LWat l pP eE s mM bW mE cC b L xs D T Z AD md i 1526 := by
        intro ν od ct π τ β ch len kd q p le σ nu ρ n ch2 len2 hI hn hch hlen H locs hP hD hS ls hl
        refine fr_iinc (i) (i + 6) (by rw [show Int32.ofInt 6 = nI 6 from rfl, nI_add]) (lv' := [(3, .int (nI (i + 6))), (0, .ref b), (1, .ref (AD 8 0)), (2, .ref (md 0))]) (k := 3) hx hb dL_law_1526 hl rfl (by decide) rfl (fun ls hl => ?_)
        refine lv_goto (tgt := 18) hx hb dL_law_1529 (by decide) ?_
        exact ih (i + 6) (by omega) (by omega) _ _ _ _ _ _ _ _ _ _ _ _ _ _ _ _ _ _ hI hn hch hlen _ _ hP hD hS ls (lv_sub hl [1, 2, 3, 0] rfl)
      refine lv_aload_n hx hb dL_law_27 rfl (lv_at hl 0 rfl) ?_
      refine lv_iload_n hx hb dL_law_28 rfl (lv_at hl 3 rfl) ?_
      refine fr_sld i hx hb hX hbl hbA hS (by omega) hL dL_law_29 ?_
      refine lv_bipush (v := nI 63) hx hb dL_law_30 (by decide) ?_
      refine lv_iand hx hb dL_law_32 ?_
      obtain ⟨j, hj, ej⟩ := pk_andE (xs i) (m := nI 63) 6 (by decide)
      refine fr_val ej ?_
      by_cases h46 : j < 46
      · rcases (show j = 0 ∨ j = 1 ∨ j = 2 ∨ j = 3 ∨ j = 4 ∨ j = 5 ∨ j = 6 ∨ j = 7 ∨ j = 8 ∨ j = 9 ∨ j = 10 ∨ j = 11 ∨ j = 12 ∨ j = 13 ∨ j = 14 ∨ j = 15 ∨ j = 16 ∨ j = 17 ∨ j = 18 ∨ j = 19 ∨ j = 20 ∨ j = 21 ∨ j = 22 ∨ j = 23 ∨ j = 24 ∨ j = 25 ∨ j = 26 ∨ j = 27 ∨ j = 28 ∨ j = 29 ∨ j = 30 ∨ j = 31 ∨ j = 32 ∨ j = 33 ∨ j = 34 ∨ j = 35 ∨ j = 36 ∨ j = 37 ∨ j = 38 ∨ j = 39 ∨ j = 40 ∨ j = 41 ∨ j = 42 ∨ j = 43 ∨ j = 44 ∨ j = 45 by omega) with rfl | rfl | rfl | rfl | rfl | rfl | rfl | rfl | rfl | rfl | rfl | rfl | rfl | rfl | rfl | rfl | rfl | rfl | rfl | rfl | rfl | rfl | rfl | rfl | rfl | rfl | rfl | rfl | rfl | rfl | rfl | rfl | rfl | rfl | rfl | rfl | rfl | rfl | rfl | rfl | rfl | rfl | rfl | rfl | rfl | rfl
        · refine lv_tableIn (off := 199) (tgt := 232) hx hb dL_law_33 (by decide) (by decide) rfl (by decide) ?_
          exact lc_0 l pP eE s mM bW mE cC b L xs D T Z AD md i hi9 hC0 hn9 _ _ _ _ _ _ _ _ _ _ _ _ _ _ _ _ _ _ hI hn hch hlen _ _ hP hD hS ls hl
        · refine lv_tableIn (off := 222) (tgt := 255) hx hb dL_law_33 (by decide) (by decide) rfl (by decide) ?_
          exact lc_1 l pP eE s mM bW mE cC b L xs D T Z AD md i hi9 hC0 hn9 _ _ _ _ _ _ _ _ _ _ _ _ _ _ _ _ _ _ hI hn hch hlen _ _ hP hD hS ls hl
        · refine lv_tableIn (off := 265) (tgt := 298) hx hb dL_law_33 (by decide) (by decide) rfl (by decide) ?_
          exact lc_2 l pP eE s mM bW mE cC b L xs D T Z AD md i hi9 hC0 hn9 _ _ _ _ _ _ _ _ _ _ _ _ _ _ _ _ _ _ hI hn hch hlen _ _ hP hD hS ls hl
        · refine lv_tableIn (off := 308) (tgt := 341) hx hb dL_law_33 (by decide) (by decide) rfl (by decide) ?_
          exact lc_3 l pP eE s mM bW mE cC b L xs D T Z AD md i hi9 hC0 hn9 _ _ _ _ _ _ _ _ _ _ _ _ _ _ _ _ _ _ hI hn hch hlen _ _ hP hD hS ls hl
        · refine lv_tableIn (off := 357) (tgt := 390) hx hb dL_law_33 (by decide) (by decide) rfl (by decide) ?_
          exact lc_4 l pP eE s mM bW mE cC b L xs D T Z AD md i hi9 hC0 hn9 _ _ _ _ _ _ _ _ _ _ _ _ _ _ _ _ _ _ hI hn hch hlen _ _ hP hD hS ls hl
        · refine lv_tableIn (off := 380) (tgt := 413) hx hb dL_law_33 (by decide) (by decide) rfl (by decide) ?_
          exact lc_5 l pP eE s mM bW mE cC b L xs D T Z AD md i hi9 hC0 hn9 _ _ _ _ _ _ _ _ _ _ _ _ _ _ _ _ _ _ hI hn hch hlen _ _ hP hD hS ls hl
        · refine lv_tableIn (off := 413) (tgt := 446) hx hb dL_law_33 (by decide) (by decide) rfl (by decide) ?_
          exact lc_6 l pP eE s mM bW mE cC b L xs D T Z AD md i hi9 hC0 hn9 _ _ _ _ _ _ _ _ _ _ _ _ _ _ _ _ _ _ hI hn hch hlen _ _ hP hD hS ls hl
        · refine lv_tableIn (off := 436) (tgt := 469) hx hb dL_law_33 (by decide) (by decide) rfl (by decide) ?_
          exact lc_7 l pP eE s mM bW mE cC b L xs D T Z AD md i hi9 hC0 hn9 _ _ _ _ _ _ _ _ _ _ _ _ _ _ _ _ _ _ hI hn hch hlen _ _ hP hD hS ls hl
        · refine lv_tableIn (off := 479) (tgt := 512) hx hb dL_law_33 (by decide) (by decide) rfl (by decide) ?_
          exact lc_8 l pP eE s mM bW mE cC b L xs D T Z AD md i hi9 hC0 hn9 _ _ _ _ _ _ _ _ _ _ _ _ _ _ _ _ _ _ hI hn hch hlen _ _ hP hD hS ls hl
        · refine lv_tableIn (off := 522) (tgt := 555) hx hb dL_law_33 (by decide) (by decide) rfl (by decide) ?_
          exact lc_9 l pP eE s mM bW mE cC b L xs D T Z AD md i hi9 hC0 hn9 _ _ _ _ _ _ _ _ _ _ _ _ _ _ _ _ _ _ hI hn hch hlen _ _ hP hD hS ls hl
        · refine lv_tableIn (off := 575) (tgt := 608) hx hb dL_law_33 (by decide) (by decide) rfl (by decide) ?_
          exact lc_10 l pP eE s mM bW mE cC b L xs D T Z AD md i hi9 hC0 hn9 _ _ _ _ _ _ _ _ _ _ _ _ _ _ _ _ _ _ hI hn hch hlen _ _ hP hD hS ls hl
        · refine lv_tableIn (off := 618) (tgt := 651) hx hb dL_law_33 (by decide) (by decide) rfl (by decide) ?_
          exact lc_11 l pP eE s mM bW mE cC b L xs D T Z AD md i hi9 hC0 hn9 _ _ _ _ _ _ _ _ _ _ _ _ _ _ _ _ _ _ hI hn hch hlen _ _ hP hD hS ls hl
        · refine lv_tableIn (off := 671) (tgt := 704) hx hb dL_law_33 (by decide) (by decide) rfl (by decide) ?_
          exact lc_12 l pP eE s mM bW mE cC b L xs D T Z AD md i hi9 hC0 hn9 _ _ _ _ _ _ _ _ _ _ _ _ _ _ _ _ _ _ hI hn hch hlen _ _ hP hD hS ls hl
        · refine lv_tableIn (off := 714) (tgt := 747) hx hb dL_law_33 (by decide) (by decide) rfl (by decide) ?_
          exact lc_13 l pP eE s mM bW mE cC b L xs D T Z AD md i hi9 hC0 hn9 _ _ _ _ _ _ _ _ _ _ _ _ _ _ _ _ _ _ hI hn hch hlen _ _ hP hD hS ls hl
        · refine lv_tableIn (off := 777) (tgt := 810) hx hb dL_law_33 (by decide) (by decide) rfl (by decide) ?_
          exact lc_14 l pP eE s mM bW mE cC b L xs D T Z AD md i hi9 hC0 hn9 _ _ _ _ _ _ _ _ _ _ _ _ _ _ _ _ _ _ hI hn hch hlen _ _ hP hD hS ls hl
        · refine lv_tableIn (off := 820) (tgt := 853) hx hb dL_law_33 (by decide) (by decide) rfl (by decide) ?_
          exact lc_15 l pP eE s mM bW mE cC b L xs D T Z AD md i hi9 hC0 hn9 _ _ _ _ _ _ _ _ _ _ _ _ _ _ _ _ _ _ hI hn hch hlen _ _ hP hD hS ls hl
        · refine lv_tableIn (off := 853) (tgt := 886) hx hb dL_law_33 (by decide) (by decide) rfl (by decide) ?_
          exact lc_16 l pP eE s mM bW mE cC b L xs D T Z AD md i hi9 hC0 hn9 _ _ _ _ _ _ _ _ _ _ _ _ _ _ _ _ _ _ hI hn hch hlen _ _ hP hD hS ls hl
        · refine lv_tableIn (off := 876) (tgt := 909) hx hb dL_law_33 (by decide) (by decide) rfl (by decide) ?_
          exact lc_17 l pP eE s mM bW mE cC b L xs D T Z AD md i hi9 hC0 hn9 _ _ _ _ _ _ _ _ _ _ _ _ _ _ _ _ _ _ hI hn hch hlen _ _ hP hD hS ls hl
        · refine lv_tableIn (off := 889) (tgt := 922) hx hb dL_law_33 (by decide) (by decide) rfl (by decide) ?_
          exact lc_18 l pP eE s mM bW mE cC b L xs D T Z AD md i hi9 hC0 hn9 _ _ _ _ _ _ _ _ _ _ _ _ _ _ _ _ _ _ hI hn hch hlen _ _ hP hD hS ls hl
        · refine lv_tableIn (off := 902) (tgt := 935) hx hb dL_law_33 (by decide) (by decide) rfl (by decide) ?_
          exact lc_19 l pP eE s mM bW mE cC b L xs D T Z AD md i hi9 hC0 hn9 _ _ _ _ _ _ _ _ _ _ _ _ _ _ _ _ _ _ hI hn hch hlen _ _ hP hD hS ls hl
        · refine lv_tableIn (off := 915) (tgt := 948) hx hb dL_law_33 (by decide) (by decide) rfl (by decide) ?_
          exact lc_20 l pP eE s mM bW mE cC b L xs D T Z AD md i hi9 hC0 hn9 _ _ _ _ _ _ _ _ _ _ _ _ _ _ _ _ _ _ hI hn hch hlen _ _ hP hD hS ls hl
        · refine lv_tableIn (off := 928) (tgt := 961) hx hb dL_law_33 (by decide) (by decide) rfl (by decide) ?_
          exact lc_21 l pP eE s mM bW mE cC b L xs D T Z AD md i hi9 hC0 hn9 _ _ _ _ _ _ _ _ _ _ _ _ _ _ _ _ _ _ hI hn hch hlen _ _ hP hD hS ls hl
        · refine lv_tableIn (off := 951) (tgt := 984) hx hb dL_law_33 (by decide) (by decide) rfl (by decide) ?_
          exact lc_22 l pP eE s mM bW mE cC b L xs D T Z AD md i hi9 hC0 hn9 _ _ _ _ _ _ _ _ _ _ _ _ _ _ _ _ _ _ hI hn hch hlen _ _ hP hD hS ls hl
        · refine lv_tableIn (off := 974) (tgt := 1007) hx hb dL_law_33 (by decide) (by decide) rfl (by decide) ?_
          exact lc_23 l pP eE s mM bW mE cC b L xs D T Z AD md i hi9 hC0 hn9 _ _ _ _ _ _ _ _ _ _ _ _ _ _ _ _ _ _ hI hn hch hlen _ _ hP hD hS ls hl
        · refine lv_tableIn (off := 997) (tgt := 1030) hx hb dL_law_33 (by decide) (by decide) rfl (by decide) ?_
          exact lc_24 l pP eE s mM bW mE cC b L xs D T Z AD md i hi9 hC0 hn9 _ _ _ _ _ _ _ _ _ _ _ _ _ _ _ _ _ _ hI hn hch hlen _ _ hP hD hS ls hl
        · refine lv_tableIn (off := 1020) (tgt := 1053) hx hb dL_law_33 (by decide) (by decide) rfl (by decide) ?_
          exact lc_25 l pP eE s mM bW mE cC b L xs D T Z AD md i hi9 hC0 hn9 _ _ _ _ _ _ _ _ _ _ _ _ _ _ _ _ _ _ hI hn hch hlen _ _ hP hD hS ls hl
        · refine lv_tableIn (off := 1043) (tgt := 1076) hx hb dL_law_33 (by decide) (by decide) rfl (by decide) ?_
          exact lc_26 l pP eE s mM bW mE cC b L xs D T Z AD md i hi9 hC0 hn9 _ _ _ _ _ _ _ _ _ _ _ _ _ _ _ _ _ _ hI hn hch hlen _ _ hP hD hS ls hl
        · refine lv_tableIn (off := 1076) (tgt := 1109) hx hb dL_law_33 (by decide) (by decide) rfl (by decide) ?_
          exact lc_27 l pP eE s mM bW mE cC b L xs D T Z AD md i hi9 hC0 hn9 _ _ _ _ _ _ _ _ _ _ _ _ _ _ _ _ _ _ hI hn hch hlen _ _ hP hD hS ls hl
        · refine lv_tableIn (off := 1109) (tgt := 1142) hx hb dL_law_33 (by decide) (by decide) rfl (by decide) ?_
          exact lc_28 l pP eE s mM bW mE cC b L xs D T Z AD md i hi9 hC0 hn9 _ _ _ _ _ _ _ _ _ _ _ _ _ _ _ _ _ _ hI hn hch hlen _ _ hP hD hS ls hl
        · refine lv_tableIn (off := 1142) (tgt := 1175) hx hb dL_law_33 (by decide) (by decide) rfl (by decide) ?_
          exact lc_29 l pP eE s mM bW mE cC b L xs D T Z AD md i hi9 hC0 hn9 _ _ _ _ _ _ _ _ _ _ _ _ _ _ _ _ _ _ hI hn hch hlen _ _ hP hD hS ls hl
        · refine lv_tableIn (off := 1165) (tgt := 1198) hx hb dL_law_33 (by decide) (by decide) rfl (by decide) ?_
          exact lc_30 l pP eE s mM bW mE cC b L xs D T Z AD md i hi9 hC0 hn9 _ _ _ _ _ _ _ _ _ _ _ _ _ _ _ _ _ _ hI hn hch hlen _ _ hP hD hS ls hl
        · refine lv_tableIn (off := 1188) (tgt := 1221) hx hb dL_law_33 (by decide) (by decide) rfl (by decide) ?_
          exact lc_31 l pP eE s mM bW mE cC b L xs D T Z AD md i hi9 hC0 hn9 _ _ _ _ _ _ _ _ _ _ _ _ _ _ _ _ _ _ hI hn hch hlen _ _ hP hD hS ls hl
        · refine lv_tableIn (off := 1201) (tgt := 1234) hx hb dL_law_33 (by decide) (by decide) rfl (by decide) ?_
          exact lc_32 l pP eE s mM bW mE cC b L xs D T Z AD md i hi9 hC0 hn9 _ _ _ _ _ _ _ _ _ _ _ _ _ _ _ _ _ _ hI hn hch hlen _ _ hP hD hS ls hl
        · refine lv_tableIn (off := 1224) (tgt := 1257) hx hb dL_law_33 (by decide) (by decide) rfl (by decide) ?_
          exact lc_33 l pP eE s mM bW mE cC b L xs D T Z AD md i hi9 hC0 hn9 _ _ _ _ _ _ _ _ _ _ _ _ _ _ _ _ _ _ hI hn hch hlen _ _ hP hD hS ls hl
        · refine lv_tableIn (off := 1237) (tgt := 1270) hx hb dL_law_33 (by decide) (by decide) rfl (by decide) ?_
          exact lc_34 l pP eE s mM bW mE cC b L xs D T Z AD md i hi9 hC0 hn9 _ _ _ _ _ _ _ _ _ _ _ _ _ _ _ _ _ _ hI hn hch hlen _ _ hP hD hS ls hl
        · refine lv_tableIn (off := 1270) (tgt := 1303) hx hb dL_law_33 (by decide) (by decide) rfl (by decide) ?_
          exact lc_35 l pP eE s mM bW mE cC b L xs D T Z AD md i hi9 hC0 hn9 _ _ _ _ _ _ _ _ _ _ _ _ _ _ _ _ _ _ hI hn hch hlen _ _ hP hD hS ls hl
        · refine lv_tableIn (off := 1283) (tgt := 1316) hx hb dL_law_33 (by decide) (by decide) rfl (by decide) ?_
          exact lc_36 l pP eE s mM bW mE cC b L xs D T Z AD md i hi9 hC0 hn9 _ _ _ _ _ _ _ _ _ _ _ _ _ _ _ _ _ _ hI hn hch hlen _ _ hP hD hS ls hl
        · refine lv_tableIn (off := 1306) (tgt := 1339) hx hb dL_law_33 (by decide) (by decide) rfl (by decide) ?_
          exact lc_37 l pP eE s mM bW mE cC b L xs D T Z AD md i hi9 hC0 hn9 _ _ _ _ _ _ _ _ _ _ _ _ _ _ _ _ _ _ hI hn hch hlen _ _ hP hD hS ls hl
        · refine lv_tableIn (off := 1329) (tgt := 1362) hx hb dL_law_33 (by decide) (by decide) rfl (by decide) ?_
          exact lc_38 l pP eE s mM bW mE cC b L xs D T Z AD md i hi9 hC0 hn9 _ _ _ _ _ _ _ _ _ _ _ _ _ _ _ _ _ _ hI hn hch hlen _ _ hP hD hS ls hl
        · refine lv_tableIn (off := 1352) (tgt := 1385) hx hb dL_law_33 (by decide) (by decide) rfl (by decide) ?_
          exact lc_39 l pP eE s mM bW mE cC b L xs D T Z AD md i hi9 hC0 hn9 _ _ _ _ _ _ _ _ _ _ _ _ _ _ _ _ _ _ hI hn hch hlen _ _ hP hD hS ls hl
        · refine lv_tableIn (off := 1365) (tgt := 1398) hx hb dL_law_33 (by decide) (by decide) rfl (by decide) ?_
          exact lc_40 l pP eE s mM bW mE cC b L xs D T Z AD md i hi9 hC0 hn9 _ _ _ _ _ _ _ _ _ _ _ _ _ _ _ _ _ _ hI hn hch hlen _ _ hP hD hS ls hl
        · refine lv_tableIn (off := 1378) (tgt := 1411) hx hb dL_law_33 (by decide) (by decide) rfl (by decide) ?_
          exact lc_41 l pP eE s mM bW mE cC b L xs D T Z AD md i hi9 hC0 hn9 _ _ _ _ _ _ _ _ _ _ _ _ _ _ _ _ _ _ hI hn hch hlen _ _ hP hD hS ls hl
        · refine lv_tableIn (off := 1421) (tgt := 1454) hx hb dL_law_33 (by decide) (by decide) rfl (by decide) ?_
          exact lc_42 l pP eE s mM bW mE cC b L xs D T Z AD md i hi9 hC0 hn9 _ _ _ _ _ _ _ _ _ _ _ _ _ _ _ _ _ _ hI hn hch hlen _ _ hP hD hS ls hl
        · refine lv_tableIn (off := 1434) (tgt := 1467) hx hb dL_law_33 (by decide) (by decide) rfl (by decide) ?_
          exact lc_43 l pP eE s mM bW mE cC b L xs D T Z AD md i hi9 hC0 hn9 _ _ _ _ _ _ _ _ _ _ _ _ _ _ _ _ _ _ hI hn hch hlen _ _ hP hD hS ls hl
        · refine lv_tableIn (off := 1447) (tgt := 1480) hx hb dL_law_33 (by decide) (by decide) rfl (by decide) ?_
          exact lc_44 l pP eE s mM bW mE cC b L xs D T Z AD md i hi9 hC0 hn9 _ _ _ _ _ _ _ _ _ _ _ _ _ _ _ _ _ _ hI hn hch hlen _ _ hP hD hS ls hl
        · refine lv_tableIn (off := 1480) (tgt := 1513) hx hb dL_law_33 (by decide) (by decide) rfl (by decide) ?_
          exact lc_45 l pP eE s mM bW mE cC b L xs D T Z AD md i hi9 hC0 hn9 _ _ _ _ _ _ _ _ _ _ _ _ _ _ _ _ _ _ hI hn hch hlen _ _ hP hD hS ls hl
      · refine lv_tableOut (tgt := 1526) hx hb dL_law_33 (Or.inr (by rw [nI_toInt (by omega)]; omega)) (by decide) ?_
        exact hn9 _ _ _ _ _ _ _ _ _ _ _ _ _ _ _ _ _ _ hI hn hch hlen _ _ hP hD hS ls hl
