set_option maxHeartbeats 8000000 in
set_option maxRecDepth 100000 in
theorem lc_12 (l : Launch) (pP : Program) (eE : Env) (s : State) (mM : MethodId) (bW : List Frame) (mE : Method) (cC : Code) (b L : Nat) (xs : Nat → Int32) (D : va_G) (T : Nat → ClassId) (Z : ZZ) (AD : Nat → Nat → Nat) (md : Nat → Nat) (i : Nat) (hi9 : i + 6 ≤ L) (hC : LC pP s mM cC b L xs D T Z) (hn9 : LWat l pP eE s mM bW mE cC b L xs D T Z AD md i 1526) : LWat l pP eE s mM bW mE cC b L xs D T Z AD md i 704 := by
  obtain ⟨hx, hb, hml, hown, hts, hK, hN, hM, hX, hbl, hL⟩ := hC
  have hA : ∀ q : Nat, s.heap.size ≤ q → (fun q : Nat => s.heap.size ≤ q) q := fun _ h => h
  have hbA : ¬ (fun q : Nat => s.heap.size ≤ q) b := Nat.not_le.mpr hbl
  intro ν od ct π τ β ch len kd q p le σ nu ρ n ch2 len2 hI hn hch hlen H locs hP hD hS ls hl
  subst hn; subst hch; subst hlen
  refine lv_aload_n hx hb dL_law_704 rfl (lv_at hl 1 rfl) ?_
  refine lv_aload_n hx hb dL_law_705 rfl (lv_at hl 0 rfl) ?_
  refine lv_iload_n hx hb dL_law_706 rfl (lv_at hl 3 rfl) ?_
  refine lv_iconst (v := nI 1) hx hb dL_law_707 (by decide) ?_
  refine fr_iadd (i) (1) hx hb dL_law_708 ?_
  refine fr_sld (i + 1) hx hb hX hbl hbA hS (by omega) hL dL_law_709 ?_
  refine lv_aload_n hx hb dL_law_710 rfl (lv_at hl 0 rfl) ?_
  refine lv_iload_n hx hb dL_law_711 rfl (lv_at hl 3 rfl) ?_
  refine lv_iconst (v := nI 2) hx hb dL_law_712 (by decide) ?_
  refine fr_iadd (i) (2) hx hb dL_law_713 ?_
  refine fr_sld (i + 2) hx hb hX hbl hbA hS (by omega) hL dL_law_714 ?_
  refine lv_aload_n hx hb dL_law_715 rfl (lv_at hl 0 rfl) ?_
  refine lv_iload_n hx hb dL_law_716 rfl (lv_at hl 3 rfl) ?_
  refine lv_iconst (v := nI 3) hx hb dL_law_717 (by decide) ?_
  refine fr_iadd (i) (3) hx hb dL_law_718 ?_
  refine fr_sld (i + 3) hx hb hX hbl hbA hS (by omega) hL dL_law_719 ?_
  refine fr_Vi (As := [.int (xs (i + 1)), .int (xs (i + 2)), .int (xs (i + 3))]) (rest := []) (fs' := [[(((AD 8) 0), .inr (5, [.ref ((AD 0) 0), .ref ((AD 1) 0), .ref ((AD 8) 1), .ref ((AD 9) 0), .ref ((AD 7) 0)]))], stW T (AD 0) (s_mov ν (xs (i + 1)) (xs (i + 2)) (xs (i + 3))), stW T (AD 1) τ, [(((AD 8) 1), .inr (2, [.ref ((AD 8) 2), .int (nI (setO (r_mov ν (xs (i + 1)) (xs (i + 2)) (xs (i + 3))) od ct)), .int (nI (setC (r_mov ν (xs (i + 1)) (xs (i + 2)) (xs (i + 3))) ct))]))], [(((AD 8) 2), .inl (T 3, 5, .inr (.inr (.inr (.inr (plA AD))))))], stW T (AD 2) (updP π ((od + ct) % 5) ν 0), stW T (AD 3) (updP π ((od + ct) % 5) ν 1), stW T (AD 4) (updP π ((od + ct) % 5) ν 2), stW T (AD 5) (updP π ((od + ct) % 5) ν 3), stW T (AD 6) (updP π ((od + ct) % 5) ν 4), [(((AD 9) 0), .inr (4, [.ref ((AD 9) 1), .int (nI (len)), .int (nI (q.1)), .int (nI (kd)), .ref ((AD 9) 2), .int (nI (q.2.2))]))], [(((AD 9) 1), .inl (T 2, 90, .inl (nf ch)))], [(((AD 9) 2), .inl (T 0, 5, .inl (nf q.2.1)))], blW T (AD 7) β, [((md 0), .inr (6, [.ref (md 1), .int (nI (ct)), .ref (md 2), .int (nI (len)), .int (nI (p)), .int (nI (le)), .ref (md 3), .ref (md 4)]))], [((md 1), .inl (T 0, 1872, .inl (σ)))], [((md 2), .inl (T 0, 90, .inl (nf ch)))], [((md 3), .inl (T 0, 5, .inl (nf nu)))], [((md 4), .inl (T 0, 48, .inl (ρ)))]]) (ci := 5) (q0 := (RX5, TX5, 5)) (i0 := 0) ⟨hx, hb, hml, hown, hts⟩ (kX5_move l D T Z AD od ct π ν (xs (i + 1)) (xs (i + 2)) (xs (i + 3)) hI.1.2.2.1 hI.1.2.2.2) (cwV 3 hts gL_law_X5_move rfl rfl rfl (by decide +kernel) ⟨Nat.le_of_ble_eq_true rfl, Nat.le_of_ble_eq_true rfl⟩) hK hN hM hP hD hS hA [0, 3, 4, 5, 6, 7, 8, 9, 1] rfl rfl rfl rfl rfl rfl hl.1 rfl (Nat.le_of_ble_eq_true rfl) dL_law_720 ⟨Nat.le_of_ble_eq_true rfl, Nat.le_of_ble_eq_true rfl⟩ (fun H locs hP hD hS => ?_)
  refine lv_aload_n hx hb dL_law_723 rfl (lv_at hl 2 rfl) ?_
  refine lv_aload_n hx hb dL_law_724 rfl (lv_at hl 0 rfl) ?_
  refine lv_iload_n hx hb dL_law_725 rfl (lv_at hl 3 rfl) ?_
  refine lv_iconst (v := nI 1) hx hb dL_law_726 (by decide) ?_
  refine fr_iadd (i) (1) hx hb dL_law_727 ?_
  refine fr_sld (i + 1) hx hb hX hbl hbA hS (by omega) hL dL_law_728 ?_
  refine lv_aload_n hx hb dL_law_729 rfl (lv_at hl 0 rfl) ?_
  refine lv_iload_n hx hb dL_law_730 rfl (lv_at hl 3 rfl) ?_
  refine lv_iconst (v := nI 2) hx hb dL_law_731 (by decide) ?_
  refine fr_iadd (i) (2) hx hb dL_law_732 ?_
  refine fr_sld (i + 2) hx hb hX hbl hbA hS (by omega) hL dL_law_733 ?_
  refine lv_aload_n hx hb dL_law_734 rfl (lv_at hl 0 rfl) ?_
  refine lv_iload_n hx hb dL_law_735 rfl (lv_at hl 3 rfl) ?_
  refine lv_iconst (v := nI 3) hx hb dL_law_736 (by decide) ?_
  refine fr_iadd (i) (3) hx hb dL_law_737 ?_
  refine fr_sld (i + 3) hx hb hX hbl hbA hS (by omega) hL dL_law_738 ?_
  refine fr_Vi (As := [.int (xs (i + 1)), .int (xs (i + 2)), .int (xs (i + 3))]) (rest := [.int (r_mov ν (xs (i + 1)) (xs (i + 2)) (xs (i + 3)))]) (fs' := [[(((AD 8) 0), .inr (5, [.ref ((AD 0) 0), .ref ((AD 1) 0), .ref ((AD 8) 1), .ref ((AD 9) 0), .ref ((AD 7) 0)]))], stW T (AD 0) (s_mov ν (xs (i + 1)) (xs (i + 2)) (xs (i + 3))), stW T (AD 1) τ, [(((AD 8) 1), .inr (2, [.ref ((AD 8) 2), .int (nI (setO (r_mov ν (xs (i + 1)) (xs (i + 2)) (xs (i + 3))) od ct)), .int (nI (setC (r_mov ν (xs (i + 1)) (xs (i + 2)) (xs (i + 3))) ct))]))], [(((AD 8) 2), .inl (T 3, 5, .inr (.inr (.inr (.inr (plA AD))))))], stW T (AD 2) (updP π ((od + ct) % 5) ν 0), stW T (AD 3) (updP π ((od + ct) % 5) ν 1), stW T (AD 4) (updP π ((od + ct) % 5) ν 2), stW T (AD 5) (updP π ((od + ct) % 5) ν 3), stW T (AD 6) (updP π ((od + ct) % 5) ν 4), [(((AD 9) 0), .inr (4, [.ref ((AD 9) 1), .int (nI (len)), .int (nI (q.1)), .int (nI (kd)), .ref ((AD 9) 2), .int (nI (q.2.2))]))], [(((AD 9) 1), .inl (T 2, 90, .inl (nf ch)))], [(((AD 9) 2), .inl (T 0, 5, .inl (nf q.2.1)))], blW T (AD 7) β, [((md 0), .inr (6, [.ref (md 1), .int (nI (mAN (iN (xs (i + 1)) 4 && (iN (xs (i + 2)) 4 && iN (xs (i + 3)) 4)) ct (mMovR (mCp σ 0 5) 1560 (tn (xs (i + 1))) (tn (xs (i + 3)))))), .ref (md 2), .int (nI (len)), .int (nI (p)), .int (nI (le)), .ref (md 3), .ref (md 4)]))], [((md 1), .inl (T 0, 1872, .inl (mAS (iN (xs (i + 1)) 4 && (iN (xs (i + 2)) 4 && iN (xs (i + 3)) 4)) (mMovS (mCp σ 0 5) 1560 (tn (xs (i + 1))) (tn (xs (i + 2))) (tn (xs (i + 3)))) ct (mMovR (mCp σ 0 5) 1560 (tn (xs (i + 1))) (tn (xs (i + 3)))) σ)))], [((md 2), .inl (T 0, 90, .inl (nf ch)))], [((md 3), .inl (T 0, 5, .inl (nf nu)))], [((md 4), .inl (T 0, 48, .inl (ρ)))]]) (ci := 6) (q0 := (RX6, TX6, 8)) (i0 := 14) ⟨hx, hb, hml, hown, hts⟩ (kX6_move l D T Z md ct len p le σ (xs (i + 1)) (xs (i + 2)) (xs (i + 3)) hI.1.2.2.2) (cwV 3 hts gL_law_X6_move rfl rfl rfl (by decide +kernel) ⟨Nat.le_of_ble_eq_true rfl, Nat.le_of_ble_eq_true rfl⟩) hK hN hM hP hD hS hA [14, 15] rfl rfl rfl rfl rfl rfl hl.1 rfl (Nat.le_of_ble_eq_true rfl) dL_law_739 ⟨Nat.le_of_ble_eq_true rfl, Nat.le_of_ble_eq_true rfl⟩ (fun H locs hP hD hS => ?_)
  have hE8 := hI.act (A_mov (t := xs (i + 1)) (a := xs (i + 2)) (c := xs (i + 3)) (RP_begin hI.1.1))
  have hE9 := hE8.2.2
  refine lv_icmp_eq (tgt := 1526) hx hb dL_law_742 (by decide) (fun _ => ?_) (fun z => absurd hE9 z)
  exact hn9 _ _ _ (updP π ((od + ct) % 5) ν) _ _ _ _ _ _ _ _ _ _ _ _ _ _ hE8.1 hE8.2.1.symm rfl rfl _ _ hP hD hS ls (lv_sub hl [0, 1, 2, 3] rfl)

set_option maxHeartbeats 8000000 in
set_option maxRecDepth 100000 in
theorem lc_13 (l : Launch) (pP : Program) (eE : Env) (s : State) (mM : MethodId) (bW : List Frame) (mE : Method) (cC : Code) (b L : Nat) (xs : Nat → Int32) (D : va_G) (T : Nat → ClassId) (Z : ZZ) (AD : Nat → Nat → Nat) (md : Nat → Nat) (i : Nat) (hi9 : i + 6 ≤ L) (hC : LC pP s mM cC b L xs D T Z) (hn9 : LWat l pP eE s mM bW mE cC b L xs D T Z AD md i 1526) : LWat l pP eE s mM bW mE cC b L xs D T Z AD md i 747 := by
  obtain ⟨hx, hb, hml, hown, hts, hK, hN, hM, hX, hbl, hL⟩ := hC
  have hA : ∀ q : Nat, s.heap.size ≤ q → (fun q : Nat => s.heap.size ≤ q) q := fun _ h => h
  have hbA : ¬ (fun q : Nat => s.heap.size ≤ q) b := Nat.not_le.mpr hbl
  intro ν od ct π τ β ch len kd q p le σ nu ρ n ch2 len2 hI hn hch hlen H locs hP hD hS ls hl
  subst hn; subst hch; subst hlen
  refine lv_aload_n hx hb dL_law_747 rfl (lv_at hl 1 rfl) ?_
  refine lv_aload_n hx hb dL_law_748 rfl (lv_at hl 0 rfl) ?_
  refine lv_iload_n hx hb dL_law_749 rfl (lv_at hl 3 rfl) ?_
  refine lv_iconst (v := nI 1) hx hb dL_law_750 (by decide) ?_
  refine fr_iadd (i) (1) hx hb dL_law_751 ?_
  refine fr_sld (i + 1) hx hb hX hbl hbA hS (by omega) hL dL_law_752 ?_
  refine lv_aload_n hx hb dL_law_753 rfl (lv_at hl 0 rfl) ?_
  refine lv_iload_n hx hb dL_law_754 rfl (lv_at hl 3 rfl) ?_
  refine lv_iconst (v := nI 2) hx hb dL_law_755 (by decide) ?_
  refine fr_iadd (i) (2) hx hb dL_law_756 ?_
  refine fr_sld (i + 2) hx hb hX hbl hbA hS (by omega) hL dL_law_757 ?_
  refine lv_aload_n hx hb dL_law_758 rfl (lv_at hl 0 rfl) ?_
  refine lv_iload_n hx hb dL_law_759 rfl (lv_at hl 3 rfl) ?_
  refine lv_iconst (v := nI 3) hx hb dL_law_760 (by decide) ?_
  refine fr_iadd (i) (3) hx hb dL_law_761 ?_
  refine fr_sld (i + 3) hx hb hX hbl hbA hS (by omega) hL dL_law_762 ?_
  refine lv_aload_n hx hb dL_law_763 rfl (lv_at hl 0 rfl) ?_
  refine lv_iload_n hx hb dL_law_764 rfl (lv_at hl 3 rfl) ?_
  refine lv_iconst (v := nI 4) hx hb dL_law_765 (by decide) ?_
  refine fr_iadd (i) (4) hx hb dL_law_766 ?_
  refine fr_sld (i + 4) hx hb hX hbl hbA hS (by omega) hL dL_law_767 ?_
  refine lv_aload_n hx hb dL_law_768 rfl (lv_at hl 0 rfl) ?_
  refine lv_iload_n hx hb dL_law_769 rfl (lv_at hl 3 rfl) ?_
  refine lv_iconst (v := nI 5) hx hb dL_law_770 (by decide) ?_
  refine fr_iadd (i) (5) hx hb dL_law_771 ?_
  refine fr_sld (i + 5) hx hb hX hbl hbA hS (by omega) hL dL_law_772 ?_
  refine fr_Vi (As := [.int (xs (i + 1)), .int (xs (i + 2)), .int (xs (i + 3)), .int (xs (i + 4)), .int (xs (i + 5))]) (rest := []) (fs' := [[(((AD 8) 0), .inr (5, [.ref ((AD 0) 0), .ref ((AD 1) 0), .ref ((AD 8) 1), .ref ((AD 9) 0), .ref ((AD 7) 0)]))], stW T (AD 0) (s_cmp ν (xs (i + 1)) (xs (i + 2)) (xs (i + 3)) (xs (i + 4)) (xs (i + 5))), stW T (AD 1) τ, [(((AD 8) 1), .inr (2, [.ref ((AD 8) 2), .int (nI (setO (r_cmp ν (xs (i + 1)) (xs (i + 2)) (xs (i + 3)) (xs (i + 4)) (xs (i + 5))) od ct)), .int (nI (setC (r_cmp ν (xs (i + 1)) (xs (i + 2)) (xs (i + 3)) (xs (i + 4)) (xs (i + 5))) ct))]))], [(((AD 8) 2), .inl (T 3, 5, .inr (.inr (.inr (.inr (plA AD))))))], stW T (AD 2) (updP π ((od + ct) % 5) ν 0), stW T (AD 3) (updP π ((od + ct) % 5) ν 1), stW T (AD 4) (updP π ((od + ct) % 5) ν 2), stW T (AD 5) (updP π ((od + ct) % 5) ν 3), stW T (AD 6) (updP π ((od + ct) % 5) ν 4), [(((AD 9) 0), .inr (4, [.ref ((AD 9) 1), .int (nI (len)), .int (nI (q.1)), .int (nI (kd)), .ref ((AD 9) 2), .int (nI (q.2.2))]))], [(((AD 9) 1), .inl (T 2, 90, .inl (nf ch)))], [(((AD 9) 2), .inl (T 0, 5, .inl (nf q.2.1)))], blW T (AD 7) β, [((md 0), .inr (6, [.ref (md 1), .int (nI (ct)), .ref (md 2), .int (nI (len)), .int (nI (p)), .int (nI (le)), .ref (md 3), .ref (md 4)]))], [((md 1), .inl (T 0, 1872, .inl (σ)))], [((md 2), .inl (T 0, 90, .inl (nf ch)))], [((md 3), .inl (T 0, 5, .inl (nf nu)))], [((md 4), .inl (T 0, 48, .inl (ρ)))]]) (ci := 5) (q0 := (RX5, TX5, 5)) (i0 := 0) ⟨hx, hb, hml, hown, hts⟩ (kX5_compute l D T Z AD od ct π ν (xs (i + 1)) (xs (i + 2)) (xs (i + 3)) (xs (i + 4)) (xs (i + 5)) hI.1.2.2.1 hI.1.2.2.2 hI.hh) (cwV 5 hts gL_law_X5_compute rfl rfl rfl (by decide +kernel) ⟨Nat.le_of_ble_eq_true rfl, Nat.le_of_ble_eq_true rfl⟩) hK hN hM hP hD hS hA [0, 3, 4, 5, 6, 7, 8, 9, 1] rfl rfl rfl rfl rfl rfl hl.1 rfl (Nat.le_of_ble_eq_true rfl) dL_law_773 ⟨Nat.le_of_ble_eq_true rfl, Nat.le_of_ble_eq_true rfl⟩ (fun H locs hP hD hS => ?_)
  refine lv_aload_n hx hb dL_law_776 rfl (lv_at hl 2 rfl) ?_
  refine lv_aload_n hx hb dL_law_777 rfl (lv_at hl 0 rfl) ?_
  refine lv_iload_n hx hb dL_law_778 rfl (lv_at hl 3 rfl) ?_
  refine lv_iconst (v := nI 1) hx hb dL_law_779 (by decide) ?_
  refine fr_iadd (i) (1) hx hb dL_law_780 ?_
  refine fr_sld (i + 1) hx hb hX hbl hbA hS (by omega) hL dL_law_781 ?_
  refine lv_aload_n hx hb dL_law_782 rfl (lv_at hl 0 rfl) ?_
  refine lv_iload_n hx hb dL_law_783 rfl (lv_at hl 3 rfl) ?_
  refine lv_iconst (v := nI 2) hx hb dL_law_784 (by decide) ?_
  refine fr_iadd (i) (2) hx hb dL_law_785 ?_
  refine fr_sld (i + 2) hx hb hX hbl hbA hS (by omega) hL dL_law_786 ?_
  refine lv_aload_n hx hb dL_law_787 rfl (lv_at hl 0 rfl) ?_
  refine lv_iload_n hx hb dL_law_788 rfl (lv_at hl 3 rfl) ?_
  refine lv_iconst (v := nI 3) hx hb dL_law_789 (by decide) ?_
  refine fr_iadd (i) (3) hx hb dL_law_790 ?_
  refine fr_sld (i + 3) hx hb hX hbl hbA hS (by omega) hL dL_law_791 ?_
  refine lv_aload_n hx hb dL_law_792 rfl (lv_at hl 0 rfl) ?_
  refine lv_iload_n hx hb dL_law_793 rfl (lv_at hl 3 rfl) ?_
  refine lv_iconst (v := nI 4) hx hb dL_law_794 (by decide) ?_
  refine fr_iadd (i) (4) hx hb dL_law_795 ?_
  refine fr_sld (i + 4) hx hb hX hbl hbA hS (by omega) hL dL_law_796 ?_
  refine lv_aload_n hx hb dL_law_797 rfl (lv_at hl 0 rfl) ?_
  refine lv_iload_n hx hb dL_law_798 rfl (lv_at hl 3 rfl) ?_
  refine lv_iconst (v := nI 5) hx hb dL_law_799 (by decide) ?_
  refine fr_iadd (i) (5) hx hb dL_law_800 ?_
  refine fr_sld (i + 5) hx hb hX hbl hbA hS (by omega) hL dL_law_801 ?_
  refine fr_Vi (As := [.int (xs (i + 1)), .int (xs (i + 2)), .int (xs (i + 3)), .int (xs (i + 4)), .int (xs (i + 5))]) (rest := [.int (r_cmp ν (xs (i + 1)) (xs (i + 2)) (xs (i + 3)) (xs (i + 4)) (xs (i + 5)))]) (fs' := [[(((AD 8) 0), .inr (5, [.ref ((AD 0) 0), .ref ((AD 1) 0), .ref ((AD 8) 1), .ref ((AD 9) 0), .ref ((AD 7) 0)]))], stW T (AD 0) (s_cmp ν (xs (i + 1)) (xs (i + 2)) (xs (i + 3)) (xs (i + 4)) (xs (i + 5))), stW T (AD 1) τ, [(((AD 8) 1), .inr (2, [.ref ((AD 8) 2), .int (nI (setO (r_cmp ν (xs (i + 1)) (xs (i + 2)) (xs (i + 3)) (xs (i + 4)) (xs (i + 5))) od ct)), .int (nI (setC (r_cmp ν (xs (i + 1)) (xs (i + 2)) (xs (i + 3)) (xs (i + 4)) (xs (i + 5))) ct))]))], [(((AD 8) 2), .inl (T 3, 5, .inr (.inr (.inr (.inr (plA AD))))))], stW T (AD 2) (updP π ((od + ct) % 5) ν 0), stW T (AD 3) (updP π ((od + ct) % 5) ν 1), stW T (AD 4) (updP π ((od + ct) % 5) ν 2), stW T (AD 5) (updP π ((od + ct) % 5) ν 3), stW T (AD 6) (updP π ((od + ct) % 5) ν 4), [(((AD 9) 0), .inr (4, [.ref ((AD 9) 1), .int (nI (len)), .int (nI (q.1)), .int (nI (kd)), .ref ((AD 9) 2), .int (nI (q.2.2))]))], [(((AD 9) 1), .inl (T 2, 90, .inl (nf ch)))], [(((AD 9) 2), .inl (T 0, 5, .inl (nf q.2.1)))], blW T (AD 7) β, [((md 0), .inr (6, [.ref (md 1), .int (nI (mAN (iN (xs (i + 1)) 4 && (iN (xs (i + 3)) 4 && (iN (xs (i + 4)) 4 && (iN (xs (i + 5)) 4 && iN (xs (i + 2)) 4)))) ct (mCmpR (mCp σ 0 5) 1560 (tn (xs (i + 1))) (tn (xs (i + 2))) (tn (xs (i + 4))) (tn (xs (i + 5)))))), .ref (md 2), .int (nI (len)), .int (nI (p)), .int (nI (le)), .ref (md 3), .ref (md 4)]))], [((md 1), .inl (T 0, 1872, .inl (mAS (iN (xs (i + 1)) 4 && (iN (xs (i + 3)) 4 && (iN (xs (i + 4)) 4 && (iN (xs (i + 5)) 4 && iN (xs (i + 2)) 4)))) (mCmpS (mCp σ 0 5) 1560 (tn (xs (i + 1))) (tn (xs (i + 2))) (tn (xs (i + 3))) (tn (xs (i + 4))) (tn (xs (i + 5)))) ct (mCmpR (mCp σ 0 5) 1560 (tn (xs (i + 1))) (tn (xs (i + 2))) (tn (xs (i + 4))) (tn (xs (i + 5)))) σ)))], [((md 2), .inl (T 0, 90, .inl (nf ch)))], [((md 3), .inl (T 0, 5, .inl (nf nu)))], [((md 4), .inl (T 0, 48, .inl (ρ)))]]) (ci := 6) (q0 := (RX6, TX6, 8)) (i0 := 14) ⟨hx, hb, hml, hown, hts⟩ (kX6_compute l D T Z md ct len p le σ (xs (i + 1)) (xs (i + 2)) (xs (i + 3)) (xs (i + 4)) (xs (i + 5)) hI.1.2.2.2) (cwV 5 hts gL_law_X6_compute rfl rfl rfl (by decide +kernel) ⟨Nat.le_of_ble_eq_true rfl, Nat.le_of_ble_eq_true rfl⟩) hK hN hM hP hD hS hA [14, 15] rfl rfl rfl rfl rfl rfl hl.1 rfl (Nat.le_of_ble_eq_true rfl) dL_law_802 ⟨Nat.le_of_ble_eq_true rfl, Nat.le_of_ble_eq_true rfl⟩ (fun H locs hP hD hS => ?_)
  have hE8 := hI.act (A_cmp (t := xs (i + 1)) (q := xs (i + 2)) (k := xs (i + 3)) (a := xs (i + 4)) (c := xs (i + 5)) (RP_begin hI.1.1))
  have hE9 := hE8.2.2
  refine lv_icmp_eq (tgt := 1526) hx hb dL_law_805 (by decide) (fun _ => ?_) (fun z => absurd hE9 z)
  exact hn9 _ _ _ (updP π ((od + ct) % 5) ν) _ _ _ _ _ _ _ _ _ _ _ _ _ _ hE8.1 hE8.2.1.symm rfl rfl _ _ hP hD hS ls (lv_sub hl [0, 1, 2, 3] rfl)

set_option maxHeartbeats 8000000 in
set_option maxRecDepth 100000 in
theorem lc_14 (l : Launch) (pP : Program) (eE : Env) (s : State) (mM : MethodId) (bW : List Frame) (mE : Method) (cC : Code) (b L : Nat) (xs : Nat → Int32) (D : va_G) (T : Nat → ClassId) (Z : ZZ) (AD : Nat → Nat → Nat) (md : Nat → Nat) (i : Nat) (hi9 : i + 6 ≤ L) (hC : LC pP s mM cC b L xs D T Z) (hn9 : LWat l pP eE s mM bW mE cC b L xs D T Z AD md i 1526) : LWat l pP eE s mM bW mE cC b L xs D T Z AD md i 810 := by
  obtain ⟨hx, hb, hml, hown, hts, hK, hN, hM, hX, hbl, hL⟩ := hC
  have hA : ∀ q : Nat, s.heap.size ≤ q → (fun q : Nat => s.heap.size ≤ q) q := fun _ h => h
  have hbA : ¬ (fun q : Nat => s.heap.size ≤ q) b := Nat.not_le.mpr hbl
  intro ν od ct π τ β ch len kd q p le σ nu ρ n ch2 len2 hI hn hch hlen H locs hP hD hS ls hl
  subst hn; subst hch; subst hlen
  refine lv_aload_n hx hb dL_law_810 rfl (lv_at hl 1 rfl) ?_
  refine lv_aload_n hx hb dL_law_811 rfl (lv_at hl 0 rfl) ?_
  refine lv_iload_n hx hb dL_law_812 rfl (lv_at hl 3 rfl) ?_
  refine lv_iconst (v := nI 1) hx hb dL_law_813 (by decide) ?_
  refine fr_iadd (i) (1) hx hb dL_law_814 ?_
  refine fr_sld (i + 1) hx hb hX hbl hbA hS (by omega) hL dL_law_815 ?_
  refine lv_aload_n hx hb dL_law_816 rfl (lv_at hl 0 rfl) ?_
  refine lv_iload_n hx hb dL_law_817 rfl (lv_at hl 3 rfl) ?_
  refine lv_iconst (v := nI 2) hx hb dL_law_818 (by decide) ?_
  refine fr_iadd (i) (2) hx hb dL_law_819 ?_
  refine fr_sld (i + 2) hx hb hX hbl hbA hS (by omega) hL dL_law_820 ?_
  refine lv_aload_n hx hb dL_law_821 rfl (lv_at hl 0 rfl) ?_
  refine lv_iload_n hx hb dL_law_822 rfl (lv_at hl 3 rfl) ?_
  refine lv_iconst (v := nI 3) hx hb dL_law_823 (by decide) ?_
  refine fr_iadd (i) (3) hx hb dL_law_824 ?_
  refine fr_sld (i + 3) hx hb hX hbl hbA hS (by omega) hL dL_law_825 ?_
  refine fr_Vi (As := [.int (xs (i + 1)), .int (xs (i + 2)), .int (xs (i + 3))]) (rest := []) (fs' := [[(((AD 8) 0), .inr (5, [.ref ((AD 0) 0), .ref ((AD 1) 0), .ref ((AD 8) 1), .ref ((AD 9) 0), .ref ((AD 7) 0)]))], stW T (AD 0) (s_lad ν (xs (i + 1)) (xs (i + 2)) (xs (i + 3))), stW T (AD 1) τ, [(((AD 8) 1), .inr (2, [.ref ((AD 8) 2), .int (nI (setO (r_lad ν (xs (i + 1)) (xs (i + 2)) (xs (i + 3))) od ct)), .int (nI (setC (r_lad ν (xs (i + 1)) (xs (i + 2)) (xs (i + 3))) ct))]))], [(((AD 8) 2), .inl (T 3, 5, .inr (.inr (.inr (.inr (plA AD))))))], stW T (AD 2) (updP π ((od + ct) % 5) ν 0), stW T (AD 3) (updP π ((od + ct) % 5) ν 1), stW T (AD 4) (updP π ((od + ct) % 5) ν 2), stW T (AD 5) (updP π ((od + ct) % 5) ν 3), stW T (AD 6) (updP π ((od + ct) % 5) ν 4), [(((AD 9) 0), .inr (4, [.ref ((AD 9) 1), .int (nI (len)), .int (nI (q.1)), .int (nI (kd)), .ref ((AD 9) 2), .int (nI (q.2.2))]))], [(((AD 9) 1), .inl (T 2, 90, .inl (nf ch)))], [(((AD 9) 2), .inl (T 0, 5, .inl (nf q.2.1)))], blW T (AD 7) β, [((md 0), .inr (6, [.ref (md 1), .int (nI (ct)), .ref (md 2), .int (nI (len)), .int (nI (p)), .int (nI (le)), .ref (md 3), .ref (md 4)]))], [((md 1), .inl (T 0, 1872, .inl (σ)))], [((md 2), .inl (T 0, 90, .inl (nf ch)))], [((md 3), .inl (T 0, 5, .inl (nf nu)))], [((md 4), .inl (T 0, 48, .inl (ρ)))]]) (ci := 5) (q0 := (RX5, TX5, 5)) (i0 := 0) ⟨hx, hb, hml, hown, hts⟩ (kX5_loadAt l D T Z AD od ct π ν (xs (i + 1)) (xs (i + 2)) (xs (i + 3)) hI.1.2.2.1 hI.1.2.2.2 hI.hh hI.hv) (cwV 3 hts gL_law_X5_loadAt rfl rfl rfl (by decide +kernel) ⟨Nat.le_of_ble_eq_true rfl, Nat.le_of_ble_eq_true rfl⟩) hK hN hM hP hD hS hA [0, 3, 4, 5, 6, 7, 8, 9, 1] rfl rfl rfl rfl rfl rfl hl.1 rfl (Nat.le_of_ble_eq_true rfl) dL_law_826 ⟨Nat.le_of_ble_eq_true rfl, Nat.le_of_ble_eq_true rfl⟩ (fun H locs hP hD hS => ?_)
  refine lv_aload_n hx hb dL_law_829 rfl (lv_at hl 2 rfl) ?_
  refine lv_aload_n hx hb dL_law_830 rfl (lv_at hl 0 rfl) ?_
  refine lv_iload_n hx hb dL_law_831 rfl (lv_at hl 3 rfl) ?_
  refine lv_iconst (v := nI 1) hx hb dL_law_832 (by decide) ?_
  refine fr_iadd (i) (1) hx hb dL_law_833 ?_
  refine fr_sld (i + 1) hx hb hX hbl hbA hS (by omega) hL dL_law_834 ?_
  refine lv_aload_n hx hb dL_law_835 rfl (lv_at hl 0 rfl) ?_
  refine lv_iload_n hx hb dL_law_836 rfl (lv_at hl 3 rfl) ?_
  refine lv_iconst (v := nI 2) hx hb dL_law_837 (by decide) ?_
  refine fr_iadd (i) (2) hx hb dL_law_838 ?_
  refine fr_sld (i + 2) hx hb hX hbl hbA hS (by omega) hL dL_law_839 ?_
  refine lv_aload_n hx hb dL_law_840 rfl (lv_at hl 0 rfl) ?_
  refine lv_iload_n hx hb dL_law_841 rfl (lv_at hl 3 rfl) ?_
  refine lv_iconst (v := nI 3) hx hb dL_law_842 (by decide) ?_
  refine fr_iadd (i) (3) hx hb dL_law_843 ?_
  refine fr_sld (i + 3) hx hb hX hbl hbA hS (by omega) hL dL_law_844 ?_
  refine fr_Vi (As := [.int (xs (i + 1)), .int (xs (i + 2)), .int (xs (i + 3))]) (rest := [.int (r_lad ν (xs (i + 1)) (xs (i + 2)) (xs (i + 3)))]) (fs' := [[(((AD 8) 0), .inr (5, [.ref ((AD 0) 0), .ref ((AD 1) 0), .ref ((AD 8) 1), .ref ((AD 9) 0), .ref ((AD 7) 0)]))], stW T (AD 0) (s_lad ν (xs (i + 1)) (xs (i + 2)) (xs (i + 3))), stW T (AD 1) τ, [(((AD 8) 1), .inr (2, [.ref ((AD 8) 2), .int (nI (setO (r_lad ν (xs (i + 1)) (xs (i + 2)) (xs (i + 3))) od ct)), .int (nI (setC (r_lad ν (xs (i + 1)) (xs (i + 2)) (xs (i + 3))) ct))]))], [(((AD 8) 2), .inl (T 3, 5, .inr (.inr (.inr (.inr (plA AD))))))], stW T (AD 2) (updP π ((od + ct) % 5) ν 0), stW T (AD 3) (updP π ((od + ct) % 5) ν 1), stW T (AD 4) (updP π ((od + ct) % 5) ν 2), stW T (AD 5) (updP π ((od + ct) % 5) ν 3), stW T (AD 6) (updP π ((od + ct) % 5) ν 4), [(((AD 9) 0), .inr (4, [.ref ((AD 9) 1), .int (nI (len)), .int (nI (q.1)), .int (nI (kd)), .ref ((AD 9) 2), .int (nI (q.2.2))]))], [(((AD 9) 1), .inl (T 2, 90, .inl (nf ch)))], [(((AD 9) 2), .inl (T 0, 5, .inl (nf q.2.1)))], blW T (AD 7) β, [((md 0), .inr (6, [.ref (md 1), .int (nI (mAN (iN (xs (i + 1)) 4 && (iN (xs (i + 2)) 4 && iN (xs (i + 3)) 4)) ct (mLaR (mCp σ 0 5) 1560 (tn (xs (i + 1))) (tn (xs (i + 3)))))), .ref (md 2), .int (nI (len)), .int (nI (p)), .int (nI (le)), .ref (md 3), .ref (md 4)]))], [((md 1), .inl (T 0, 1872, .inl (mAS (iN (xs (i + 1)) 4 && (iN (xs (i + 2)) 4 && iN (xs (i + 3)) 4)) (mLaS (mCp σ 0 5) 1560 (tn (xs (i + 1))) (tn (xs (i + 2))) (tn (xs (i + 3)))) ct (mLaR (mCp σ 0 5) 1560 (tn (xs (i + 1))) (tn (xs (i + 3)))) σ)))], [((md 2), .inl (T 0, 90, .inl (nf ch)))], [((md 3), .inl (T 0, 5, .inl (nf nu)))], [((md 4), .inl (T 0, 48, .inl (ρ)))]]) (ci := 6) (q0 := (RX6, TX6, 8)) (i0 := 14) ⟨hx, hb, hml, hown, hts⟩ (kX6_loadAt l D T Z md ct len p le σ (xs (i + 1)) (xs (i + 2)) (xs (i + 3)) hI.1.2.2.2 hI.mhv) (cwV 3 hts gL_law_X6_loadAt rfl rfl rfl (by decide +kernel) ⟨Nat.le_of_ble_eq_true rfl, Nat.le_of_ble_eq_true rfl⟩) hK hN hM hP hD hS hA [14, 15] rfl rfl rfl rfl rfl rfl hl.1 rfl (Nat.le_of_ble_eq_true rfl) dL_law_845 ⟨Nat.le_of_ble_eq_true rfl, Nat.le_of_ble_eq_true rfl⟩ (fun H locs hP hD hS => ?_)
  have hE8 := hI.act (A_lad (t := xs (i + 1)) (k := xs (i + 2)) (a := xs (i + 3)) (RP_begin hI.1.1))
  have hE9 := hE8.2.2
  refine lv_icmp_eq (tgt := 1526) hx hb dL_law_848 (by decide) (fun _ => ?_) (fun z => absurd hE9 z)
  exact hn9 _ _ _ (updP π ((od + ct) % 5) ν) _ _ _ _ _ _ _ _ _ _ _ _ _ _ hE8.1 hE8.2.1.symm rfl rfl _ _ hP hD hS ls (lv_sub hl [0, 1, 2, 3] rfl)

set_option maxHeartbeats 8000000 in
set_option maxRecDepth 100000 in
theorem lc_15 (l : Launch) (pP : Program) (eE : Env) (s : State) (mM : MethodId) (bW : List Frame) (mE : Method) (cC : Code) (b L : Nat) (xs : Nat → Int32) (D : va_G) (T : Nat → ClassId) (Z : ZZ) (AD : Nat → Nat → Nat) (md : Nat → Nat) (i : Nat) (hi9 : i + 6 ≤ L) (hC : LC pP s mM cC b L xs D T Z) (hn9 : LWat l pP eE s mM bW mE cC b L xs D T Z AD md i 1526) : LWat l pP eE s mM bW mE cC b L xs D T Z AD md i 853 := by
  obtain ⟨hx, hb, hml, hown, hts, hK, hN, hM, hX, hbl, hL⟩ := hC
  have hA : ∀ q : Nat, s.heap.size ≤ q → (fun q : Nat => s.heap.size ≤ q) q := fun _ h => h
  have hbA : ¬ (fun q : Nat => s.heap.size ≤ q) b := Nat.not_le.mpr hbl
  intro ν od ct π τ β ch len kd q p le σ nu ρ n ch2 len2 hI hn hch hlen H locs hP hD hS ls hl
  subst hn; subst hch; subst hlen
  refine lv_aload_n hx hb dL_law_853 rfl (lv_at hl 1 rfl) ?_
  refine lv_aload_n hx hb dL_law_854 rfl (lv_at hl 0 rfl) ?_
  refine lv_iload_n hx hb dL_law_855 rfl (lv_at hl 3 rfl) ?_
  refine lv_iconst (v := nI 1) hx hb dL_law_856 (by decide) ?_
  refine fr_iadd (i) (1) hx hb dL_law_857 ?_
  refine fr_sld (i + 1) hx hb hX hbl hbA hS (by omega) hL dL_law_858 ?_
  refine lv_aload_n hx hb dL_law_859 rfl (lv_at hl 0 rfl) ?_
  refine lv_iload_n hx hb dL_law_860 rfl (lv_at hl 3 rfl) ?_
  refine lv_iconst (v := nI 2) hx hb dL_law_861 (by decide) ?_
  refine fr_iadd (i) (2) hx hb dL_law_862 ?_
  refine fr_sld (i + 2) hx hb hX hbl hbA hS (by omega) hL dL_law_863 ?_
  refine fr_Vi (As := [.int (xs (i + 1)), .int (xs (i + 2))]) (rest := []) (fs' := [[(((AD 8) 0), .inr (5, [.ref ((AD 0) 0), .ref ((AD 1) 0), .ref ((AD 8) 1), .ref ((AD 9) 0), .ref ((AD 7) 0)]))], stW T (AD 0) (s_out ν (xs (i + 1)) (xs (i + 2))), stW T (AD 1) τ, [(((AD 8) 1), .inr (2, [.ref ((AD 8) 2), .int (nI (setO (r_out ν (xs (i + 1)) (xs (i + 2))) od ct)), .int (nI (setC (r_out ν (xs (i + 1)) (xs (i + 2))) ct))]))], [(((AD 8) 2), .inl (T 3, 5, .inr (.inr (.inr (.inr (plA AD))))))], stW T (AD 2) (updP π ((od + ct) % 5) ν 0), stW T (AD 3) (updP π ((od + ct) % 5) ν 1), stW T (AD 4) (updP π ((od + ct) % 5) ν 2), stW T (AD 5) (updP π ((od + ct) % 5) ν 3), stW T (AD 6) (updP π ((od + ct) % 5) ν 4), [(((AD 9) 0), .inr (4, [.ref ((AD 9) 1), .int (nI (len)), .int (nI (q.1)), .int (nI (kd)), .ref ((AD 9) 2), .int (nI (q.2.2))]))], [(((AD 9) 1), .inl (T 2, 90, .inl (nf ch)))], [(((AD 9) 2), .inl (T 0, 5, .inl (nf q.2.1)))], blW T (AD 7) β, [((md 0), .inr (6, [.ref (md 1), .int (nI (ct)), .ref (md 2), .int (nI (len)), .int (nI (p)), .int (nI (le)), .ref (md 3), .ref (md 4)]))], [((md 1), .inl (T 0, 1872, .inl (σ)))], [((md 2), .inl (T 0, 90, .inl (nf ch)))], [((md 3), .inl (T 0, 5, .inl (nf nu)))], [((md 4), .inl (T 0, 48, .inl (ρ)))]]) (ci := 5) (q0 := (RX5, TX5, 5)) (i0 := 0) ⟨hx, hb, hml, hown, hts⟩ (kX5_output l D T Z AD od ct π ν (xs (i + 1)) (xs (i + 2)) hI.1.2.2.1 hI.1.2.2.2 hI.hh) (cwV 2 hts gL_law_X5_output rfl rfl rfl (by decide +kernel) ⟨Nat.le_of_ble_eq_true rfl, Nat.le_of_ble_eq_true rfl⟩) hK hN hM hP hD hS hA [0, 3, 4, 5, 6, 7, 8, 9, 1] rfl rfl rfl rfl rfl rfl hl.1 rfl (Nat.le_of_ble_eq_true rfl) dL_law_864 ⟨Nat.le_of_ble_eq_true rfl, Nat.le_of_ble_eq_true rfl⟩ (fun H locs hP hD hS => ?_)
  refine lv_aload_n hx hb dL_law_867 rfl (lv_at hl 2 rfl) ?_
  refine lv_aload_n hx hb dL_law_868 rfl (lv_at hl 0 rfl) ?_
  refine lv_iload_n hx hb dL_law_869 rfl (lv_at hl 3 rfl) ?_
  refine lv_iconst (v := nI 1) hx hb dL_law_870 (by decide) ?_
  refine fr_iadd (i) (1) hx hb dL_law_871 ?_
  refine fr_sld (i + 1) hx hb hX hbl hbA hS (by omega) hL dL_law_872 ?_
  refine lv_aload_n hx hb dL_law_873 rfl (lv_at hl 0 rfl) ?_
  refine lv_iload_n hx hb dL_law_874 rfl (lv_at hl 3 rfl) ?_
  refine lv_iconst (v := nI 2) hx hb dL_law_875 (by decide) ?_
  refine fr_iadd (i) (2) hx hb dL_law_876 ?_
  refine fr_sld (i + 2) hx hb hX hbl hbA hS (by omega) hL dL_law_877 ?_
  refine fr_Vi (As := [.int (xs (i + 1)), .int (xs (i + 2))]) (rest := [.int (r_out ν (xs (i + 1)) (xs (i + 2)))]) (fs' := [[(((AD 8) 0), .inr (5, [.ref ((AD 0) 0), .ref ((AD 1) 0), .ref ((AD 8) 1), .ref ((AD 9) 0), .ref ((AD 7) 0)]))], stW T (AD 0) (s_out ν (xs (i + 1)) (xs (i + 2))), stW T (AD 1) τ, [(((AD 8) 1), .inr (2, [.ref ((AD 8) 2), .int (nI (setO (r_out ν (xs (i + 1)) (xs (i + 2))) od ct)), .int (nI (setC (r_out ν (xs (i + 1)) (xs (i + 2))) ct))]))], [(((AD 8) 2), .inl (T 3, 5, .inr (.inr (.inr (.inr (plA AD))))))], stW T (AD 2) (updP π ((od + ct) % 5) ν 0), stW T (AD 3) (updP π ((od + ct) % 5) ν 1), stW T (AD 4) (updP π ((od + ct) % 5) ν 2), stW T (AD 5) (updP π ((od + ct) % 5) ν 3), stW T (AD 6) (updP π ((od + ct) % 5) ν 4), [(((AD 9) 0), .inr (4, [.ref ((AD 9) 1), .int (nI (len)), .int (nI (q.1)), .int (nI (kd)), .ref ((AD 9) 2), .int (nI (q.2.2))]))], [(((AD 9) 1), .inl (T 2, 90, .inl (nf ch)))], [(((AD 9) 2), .inl (T 0, 5, .inl (nf q.2.1)))], blW T (AD 7) β, [((md 0), .inr (6, [.ref (md 1), .int (nI (mAN (iN (xs (i + 1)) 4 && iN (xs (i + 2)) 4) ct (mOuR (mCp σ 0 5) 1560 (tn (xs (i + 1))) (tn (xs (i + 2)))))), .ref (md 2), .int (nI (len)), .int (nI (p)), .int (nI (le)), .ref (md 3), .ref (md 4)]))], [((md 1), .inl (T 0, 1872, .inl (mAS (iN (xs (i + 1)) 4 && iN (xs (i + 2)) 4) (mOuS (mCp σ 0 5) 1560 (tn (xs (i + 1))) (tn (xs (i + 2)))) ct (mOuR (mCp σ 0 5) 1560 (tn (xs (i + 1))) (tn (xs (i + 2)))) σ)))], [((md 2), .inl (T 0, 90, .inl (nf ch)))], [((md 3), .inl (T 0, 5, .inl (nf nu)))], [((md 4), .inl (T 0, 48, .inl (ρ)))]]) (ci := 6) (q0 := (RX6, TX6, 8)) (i0 := 14) ⟨hx, hb, hml, hown, hts⟩ (kX6_output l D T Z md ct len p le σ (xs (i + 1)) (xs (i + 2)) hI.1.2.2.2) (cwV 2 hts gL_law_X6_output rfl rfl rfl (by decide +kernel) ⟨Nat.le_of_ble_eq_true rfl, Nat.le_of_ble_eq_true rfl⟩) hK hN hM hP hD hS hA [14, 15] rfl rfl rfl rfl rfl rfl hl.1 rfl (Nat.le_of_ble_eq_true rfl) dL_law_878 ⟨Nat.le_of_ble_eq_true rfl, Nat.le_of_ble_eq_true rfl⟩ (fun H locs hP hD hS => ?_)
  have hE8 := hI.act (A_out (t := xs (i + 1)) (a := xs (i + 2)) (RP_begin hI.1.1))
  have hE9 := hE8.2.2
  refine lv_icmp_eq (tgt := 1526) hx hb dL_law_881 (by decide) (fun _ => ?_) (fun z => absurd hE9 z)
  exact hn9 _ _ _ (updP π ((od + ct) % 5) ν) _ _ _ _ _ _ _ _ _ _ _ _ _ _ hE8.1 hE8.2.1.symm rfl rfl _ _ hP hD hS ls (lv_sub hl [0, 1, 2, 3] rfl)

set_option maxHeartbeats 8000000 in
set_option maxRecDepth 100000 in
theorem lc_16 (l : Launch) (pP : Program) (eE : Env) (s : State) (mM : MethodId) (bW : List Frame) (mE : Method) (cC : Code) (b L : Nat) (xs : Nat → Int32) (D : va_G) (T : Nat → ClassId) (Z : ZZ) (AD : Nat → Nat → Nat) (md : Nat → Nat) (i : Nat) (hi9 : i + 6 ≤ L) (hC : LC pP s mM cC b L xs D T Z) (hn9 : LWat l pP eE s mM bW mE cC b L xs D T Z AD md i 1526) : LWat l pP eE s mM bW mE cC b L xs D T Z AD md i 886 := by
  obtain ⟨hx, hb, hml, hown, hts, hK, hN, hM, hX, hbl, hL⟩ := hC
  have hA : ∀ q : Nat, s.heap.size ≤ q → (fun q : Nat => s.heap.size ≤ q) q := fun _ h => h
  have hbA : ¬ (fun q : Nat => s.heap.size ≤ q) b := Nat.not_le.mpr hbl
  intro ν od ct π τ β ch len kd q p le σ nu ρ n ch2 len2 hI hn hch hlen H locs hP hD hS ls hl
  subst hn; subst hch; subst hlen
  refine lv_aload_n hx hb dL_law_886 rfl (lv_at hl 1 rfl) ?_
  refine lv_aload_n hx hb dL_law_887 rfl (lv_at hl 0 rfl) ?_
  refine lv_iload_n hx hb dL_law_888 rfl (lv_at hl 3 rfl) ?_
  refine lv_iconst (v := nI 1) hx hb dL_law_889 (by decide) ?_
  refine fr_iadd (i) (1) hx hb dL_law_890 ?_
  refine fr_sld (i + 1) hx hb hX hbl hbA hS (by omega) hL dL_law_891 ?_
  refine fr_Vi (As := [.int (xs (i + 1))]) (rest := []) (fs' := [[(((AD 8) 0), .inr (5, [.ref ((AD 0) 0), .ref ((AD 1) 0), .ref ((AD 8) 1), .ref ((AD 9) 0), .ref ((AD 7) 0)]))], stW T (AD 0) ν, stW T (AD 1) τ, [(((AD 8) 1), .inr (2, [.ref ((AD 8) 2), .int (nI (od)), .int (nI (ct))]))], [(((AD 8) 2), .inl (T 3, 5, .inr (.inr (.inr (.inr (plA AD))))))], stW T (AD 2) (π 0), stW T (AD 3) (π 1), stW T (AD 4) (π 2), stW T (AD 5) (π 3), stW T (AD 6) (π 4), [(((AD 9) 0), .inr (4, [.ref ((AD 9) 1), .int (nI (if inn (xs (i + 1)) (nI 32) (nI 126) then (if len < 90 then len + 1 else len) else len)), .int (nI (q.1)), .int (nI (kd)), .ref ((AD 9) 2), .int (nI (q.2.2))]))], [(((AD 9) 1), .inl (T 2, 90, .inl (nf (if inn (xs (i + 1)) (nI 32) (nI 126) then (if len < 90 then updN ch len (tn (xs (i + 1))) else ch) else ch))))], [(((AD 9) 2), .inl (T 0, 5, .inl (nf q.2.1)))], blW T (AD 7) β, [((md 0), .inr (6, [.ref (md 1), .int (nI (ct)), .ref (md 2), .int (nI (len)), .int (nI (p)), .int (nI (le)), .ref (md 3), .ref (md 4)]))], [((md 1), .inl (T 0, 1872, .inl (σ)))], [((md 2), .inl (T 0, 90, .inl (nf ch)))], [((md 3), .inl (T 0, 5, .inl (nf nu)))], [((md 4), .inl (T 0, 48, .inl (ρ)))]]) (ci := 5) (q0 := (RX5, TX5, 5)) (i0 := 0) ⟨hx, hb, hml, hown, hts⟩ (kX5_append l D T Z AD ch len kd q (xs (i + 1)) hI.2.2.1) (cwV 1 hts gL_law_X5_append rfl rfl rfl (by decide +kernel) ⟨Nat.le_of_ble_eq_true rfl, Nat.le_of_ble_eq_true rfl⟩) hK hN hM hP hD hS hA [0, 10, 11, 12] rfl rfl rfl rfl rfl rfl hl.1 rfl (Nat.le_of_ble_eq_true rfl) dL_law_892 ⟨Nat.le_of_ble_eq_true rfl, Nat.le_of_ble_eq_true rfl⟩ (fun H locs hP hD hS => ?_)
  refine lv_aload_n hx hb dL_law_895 rfl (lv_at hl 2 rfl) ?_
  refine lv_aload_n hx hb dL_law_896 rfl (lv_at hl 0 rfl) ?_
  refine lv_iload_n hx hb dL_law_897 rfl (lv_at hl 3 rfl) ?_
  refine lv_iconst (v := nI 1) hx hb dL_law_898 (by decide) ?_
  refine fr_iadd (i) (1) hx hb dL_law_899 ?_
  refine fr_sld (i + 1) hx hb hX hbl hbA hS (by omega) hL dL_law_900 ?_
  refine fr_Vi (As := [.int (xs (i + 1))]) (rest := [.int (if inn (xs (i + 1)) (nI 32) (nI 126) then (if len < 90 then nI (len + 1) else -4) else -2)]) (fs' := [[(((AD 8) 0), .inr (5, [.ref ((AD 0) 0), .ref ((AD 1) 0), .ref ((AD 8) 1), .ref ((AD 9) 0), .ref ((AD 7) 0)]))], stW T (AD 0) ν, stW T (AD 1) τ, [(((AD 8) 1), .inr (2, [.ref ((AD 8) 2), .int (nI (od)), .int (nI (ct))]))], [(((AD 8) 2), .inl (T 3, 5, .inr (.inr (.inr (.inr (plA AD))))))], stW T (AD 2) (π 0), stW T (AD 3) (π 1), stW T (AD 4) (π 2), stW T (AD 5) (π 3), stW T (AD 6) (π 4), [(((AD 9) 0), .inr (4, [.ref ((AD 9) 1), .int (nI (if inn (xs (i + 1)) (nI 32) (nI 126) then (if len < 90 then len + 1 else len) else len)), .int (nI (q.1)), .int (nI (kd)), .ref ((AD 9) 2), .int (nI (q.2.2))]))], [(((AD 9) 1), .inl (T 2, 90, .inl (nf (if inn (xs (i + 1)) (nI 32) (nI 126) then (if len < 90 then updN ch len (tn (xs (i + 1))) else ch) else ch))))], [(((AD 9) 2), .inl (T 0, 5, .inl (nf q.2.1)))], blW T (AD 7) β, [((md 0), .inr (6, [.ref (md 1), .int (nI (ct)), .ref (md 2), .int (nI (if inn (xs (i + 1)) (nI 32) (nI 126) then (if len = 90 then len else len + 1) else len)), .int (nI (p)), .int (nI (le)), .ref (md 3), .ref (md 4)]))], [((md 1), .inl (T 0, 1872, .inl (σ)))], [((md 2), .inl (T 0, 90, .inl (nf (if inn (xs (i + 1)) (nI 32) (nI 126) then (if len = 90 then ch else updN ch len (tn (xs (i + 1)))) else ch))))], [((md 3), .inl (T 0, 5, .inl (nf nu)))], [((md 4), .inl (T 0, 48, .inl (ρ)))]]) (ci := 6) (q0 := (RX6, TX6, 8)) (i0 := 14) ⟨hx, hb, hml, hown, hts⟩ (kX6_append l D T Z md ct len p le ch (xs (i + 1)) hI.2.2.1) (cwV 1 hts gL_law_X6_append rfl rfl rfl (by decide +kernel) ⟨Nat.le_of_ble_eq_true rfl, Nat.le_of_ble_eq_true rfl⟩) hK hN hM hP hD hS hA [14, 16] rfl rfl rfl rfl rfl rfl hl.1 rfl (Nat.le_of_ble_eq_true rfl) dL_law_901 ⟨Nat.le_of_ble_eq_true rfl, Nat.le_of_ble_eq_true rfl⟩ (fun H locs hP hD hS => ?_)
  have hE8 := hI.app (x := xs (i + 1))
  have hE9 := hE8.2.1
  refine lv_icmp_eq (tgt := 1526) hx hb dL_law_904 (by decide) (fun _ => ?_) (fun z => absurd hE9 z)
  exact hn9 _ _ _ π _ _ _ _ _ _ _ _ _ _ _ _ _ _ hE8.1 rfl hE8.2.2.2.symm hE8.2.2.1.symm _ _ hP hD hS ls (lv_sub hl [0, 1, 2, 3] rfl)

set_option maxHeartbeats 8000000 in
set_option maxRecDepth 100000 in
theorem lc_17 (l : Launch) (pP : Program) (eE : Env) (s : State) (mM : MethodId) (bW : List Frame) (mE : Method) (cC : Code) (b L : Nat) (xs : Nat → Int32) (D : va_G) (T : Nat → ClassId) (Z : ZZ) (AD : Nat → Nat → Nat) (md : Nat → Nat) (i : Nat) (hi9 : i + 6 ≤ L) (hC : LC pP s mM cC b L xs D T Z) (hn9 : LWat l pP eE s mM bW mE cC b L xs D T Z AD md i 1526) : LWat l pP eE s mM bW mE cC b L xs D T Z AD md i 909 := by
  obtain ⟨hx, hb, hml, hown, hts, hK, hN, hM, hX, hbl, hL⟩ := hC
  have hA : ∀ q : Nat, s.heap.size ≤ q → (fun q : Nat => s.heap.size ≤ q) q := fun _ h => h
  have hbA : ¬ (fun q : Nat => s.heap.size ≤ q) b := Nat.not_le.mpr hbl
  intro ν od ct π τ β ch len kd q p le σ nu ρ n ch2 len2 hI hn hch hlen H locs hP hD hS ls hl
  subst hn; subst hch; subst hlen
  refine lv_aload_n hx hb dL_law_909 rfl (lv_at hl 1 rfl) ?_
  refine fr_Vi (As := []) (rest := []) (fs' := [[(((AD 8) 0), .inr (5, [.ref ((AD 0) 0), .ref ((AD 1) 0), .ref ((AD 8) 1), .ref ((AD 9) 0), .ref ((AD 7) 0)]))], stW T (AD 0) ν, stW T (AD 1) τ, [(((AD 8) 1), .inr (2, [.ref ((AD 8) 2), .int (nI (od)), .int (nI (ct))]))], [(((AD 8) 2), .inl (T 3, 5, .inr (.inr (.inr (.inr (plA AD))))))], stW T (AD 2) (π 0), stW T (AD 3) (π 1), stW T (AD 4) (π 2), stW T (AD 5) (π 3), stW T (AD 6) (π 4), [(((AD 9) 0), .inr (4, [.ref ((AD 9) 1), .int (nI 0), .int (nI (q.1)), .int (nI (kd)), .ref ((AD 9) 2), .int (nI (q.2.2))]))], [(((AD 9) 1), .inl (T 2, 90, .inl (nf ch)))], [(((AD 9) 2), .inl (T 0, 5, .inl (nf q.2.1)))], blW T (AD 7) β, [((md 0), .inr (6, [.ref (md 1), .int (nI (ct)), .ref (md 2), .int (nI (len)), .int (nI (p)), .int (nI (le)), .ref (md 3), .ref (md 4)]))], [((md 1), .inl (T 0, 1872, .inl (σ)))], [((md 2), .inl (T 0, 90, .inl (nf ch)))], [((md 3), .inl (T 0, 5, .inl (nf nu)))], [((md 4), .inl (T 0, 48, .inl (ρ)))]]) (ci := 5) (q0 := (RX5, TX5, 5)) (i0 := 0) ⟨hx, hb, hml, hown, hts⟩ (kX5_clearText l D T Z AD ch len kd q) (cwV 0 hts gL_law_X5_clearText rfl rfl rfl (by decide +kernel) ⟨Nat.le_of_ble_eq_true rfl, Nat.le_of_ble_eq_true rfl⟩) hK hN hM hP hD hS hA [0, 10, 11, 12] rfl rfl rfl rfl rfl rfl hl.1 rfl (Nat.le_of_ble_eq_true rfl) dL_law_910 ⟨Nat.le_of_ble_eq_true rfl, Nat.le_of_ble_eq_true rfl⟩ (fun H locs hP hD hS => ?_)
  refine lv_aload_n hx hb dL_law_913 rfl (lv_at hl 2 rfl) ?_
  refine fr_Vi (As := []) (rest := [.int (nI (len))]) (fs' := [[(((AD 8) 0), .inr (5, [.ref ((AD 0) 0), .ref ((AD 1) 0), .ref ((AD 8) 1), .ref ((AD 9) 0), .ref ((AD 7) 0)]))], stW T (AD 0) ν, stW T (AD 1) τ, [(((AD 8) 1), .inr (2, [.ref ((AD 8) 2), .int (nI (od)), .int (nI (ct))]))], [(((AD 8) 2), .inl (T 3, 5, .inr (.inr (.inr (.inr (plA AD))))))], stW T (AD 2) (π 0), stW T (AD 3) (π 1), stW T (AD 4) (π 2), stW T (AD 5) (π 3), stW T (AD 6) (π 4), [(((AD 9) 0), .inr (4, [.ref ((AD 9) 1), .int (nI 0), .int (nI (q.1)), .int (nI (kd)), .ref ((AD 9) 2), .int (nI (q.2.2))]))], [(((AD 9) 1), .inl (T 2, 90, .inl (nf ch)))], [(((AD 9) 2), .inl (T 0, 5, .inl (nf q.2.1)))], blW T (AD 7) β, [((md 0), .inr (6, [.ref (md 1), .int (nI (ct)), .ref (md 2), .int (nI 0), .int (nI (p)), .int (nI (le)), .ref (md 3), .ref (md 4)]))], [((md 1), .inl (T 0, 1872, .inl (σ)))], [((md 2), .inl (T 0, 90, .inl (nf ch)))], [((md 3), .inl (T 0, 5, .inl (nf nu)))], [((md 4), .inl (T 0, 48, .inl (ρ)))]]) (ci := 6) (q0 := (RX6, TX6, 8)) (i0 := 14) ⟨hx, hb, hml, hown, hts⟩ (kX6_clearText l D T Z md ct len p le ch nu) (cwV 0 hts gL_law_X6_clearText rfl rfl rfl (by decide +kernel) ⟨Nat.le_of_ble_eq_true rfl, Nat.le_of_ble_eq_true rfl⟩) hK hN hM hP hD hS hA [14, 16] rfl rfl rfl rfl rfl rfl hl.1 rfl (Nat.le_of_ble_eq_true rfl) dL_law_914 ⟨Nat.le_of_ble_eq_true rfl, Nat.le_of_ble_eq_true rfl⟩ (fun H locs hP hD hS => ?_)
  have hE9 : nI len = nI len := rfl
  refine lv_icmp_eq (tgt := 1526) hx hb dL_law_917 (by decide) (fun _ => ?_) (fun z => absurd hE9 z)
  exact hn9 _ _ _ π _ _ _ _ _ _ _ _ _ _ _ _ _ _ hI.clr rfl rfl rfl _ _ hP hD hS ls (lv_sub hl [0, 1, 2, 3] rfl)
