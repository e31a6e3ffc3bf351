
set_option maxHeartbeats 8000000 in
set_option maxRecDepth 100000 in
theorem kX6_isFaultDone (l : Launch) (D : va_G) (T : Nat → ClassId) (Z : ZZ) (md : Nat → Nat) (n : Nat) (len : Nat) (p : Nat) (le : Nat) (σ : MS) (b : Nat) (t : Nat) (r : Nat) (hb9 : b ≤ 1560) (ht : t < 4) (hr9 : r < 4) : CtI l D T Z yX6_isFaultDone wsX6_isFaultDone ({ frames := 1, cells := 0, slots := 0, locals := 22 }) [[((md 0), .inr (6, [.ref (md 1), .int (nI (n)), .ref (md 2), .int (nI (len)), .int (nI (p)), .int (nI (le)), .ref (md 3), .ref (md 4)]))], [((md 1), .inl (T 0, 1872, .inl (σ)))]] [.ref (md 0), .int (nI (b)), .int (nI (t)), .int (nI (r))] (bI (mM2 σ b t)) [[((md 0), .inr (6, [.ref (md 1), .int (nI (n)), .ref (md 2), .int (nI (len)), .int (nI (p)), .int (nI (le)), .ref (md 3), .ref (md 4)]))], [((md 1), .inl (T 0, 1872, .inl (mF6 σ b t r)))]] := by
  have hrg : rgt b t r = b + 192 + 3 * (4 * t + r) := rfl
  refine CtI.of (cc := cX6_isFaultDone) (maxL := 6) (ret := (some .boolean)) (plainFor_of_name (by decide)) rfl rfl ?_
  intro pP eE s mM bW mE cC A hE hK hN hM hP hD hA
  obtain ⟨hx, hb, hr, hts, hown, hml, hlk⟩ := hE
  have hown : s.vm.findClass RX6 = some mM.cls := hown
  have hS : va_S A s.heap s.heap [] := va_S.rf
  have hl := lv_entry ([.ref (md 0), .int (nI (b)), .int (nI (t)), .int (nI (r))]) (n := 6) (Nat.le_of_ble_eq_true rfl)
  rw [lg_entry_eq]
  generalize (lg_sl ([.ref (md 0), .int (nI (b)), .int (nI (t)), .int (nI (r))]) ++ List.replicate (6 - (lg_sl ([.ref (md 0), .int (nI (b)), .int (nI (t)), .int (nI (r))])).length) Slot.unset).toArray = ls at hl ⊢
  have hl : lv_has ls 6 [(0, .ref (md 0)), (1, .int (nI (b))), (2, .int (nI (t))), (3, .int (nI (r)))] := hl
  have w_7 := hts (.fieldLink RX6 7 "PoisonedMemoryModel" "s" "[I") (by decide +kernel)
  have hinX6 : ∀ w ∈ wsX60, w ∈ wsX6_isFaultDone := by decide +kernel
  refine lv_aload_n hx hb dX6_isFaultDone_0 rfl (lv_at hl 0 rfl) ?_
  refine va_get (D := D) (ci := 6) (v := .ref (md 1)) (C := RX6) (T := TX6) (N := 8) hx hb hts hinX6 hown hK (hP.at 0 rfl) 0 rfl rfl 0 (by decide) w_7 (fun _ h9 => h9) rfl dX6_isFaultDone_1 ?_
  refine lv_iload_n hx hb dX6_isFaultDone_4 rfl (lv_at hl 1 rfl) ?_
  refine lv_sipush (v := nI 248) hx hb dX6_isFaultDone_5 (by decide) ?_
  refine fr_iadd (b) (248) hx hb dX6_isFaultDone_8 ?_
  refine lv_iload_n hx hb dX6_isFaultDone_9 rfl (lv_at hl 2 rfl) ?_
  refine fr_iadd ((b + 248)) (t) hx hb dX6_isFaultDone_10 ?_
  refine fr_iald hx hb hK hP 1 (((b + 248) + t)) rfl (by omega) (by omega) dX6_isFaultDone_11 ?_
  refine lv_istore (lv' := [(4, .int (σ ((b + 248) + t))), (0, .ref (md 0)), (1, .int (nI (b))), (2, .int (nI (t))), (3, .int (nI (r)))]) hx hb dX6_isFaultDone_12 hl (by decide) rfl (fun ls hl => ?_)
  refine lv_bipush (v := nI 31) hx hb dX6_isFaultDone_14 (by decide) ?_
  refine lv_istore (lv' := [(5, .int (nI 31)), (4, .int (σ ((b + 248) + t))), (0, .ref (md 0)), (1, .int (nI (b))), (2, .int (nI (t))), (3, .int (nI (r)))]) hx hb dX6_isFaultDone_16 hl (by decide) rfl (fun ls hl => ?_)
  have loop18 : ∀ (n9 k9 : Nat), k9 ≤ 28 → 28 < k9 + n9 → ∀ (H : Heap) (locs : List Loc), frP D [[((md 0), .inr (6, [.ref (md 1), .int (nI (n)), .ref (md 2), .int (nI (len)), .int (nI (p)), .int (nI (le)), .ref (md 3), .ref (md 4)]))], [((md 1), .inl (T 0, 1872, .inl (shN σ b k9)))]] H → va_D A ([[((md 0), .inr (6, [.ref (md 1), .int (nI (n)), .ref (md 2), .int (nI (len)), .int (nI (p)), .int (nI (le)), .ref (md 3), .ref (md 4)]))], [((md 1), .inl (T 0, 1872, .inl (shN σ b k9)))]] : List va_W).flatten → va_S A s.heap H locs → ∀ (ls : Array Slot), lv_has ls 6 [(5, .int (nI ((31 - k9)))), (4, .int (σ ((b + 248) + t))), (0, .ref (md 0)), (1, .int (nI (b))), (2, .int (nI (t))), (3, .int (nI (r)))] → W pP l eE ({ frames := 1, cells := 0, slots := 0, locals := 22 }) s mM ([.ref (md 0), .int (nI (b)), .int (nI (t)), .int (nI (r))] : List Value).toArray bW mE cC H locs 0 0 (MQ bW (QcI D [[((md 0), .inr (6, [.ref (md 1), .int (nI (n)), .ref (md 2), .int (nI (len)), .int (nI (p)), .int (nI (le)), .ref (md 3), .ref (md 4)]))], [((md 1), .inl (T 0, 1872, .inl (mF6 σ b t r)))]] (bI (mM2 σ b t)) A) ([.ref (md 0), .int (nI (b)), .int (nI (t)), .int (nI (r))] : List Value).toArray s 0 0 A) (F0 mM 18 ls []) := by
    intro n9
    induction n9 with
    | zero => intro k9 h1 h2; exact absurd h2 (by omega)
    | succ n9 ih =>
      intro k9 hk1 hk2 H locs hP hD hS ls hl
      refine lv_iload hx hb dX6_isFaultDone_18 (lv_at hl 0 rfl) ?_
      refine lv_iconst (v := nI 3) hx hb dX6_isFaultDone_20 (by decide) ?_
      refine fr_icmp_le ((31 - k9)) (3) (by omega) (by decide) (tgt := 58) hx hb dX6_isFaultDone_21 (by decide) (fun c_1 => ?_) (fun c_1 => ?_)
      · have c_1' := Nat.not_lt.mpr c_1
        obtain rfl : k9 = 28 := by omega
        refine lv_aload_n hx hb dX6_isFaultDone_58 rfl (lv_at hl 2 rfl) ?_
        refine va_get (D := D) (ci := 6) (v := .ref (md 1)) (C := RX6) (T := TX6) (N := 8) hx hb hts hinX6 hown hK (hP.at 0 rfl) 0 rfl rfl 0 (by decide) w_7 (fun _ h9 => h9) rfl dX6_isFaultDone_59 ?_
        refine lv_iload_n hx hb dX6_isFaultDone_62 rfl (lv_at hl 3 rfl) ?_
        refine lv_sipush (v := nI 278) hx hb dX6_isFaultDone_63 (by decide) ?_
        refine fr_iadd (b) (278) hx hb dX6_isFaultDone_66 ?_
        refine lv_iload_n hx hb dX6_isFaultDone_67 rfl (lv_at hl 4 rfl) ?_
        refine fr_iast (fs' := [[((md 0), .inr (6, [.ref (md 1), .int (nI (n)), .ref (md 2), .int (nI (len)), .int (nI (p)), .int (nI (le)), .ref (md 3), .ref (md 4)]))], [((md 1), .inl (T 0, 1872, .inl (upd (shN σ b 28) (b + 278) (nI (t)))))]]) hx hb hK hP hD hS 1 ((b + 278)) rfl rfl (by omega) (by omega) dX6_isFaultDone_68 (fun H locs hP hD hS => ?_)
        refine lv_aload_n hx hb dX6_isFaultDone_69 rfl (lv_at hl 2 rfl) ?_
        refine va_get (D := D) (ci := 6) (v := .ref (md 1)) (C := RX6) (T := TX6) (N := 8) hx hb hts hinX6 hown hK (hP.at 0 rfl) 0 rfl rfl 0 (by decide) w_7 (fun _ h9 => h9) rfl dX6_isFaultDone_70 ?_
        refine lv_iload_n hx hb dX6_isFaultDone_73 rfl (lv_at hl 3 rfl) ?_
        refine lv_sipush (v := nI 278) hx hb dX6_isFaultDone_74 (by decide) ?_
        refine fr_iadd (b) (278) hx hb dX6_isFaultDone_77 ?_
        refine lv_iconst (v := nI 1) hx hb dX6_isFaultDone_78 (by decide) ?_
        refine fr_iadd ((b + 278)) (1) hx hb dX6_isFaultDone_79 ?_
        refine lv_iload_n hx hb dX6_isFaultDone_80 rfl (lv_at hl 5 rfl) ?_
        refine fr_iast (fs' := [[((md 0), .inr (6, [.ref (md 1), .int (nI (n)), .ref (md 2), .int (nI (len)), .int (nI (p)), .int (nI (le)), .ref (md 3), .ref (md 4)]))], [((md 1), .inl (T 0, 1872, .inl (upd (upd (shN σ b 28) (b + 278) (nI (t))) ((b + 278) + 1) (nI (r)))))]]) hx hb hK hP hD hS 1 (((b + 278) + 1)) rfl rfl (by omega) (by omega) dX6_isFaultDone_81 (fun H locs hP hD hS => ?_)
        refine lv_aload_n hx hb dX6_isFaultDone_82 rfl (lv_at hl 2 rfl) ?_
        refine va_get (D := D) (ci := 6) (v := .ref (md 1)) (C := RX6) (T := TX6) (N := 8) hx hb hts hinX6 hown hK (hP.at 0 rfl) 0 rfl rfl 0 (by decide) w_7 (fun _ h9 => h9) rfl dX6_isFaultDone_83 ?_
        refine lv_iload_n hx hb dX6_isFaultDone_86 rfl (lv_at hl 3 rfl) ?_
        refine lv_sipush (v := nI 278) hx hb dX6_isFaultDone_87 (by decide) ?_
        refine fr_iadd (b) (278) hx hb dX6_isFaultDone_90 ?_
        refine lv_iconst (v := nI 2) hx hb dX6_isFaultDone_91 (by decide) ?_
        refine fr_iadd ((b + 278)) (2) hx hb dX6_isFaultDone_92 ?_
        refine lv_aload_n hx hb dX6_isFaultDone_93 rfl (lv_at hl 2 rfl) ?_
        refine va_get (D := D) (ci := 6) (v := .ref (md 1)) (C := RX6) (T := TX6) (N := 8) hx hb hts hinX6 hown hK (hP.at 0 rfl) 0 rfl rfl 0 (by decide) w_7 (fun _ h9 => h9) rfl dX6_isFaultDone_94 ?_
        refine lv_iload_n hx hb dX6_isFaultDone_97 rfl (lv_at hl 3 rfl) ?_
        refine lv_iload_n hx hb dX6_isFaultDone_98 rfl (lv_at hl 4 rfl) ?_
        refine lv_iload_n hx hb dX6_isFaultDone_99 rfl (lv_at hl 5 rfl) ?_
        refine fr_S0 (As := [.int (nI (b)), .int (nI (t)), .int (nI (r))]) (rest := [.ref (md 1), .int (nI (((b + 278) + 2))), .ref (md 1)]) ⟨hx, hb, hml, hown, hts⟩ (kX6_registerAt l D T Z b t r) (va_cwS 3 hts gX6_isFaultDone_X6_registerAt rfl rfl rfl (by decide +kernel) ⟨Nat.le_of_ble_eq_true rfl, Nat.le_of_ble_eq_true rfl⟩) hK hN hM hP hD hS hA rfl hl.1 rfl (Nat.le_of_ble_eq_true rfl) dX6_isFaultDone_100 ⟨Nat.zero_le _, Nat.zero_le _⟩ (fun H locs hP hD hS => ?_)
        refine lv_iconst (v := nI 1) hx hb dX6_isFaultDone_103 (by decide) ?_
        refine fr_iadd (rgt b t r) (1) hx hb dX6_isFaultDone_104 ?_
        refine fr_iald hx hb hK hP 1 ((rgt b t r + 1)) rfl (by omega) (by omega) dX6_isFaultDone_105 ?_
        refine fr_iast (fs' := [[((md 0), .inr (6, [.ref (md 1), .int (nI (n)), .ref (md 2), .int (nI (len)), .int (nI (p)), .int (nI (le)), .ref (md 3), .ref (md 4)]))], [((md 1), .inl (T 0, 1872, .inl (upd (upd (upd (shN σ b 28) (b + 278) (nI (t))) ((b + 278) + 1) (nI (r))) ((b + 278) + 2) ((upd (upd (shN σ b 28) (b + 278) (nI (t))) ((b + 278) + 1) (nI (r))) (rgt b t r + 1)))))]]) hx hb hK hP hD hS 1 (((b + 278) + 2)) rfl rfl (by omega) (by omega) dX6_isFaultDone_106 (fun H locs hP hD hS => ?_)
        refine lv_aload_n hx hb dX6_isFaultDone_107 rfl (lv_at hl 2 rfl) ?_
        refine va_get (D := D) (ci := 6) (v := .ref (md 1)) (C := RX6) (T := TX6) (N := 8) hx hb hts hinX6 hown hK (hP.at 0 rfl) 0 rfl rfl 0 (by decide) w_7 (fun _ h9 => h9) rfl dX6_isFaultDone_108 ?_
        refine lv_iload_n hx hb dX6_isFaultDone_111 rfl (lv_at hl 3 rfl) ?_
        refine lv_sipush (v := nI 278) hx hb dX6_isFaultDone_112 (by decide) ?_
        refine fr_iadd (b) (278) hx hb dX6_isFaultDone_115 ?_
        refine lv_iconst (v := nI 3) hx hb dX6_isFaultDone_116 (by decide) ?_
        refine fr_iadd ((b + 278)) (3) hx hb dX6_isFaultDone_117 ?_
        refine lv_iload hx hb dX6_isFaultDone_118 (lv_at hl 1 rfl) ?_
        refine fr_iast (fs' := [[((md 0), .inr (6, [.ref (md 1), .int (nI (n)), .ref (md 2), .int (nI (len)), .int (nI (p)), .int (nI (le)), .ref (md 3), .ref (md 4)]))], [((md 1), .inl (T 0, 1872, .inl (upd (upd (upd (upd (shN σ b 28) (b + 278) (nI (t))) ((b + 278) + 1) (nI (r))) ((b + 278) + 2) ((upd (upd (shN σ b 28) (b + 278) (nI (t))) ((b + 278) + 1) (nI (r))) (rgt b t r + 1))) ((b + 278) + 3) (σ ((b + 248) + t)))))]]) hx hb hK hP hD hS 1 (((b + 278) + 3)) rfl rfl (by omega) (by omega) dX6_isFaultDone_120 (fun H locs hP hD hS => ?_)
        refine lv_aload_n hx hb dX6_isFaultDone_121 rfl (lv_at hl 2 rfl) ?_
        refine va_get (D := D) (ci := 6) (v := .ref (md 1)) (C := RX6) (T := TX6) (N := 8) hx hb hts hinX6 hown hK (hP.at 0 rfl) 0 rfl rfl 0 (by decide) w_7 (fun _ h9 => h9) rfl dX6_isFaultDone_122 ?_
        refine lv_iload_n hx hb dX6_isFaultDone_125 rfl (lv_at hl 3 rfl) ?_
        refine lv_sipush (v := nI 277) hx hb dX6_isFaultDone_126 (by decide) ?_
        refine fr_iadd (b) (277) hx hb dX6_isFaultDone_129 ?_
        refine lv_dup2_11 hx hb dX6_isFaultDone_130 rfl rfl ?_
        refine fr_iald hx hb hK hP 1 ((b + 277)) rfl (by omega) (by omega) dX6_isFaultDone_131 ?_
        refine lv_aload_n hx hb dX6_isFaultDone_132 rfl (lv_at hl 2 rfl) ?_
        refine va_get (D := D) (ci := 6) (v := .ref (md 1)) (C := RX6) (T := TX6) (N := 8) hx hb hts hinX6 hown hK (hP.at 0 rfl) 0 rfl rfl 0 (by decide) w_7 (fun _ h9 => h9) rfl dX6_isFaultDone_133 ?_
        refine lv_iload_n hx hb dX6_isFaultDone_136 rfl (lv_at hl 3 rfl) ?_
        refine lv_sipush (v := nI 277) hx hb dX6_isFaultDone_137 (by decide) ?_
        refine fr_iadd (b) (277) hx hb dX6_isFaultDone_140 ?_
        refine fr_iald hx hb hK hP 1 ((b + 277)) rfl (by omega) (by omega) dX6_isFaultDone_141 ?_
        refine lv_bipush (v := nI 8) hx hb dX6_isFaultDone_142 (by decide) ?_
        refine lv_icmp_ge (tgt := 151) hx hb dX6_isFaultDone_144 (by decide) (fun c_2 => ?_) (fun c_2 => ?_)
        · have c_2' := Int32.not_lt.mpr c_2
          refine lv_iconst (v := nI 0) hx hb dX6_isFaultDone_151 (by decide) ?_
          refine lv_iadd hx hb dX6_isFaultDone_152 ?_
          refine fr_iast (fs' := [[((md 0), .inr (6, [.ref (md 1), .int (nI (n)), .ref (md 2), .int (nI (len)), .int (nI (p)), .int (nI (le)), .ref (md 3), .ref (md 4)]))], [((md 1), .inl (T 0, 1872, .inl (upd (upd (upd (upd (upd (shN σ b 28) (b + 278) (nI (t))) ((b + 278) + 1) (nI (r))) ((b + 278) + 2) ((upd (upd (shN σ b 28) (b + 278) (nI (t))) ((b + 278) + 1) (nI (r))) (rgt b t r + 1))) ((b + 278) + 3) (σ ((b + 248) + t))) (b + 277) (((upd (upd (upd (upd (shN σ b 28) (b + 278) (nI (t))) ((b + 278) + 1) (nI (r))) ((b + 278) + 2) ((upd (upd (shN σ b 28) (b + 278) (nI (t))) ((b + 278) + 1) (nI (r))) (rgt b t r + 1))) ((b + 278) + 3) (σ ((b + 248) + t))) (b + 277)) + (nI 0)))))]]) hx hb hK hP hD hS 1 ((b + 277)) rfl rfl (by omega) (by omega) dX6_isFaultDone_153 (fun H locs hP hD hS => ?_)
          refine lv_aload_n hx hb dX6_isFaultDone_154 rfl (lv_at hl 2 rfl) ?_
          refine va_get (D := D) (ci := 6) (v := .ref (md 1)) (C := RX6) (T := TX6) (N := 8) hx hb hts hinX6 hown hK (hP.at 0 rfl) 0 rfl rfl 0 (by decide) w_7 (fun _ h9 => h9) rfl dX6_isFaultDone_155 ?_
          refine lv_iload_n hx hb dX6_isFaultDone_158 rfl (lv_at hl 3 rfl) ?_
          refine lv_sipush (v := nI 310) hx hb dX6_isFaultDone_159 (by decide) ?_
          refine fr_iadd (b) (310) hx hb dX6_isFaultDone_162 ?_
          refine lv_dup2_11 hx hb dX6_isFaultDone_163 rfl rfl ?_
          refine fr_iald hx hb hK hP 1 ((b + 310)) rfl (by omega) (by omega) dX6_isFaultDone_164 ?_
          refine lv_iconst (v := nI 1) hx hb dX6_isFaultDone_165 (by decide) ?_
          refine lv_iadd hx hb dX6_isFaultDone_166 ?_
          refine fr_iast (fs' := [[((md 0), .inr (6, [.ref (md 1), .int (nI (n)), .ref (md 2), .int (nI (len)), .int (nI (p)), .int (nI (le)), .ref (md 3), .ref (md 4)]))], [((md 1), .inl (T 0, 1872, .inl (upd (upd (upd (upd (upd (upd (shN σ b 28) (b + 278) (nI (t))) ((b + 278) + 1) (nI (r))) ((b + 278) + 2) ((upd (upd (shN σ b 28) (b + 278) (nI (t))) ((b + 278) + 1) (nI (r))) (rgt b t r + 1))) ((b + 278) + 3) (σ ((b + 248) + t))) (b + 277) (((upd (upd (upd (upd (shN σ b 28) (b + 278) (nI (t))) ((b + 278) + 1) (nI (r))) ((b + 278) + 2) ((upd (upd (shN σ b 28) (b + 278) (nI (t))) ((b + 278) + 1) (nI (r))) (rgt b t r + 1))) ((b + 278) + 3) (σ ((b + 248) + t))) (b + 277)) + (nI 0))) (b + 310) (((upd (upd (upd (upd (upd (shN σ b 28) (b + 278) (nI (t))) ((b + 278) + 1) (nI (r))) ((b + 278) + 2) ((upd (upd (shN σ b 28) (b + 278) (nI (t))) ((b + 278) + 1) (nI (r))) (rgt b t r + 1))) ((b + 278) + 3) (σ ((b + 248) + t))) (b + 277) (((upd (upd (upd (upd (shN σ b 28) (b + 278) (nI (t))) ((b + 278) + 1) (nI (r))) ((b + 278) + 2) ((upd (upd (shN σ b 28) (b + 278) (nI (t))) ((b + 278) + 1) (nI (r))) (rgt b t r + 1))) ((b + 278) + 3) (σ ((b + 248) + t))) (b + 277)) + (nI 0))) (b + 310)) + (nI 1)))))]]) hx hb hK hP hD hS 1 ((b + 310)) rfl rfl (by omega) (by omega) dX6_isFaultDone_167 (fun H locs hP hD hS => ?_)
          refine lv_aload_n hx hb dX6_isFaultDone_168 rfl (lv_at hl 2 rfl) ?_
          refine va_get (D := D) (ci := 6) (v := .ref (md 1)) (C := RX6) (T := TX6) (N := 8) hx hb hts hinX6 hown hK (hP.at 0 rfl) 0 rfl rfl 0 (by decide) w_7 (fun _ h9 => h9) rfl dX6_isFaultDone_169 ?_
          refine lv_iload_n hx hb dX6_isFaultDone_172 rfl (lv_at hl 3 rfl) ?_
          refine lv_sipush (v := nI 252) hx hb dX6_isFaultDone_173 (by decide) ?_
          refine fr_iadd (b) (252) hx hb dX6_isFaultDone_176 ?_
          refine lv_iload_n hx hb dX6_isFaultDone_177 rfl (lv_at hl 4 rfl) ?_
          refine fr_iadd ((b + 252)) (t) hx hb dX6_isFaultDone_178 ?_
          refine lv_iload hx hb dX6_isFaultDone_179 (lv_at hl 1 rfl) ?_
          refine lv_if_ne (tgt := 188) hx hb dX6_isFaultDone_181 (by decide) (fun c_3 => ?_) (fun c_3 => ?_)
          · refine lv_aload_n hx hb dX6_isFaultDone_188 rfl (lv_at hl 2 rfl) ?_
            refine va_get (D := D) (ci := 6) (v := .ref (md 1)) (C := RX6) (T := TX6) (N := 8) hx hb hts hinX6 hown hK (hP.at 0 rfl) 0 rfl rfl 0 (by decide) w_7 (fun _ h9 => h9) rfl dX6_isFaultDone_189 ?_
            refine lv_iload_n hx hb dX6_isFaultDone_192 rfl (lv_at hl 3 rfl) ?_
            refine lv_sipush (v := nI 252) hx hb dX6_isFaultDone_193 (by decide) ?_
            refine fr_iadd (b) (252) hx hb dX6_isFaultDone_196 ?_
            refine lv_iload_n hx hb dX6_isFaultDone_197 rfl (lv_at hl 4 rfl) ?_
            refine fr_iadd ((b + 252)) (t) hx hb dX6_isFaultDone_198 ?_
            refine fr_iald hx hb hK hP 1 (((b + 252) + t)) rfl (by omega) (by omega) dX6_isFaultDone_199 ?_
            refine fr_iast (fs' := [[((md 0), .inr (6, [.ref (md 1), .int (nI (n)), .ref (md 2), .int (nI (len)), .int (nI (p)), .int (nI (le)), .ref (md 3), .ref (md 4)]))], [((md 1), .inl (T 0, 1872, .inl (upd (upd (upd (upd (upd (upd (upd (shN σ b 28) (b + 278) (nI (t))) ((b + 278) + 1) (nI (r))) ((b + 278) + 2) ((upd (upd (shN σ b 28) (b + 278) (nI (t))) ((b + 278) + 1) (nI (r))) (rgt b t r + 1))) ((b + 278) + 3) (σ ((b + 248) + t))) (b + 277) (((upd (upd (upd (upd (shN σ b 28) (b + 278) (nI (t))) ((b + 278) + 1) (nI (r))) ((b + 278) + 2) ((upd (upd (shN σ b 28) (b + 278) (nI (t))) ((b + 278) + 1) (nI (r))) (rgt b t r + 1))) ((b + 278) + 3) (σ ((b + 248) + t))) (b + 277)) + (nI 0))) (b + 310) (((upd (upd (upd (upd (upd (shN σ b 28) (b + 278) (nI (t))) ((b + 278) + 1) (nI (r))) ((b + 278) + 2) ((upd (upd (shN σ b 28) (b + 278) (nI (t))) ((b + 278) + 1) (nI (r))) (rgt b t r + 1))) ((b + 278) + 3) (σ ((b + 248) + t))) (b + 277) (((upd (upd (upd (upd (shN σ b 28) (b + 278) (nI (t))) ((b + 278) + 1) (nI (r))) ((b + 278) + 2) ((upd (upd (shN σ b 28) (b + 278) (nI (t))) ((b + 278) + 1) (nI (r))) (rgt b t r + 1))) ((b + 278) + 3) (σ ((b + 248) + t))) (b + 277)) + (nI 0))) (b + 310)) + (nI 1))) ((b + 252) + t) ((upd (upd (upd (upd (upd (upd (shN σ b 28) (b + 278) (nI (t))) ((b + 278) + 1) (nI (r))) ((b + 278) + 2) ((upd (upd (shN σ b 28) (b + 278) (nI (t))) ((b + 278) + 1) (nI (r))) (rgt b t r + 1))) ((b + 278) + 3) (σ ((b + 248) + t))) (b + 277) (((upd (upd (upd (upd (shN σ b 28) (b + 278) (nI (t))) ((b + 278) + 1) (nI (r))) ((b + 278) + 2) ((upd (upd (shN σ b 28) (b + 278) (nI (t))) ((b + 278) + 1) (nI (r))) (rgt b t r + 1))) ((b + 278) + 3) (σ ((b + 248) + t))) (b + 277)) + (nI 0))) (b + 310) (((upd (upd (upd (upd (upd (shN σ b 28) (b + 278) (nI (t))) ((b + 278) + 1) (nI (r))) ((b + 278) + 2) ((upd (upd (shN σ b 28) (b + 278) (nI (t))) ((b + 278) + 1) (nI (r))) (rgt b t r + 1))) ((b + 278) + 3) (σ ((b + 248) + t))) (b + 277) (((upd (upd (upd (upd (shN σ b 28) (b + 278) (nI (t))) ((b + 278) + 1) (nI (r))) ((b + 278) + 2) ((upd (upd (shN σ b 28) (b + 278) (nI (t))) ((b + 278) + 1) (nI (r))) (rgt b t r + 1))) ((b + 278) + 3) (σ ((b + 248) + t))) (b + 277)) + (nI 0))) (b + 310)) + (nI 1))) ((b + 252) + t)))))]]) hx hb hK hP hD hS 1 (((b + 252) + t)) rfl rfl (by omega) (by omega) dX6_isFaultDone_200 (fun H locs hP hD hS => ?_)
            refine lv_iload hx hb dX6_isFaultDone_201 (lv_at hl 1 rfl) ?_
            refine lv_iconst (v := nI 2) hx hb dX6_isFaultDone_203 (by decide) ?_
            refine lv_icmp_ne (tgt := 211) hx hb dX6_isFaultDone_204 (by decide) (fun c_4 => ?_) (fun c_4 => ?_)
            · refine lv_iconst (v := nI 0) hx hb dX6_isFaultDone_211 (by decide) ?_
              exact fr_zret hx hb hr hlk hP hS (by first | (simp only [mM2, c_1, c_1', c_2, c_2', c_3, c_4, ↓reduceIte, Bool.false_eq_true, bI_true, bI_false, Bool.true_and, Bool.and_true, Bool.and_false, Bool.false_and, Bool.not_true, Bool.not_false, Bool.or_true, Bool.true_or, Bool.or_false, Bool.false_or, decide_true, decide_false] <;> rfl) | exact absurd (c_3.symm.trans c_4) (by decide)) (by have e4 : (if mF3 σ b t r (b + 277) < nI 8 then nI 1 else nI 0 : Int32) = nI 0 := if_neg c_2'; have e6 : (if σ (b + 248 + t) = 0 then nI 1 else mF5 σ b t r (b + 252 + t) : Int32) = mF5 σ b t r (b + 252 + t) := if_neg c_3; unfold mF6; rw [e6]; unfold mF5 mF4; rw [e4]; rfl) rfl dX6_isFaultDone_212
            · refine lv_iconst (v := nI 1) hx hb dX6_isFaultDone_207 (by decide) ?_
              refine lv_goto (tgt := 212) hx hb dX6_isFaultDone_208 (by decide) ?_
              exact fr_zret hx hb hr hlk hP hS (by first | (simp only [mM2, c_1, c_1', c_2, c_2', c_3, c_4, ↓reduceIte, Bool.false_eq_true, bI_true, bI_false, Bool.true_and, Bool.and_true, Bool.and_false, Bool.false_and, Bool.not_true, Bool.not_false, Bool.or_true, Bool.true_or, Bool.or_false, Bool.false_or, decide_true, decide_false] <;> rfl) | exact absurd (c_3.symm.trans c_4) (by decide)) (by have e4 : (if mF3 σ b t r (b + 277) < nI 8 then nI 1 else nI 0 : Int32) = nI 0 := if_neg c_2'; have e6 : (if σ (b + 248 + t) = 0 then nI 1 else mF5 σ b t r (b + 252 + t) : Int32) = mF5 σ b t r (b + 252 + t) := if_neg c_3; unfold mF6; rw [e6]; unfold mF5 mF4; rw [e4]; rfl) rfl dX6_isFaultDone_212
          · refine lv_iconst (v := nI 1) hx hb dX6_isFaultDone_184 (by decide) ?_
            refine lv_goto (tgt := 200) hx hb dX6_isFaultDone_185 (by decide) ?_
            refine fr_iast (fs' := [[((md 0), .inr (6, [.ref (md 1), .int (nI (n)), .ref (md 2), .int (nI (len)), .int (nI (p)), .int (nI (le)), .ref (md 3), .ref (md 4)]))], [((md 1), .inl (T 0, 1872, .inl (upd (upd (upd (upd (upd (upd (upd (shN σ b 28) (b + 278) (nI (t))) ((b + 278) + 1) (nI (r))) ((b + 278) + 2) ((upd (upd (shN σ b 28) (b + 278) (nI (t))) ((b + 278) + 1) (nI (r))) (rgt b t r + 1))) ((b + 278) + 3) (σ ((b + 248) + t))) (b + 277) (((upd (upd (upd (upd (shN σ b 28) (b + 278) (nI (t))) ((b + 278) + 1) (nI (r))) ((b + 278) + 2) ((upd (upd (shN σ b 28) (b + 278) (nI (t))) ((b + 278) + 1) (nI (r))) (rgt b t r + 1))) ((b + 278) + 3) (σ ((b + 248) + t))) (b + 277)) + (nI 0))) (b + 310) (((upd (upd (upd (upd (upd (shN σ b 28) (b + 278) (nI (t))) ((b + 278) + 1) (nI (r))) ((b + 278) + 2) ((upd (upd (shN σ b 28) (b + 278) (nI (t))) ((b + 278) + 1) (nI (r))) (rgt b t r + 1))) ((b + 278) + 3) (σ ((b + 248) + t))) (b + 277) (((upd (upd (upd (upd (shN σ b 28) (b + 278) (nI (t))) ((b + 278) + 1) (nI (r))) ((b + 278) + 2) ((upd (upd (shN σ b 28) (b + 278) (nI (t))) ((b + 278) + 1) (nI (r))) (rgt b t r + 1))) ((b + 278) + 3) (σ ((b + 248) + t))) (b + 277)) + (nI 0))) (b + 310)) + (nI 1))) ((b + 252) + t) (nI 1))))]]) hx hb hK hP hD hS 1 (((b + 252) + t)) rfl rfl (by omega) (by omega) dX6_isFaultDone_200 (fun H locs hP hD hS => ?_)
            refine lv_iload hx hb dX6_isFaultDone_201 (lv_at hl 1 rfl) ?_
            refine lv_iconst (v := nI 2) hx hb dX6_isFaultDone_203 (by decide) ?_
            refine lv_icmp_ne (tgt := 211) hx hb dX6_isFaultDone_204 (by decide) (fun c_5 => ?_) (fun c_5 => ?_)
            · refine lv_iconst (v := nI 0) hx hb dX6_isFaultDone_211 (by decide) ?_
              exact fr_zret hx hb hr hlk hP hS (by first | (simp only [mM2, c_1, c_1', c_2, c_2', c_3, c_5, ↓reduceIte, Bool.false_eq_true, bI_true, bI_false, Bool.true_and, Bool.and_true, Bool.and_false, Bool.false_and, Bool.not_true, Bool.not_false, Bool.or_true, Bool.true_or, Bool.or_false, Bool.false_or, decide_true, decide_false] <;> rfl) | exact absurd (c_3.symm.trans c_5) (by decide)) (by have e4 : (if mF3 σ b t r (b + 277) < nI 8 then nI 1 else nI 0 : Int32) = nI 0 := if_neg c_2'; have e6 : (if σ (b + 248 + t) = 0 then nI 1 else mF5 σ b t r (b + 252 + t) : Int32) = nI 1 := if_pos c_3; unfold mF6; rw [e6]; unfold mF5 mF4; rw [e4]; rfl) rfl dX6_isFaultDone_212
            · refine lv_iconst (v := nI 1) hx hb dX6_isFaultDone_207 (by decide) ?_
              refine lv_goto (tgt := 212) hx hb dX6_isFaultDone_208 (by decide) ?_
              exact fr_zret hx hb hr hlk hP hS (by first | (simp only [mM2, c_1, c_1', c_2, c_2', c_3, c_5, ↓reduceIte, Bool.false_eq_true, bI_true, bI_false, Bool.true_and, Bool.and_true, Bool.and_false, Bool.false_and, Bool.not_true, Bool.not_false, Bool.or_true, Bool.true_or, Bool.or_false, Bool.false_or, decide_true, decide_false] <;> rfl) | exact absurd (c_3.symm.trans c_5) (by decide)) (by have e4 : (if mF3 σ b t r (b + 277) < nI 8 then nI 1 else nI 0 : Int32) = nI 0 := if_neg c_2'; have e6 : (if σ (b + 248 + t) = 0 then nI 1 else mF5 σ b t r (b + 252 + t) : Int32) = nI 1 := if_pos c_3; unfold mF6; rw [e6]; unfold mF5 mF4; rw [e4]; rfl) rfl dX6_isFaultDone_212
        · have c_2' := Int32.not_le.mp c_2
          refine lv_iconst (v := nI 1) hx hb dX6_isFaultDone_147 (by decide) ?_
          refine lv_goto (tgt := 152) hx hb dX6_isFaultDone_148 (by decide) ?_
          refine lv_iadd hx hb dX6_isFaultDone_152 ?_
          refine fr_iast (fs' := [[((md 0), .inr (6, [.ref (md 1), .int (nI (n)), .ref (md 2), .int (nI (len)), .int (nI (p)), .int (nI (le)), .ref (md 3), .ref (md 4)]))], [((md 1), .inl (T 0, 1872, .inl (upd (upd (upd (upd (upd (shN σ b 28) (b + 278) (nI (t))) ((b + 278) + 1) (nI (r))) ((b + 278) + 2) ((upd (upd (shN σ b 28) (b + 278) (nI (t))) ((b + 278) + 1) (nI (r))) (rgt b t r + 1))) ((b + 278) + 3) (σ ((b + 248) + t))) (b + 277) (((upd (upd (upd (upd (shN σ b 28) (b + 278) (nI (t))) ((b + 278) + 1) (nI (r))) ((b + 278) + 2) ((upd (upd (shN σ b 28) (b + 278) (nI (t))) ((b + 278) + 1) (nI (r))) (rgt b t r + 1))) ((b + 278) + 3) (σ ((b + 248) + t))) (b + 277)) + (nI 1)))))]]) hx hb hK hP hD hS 1 ((b + 277)) rfl rfl (by omega) (by omega) dX6_isFaultDone_153 (fun H locs hP hD hS => ?_)
          refine lv_aload_n hx hb dX6_isFaultDone_154 rfl (lv_at hl 2 rfl) ?_
          refine va_get (D := D) (ci := 6) (v := .ref (md 1)) (C := RX6) (T := TX6) (N := 8) hx hb hts hinX6 hown hK (hP.at 0 rfl) 0 rfl rfl 0 (by decide) w_7 (fun _ h9 => h9) rfl dX6_isFaultDone_155 ?_
          refine lv_iload_n hx hb dX6_isFaultDone_158 rfl (lv_at hl 3 rfl) ?_
          refine lv_sipush (v := nI 310) hx hb dX6_isFaultDone_159 (by decide) ?_
          refine fr_iadd (b) (310) hx hb dX6_isFaultDone_162 ?_
          refine lv_dup2_11 hx hb dX6_isFaultDone_163 rfl rfl ?_
          refine fr_iald hx hb hK hP 1 ((b + 310)) rfl (by omega) (by omega) dX6_isFaultDone_164 ?_
          refine lv_iconst (v := nI 1) hx hb dX6_isFaultDone_165 (by decide) ?_
          refine lv_iadd hx hb dX6_isFaultDone_166 ?_
          refine fr_iast (fs' := [[((md 0), .inr (6, [.ref (md 1), .int (nI (n)), .ref (md 2), .int (nI (len)), .int (nI (p)), .int (nI (le)), .ref (md 3), .ref (md 4)]))], [((md 1), .inl (T 0, 1872, .inl (upd (upd (upd (upd (upd (upd (shN σ b 28) (b + 278) (nI (t))) ((b + 278) + 1) (nI (r))) ((b + 278) + 2) ((upd (upd (shN σ b 28) (b + 278) (nI (t))) ((b + 278) + 1) (nI (r))) (rgt b t r + 1))) ((b + 278) + 3) (σ ((b + 248) + t))) (b + 277) (((upd (upd (upd (upd (shN σ b 28) (b + 278) (nI (t))) ((b + 278) + 1) (nI (r))) ((b + 278) + 2) ((upd (upd (shN σ b 28) (b + 278) (nI (t))) ((b + 278) + 1) (nI (r))) (rgt b t r + 1))) ((b + 278) + 3) (σ ((b + 248) + t))) (b + 277)) + (nI 1))) (b + 310) (((upd (upd (upd (upd (upd (shN σ b 28) (b + 278) (nI (t))) ((b + 278) + 1) (nI (r))) ((b + 278) + 2) ((upd (upd (shN σ b 28) (b + 278) (nI (t))) ((b + 278) + 1) (nI (r))) (rgt b t r + 1))) ((b + 278) + 3) (σ ((b + 248) + t))) (b + 277) (((upd (upd (upd (upd (shN σ b 28) (b + 278) (nI (t))) ((b + 278) + 1) (nI (r))) ((b + 278) + 2) ((upd (upd (shN σ b 28) (b + 278) (nI (t))) ((b + 278) + 1) (nI (r))) (rgt b t r + 1))) ((b + 278) + 3) (σ ((b + 248) + t))) (b + 277)) + (nI 1))) (b + 310)) + (nI 1)))))]]) hx hb hK hP hD hS 1 ((b + 310)) rfl rfl (by omega) (by omega) dX6_isFaultDone_167 (fun H locs hP hD hS => ?_)
          refine lv_aload_n hx hb dX6_isFaultDone_168 rfl (lv_at hl 2 rfl) ?_
          refine va_get (D := D) (ci := 6) (v := .ref (md 1)) (C := RX6) (T := TX6) (N := 8) hx hb hts hinX6 hown hK (hP.at 0 rfl) 0 rfl rfl 0 (by decide) w_7 (fun _ h9 => h9) rfl dX6_isFaultDone_169 ?_
          refine lv_iload_n hx hb dX6_isFaultDone_172 rfl (lv_at hl 3 rfl) ?_
          refine lv_sipush (v := nI 252) hx hb dX6_isFaultDone_173 (by decide) ?_
          refine fr_iadd (b) (252) hx hb dX6_isFaultDone_176 ?_
          refine lv_iload_n hx hb dX6_isFaultDone_177 rfl (lv_at hl 4 rfl) ?_
          refine fr_iadd ((b + 252)) (t) hx hb dX6_isFaultDone_178 ?_
          refine lv_iload hx hb dX6_isFaultDone_179 (lv_at hl 1 rfl) ?_
          refine lv_if_ne (tgt := 188) hx hb dX6_isFaultDone_181 (by decide) (fun c_6 => ?_) (fun c_6 => ?_)
          · refine lv_aload_n hx hb dX6_isFaultDone_188 rfl (lv_at hl 2 rfl) ?_
            refine va_get (D := D) (ci := 6) (v := .ref (md 1)) (C := RX6) (T := TX6) (N := 8) hx hb hts hinX6 hown hK (hP.at 0 rfl) 0 rfl rfl 0 (by decide) w_7 (fun _ h9 => h9) rfl dX6_isFaultDone_189 ?_
            refine lv_iload_n hx hb dX6_isFaultDone_192 rfl (lv_at hl 3 rfl) ?_
            refine lv_sipush (v := nI 252) hx hb dX6_isFaultDone_193 (by decide) ?_
            refine fr_iadd (b) (252) hx hb dX6_isFaultDone_196 ?_
            refine lv_iload_n hx hb dX6_isFaultDone_197 rfl (lv_at hl 4 rfl) ?_
            refine fr_iadd ((b + 252)) (t) hx hb dX6_isFaultDone_198 ?_
            refine fr_iald hx hb hK hP 1 (((b + 252) + t)) rfl (by omega) (by omega) dX6_isFaultDone_199 ?_
            refine fr_iast (fs' := [[((md 0), .inr (6, [.ref (md 1), .int (nI (n)), .ref (md 2), .int (nI (len)), .int (nI (p)), .int (nI (le)), .ref (md 3), .ref (md 4)]))], [((md 1), .inl (T 0, 1872, .inl (upd (upd (upd (upd (upd (upd (upd (shN σ b 28) (b + 278) (nI (t))) ((b + 278) + 1) (nI (r))) ((b + 278) + 2) ((upd (upd (shN σ b 28) (b + 278) (nI (t))) ((b + 278) + 1) (nI (r))) (rgt b t r + 1))) ((b + 278) + 3) (σ ((b + 248) + t))) (b + 277) (((upd (upd (upd (upd (shN σ b 28) (b + 278) (nI (t))) ((b + 278) + 1) (nI (r))) ((b + 278) + 2) ((upd (upd (shN σ b 28) (b + 278) (nI (t))) ((b + 278) + 1) (nI (r))) (rgt b t r + 1))) ((b + 278) + 3) (σ ((b + 248) + t))) (b + 277)) + (nI 1))) (b + 310) (((upd (upd (upd (upd (upd (shN σ b 28) (b + 278) (nI (t))) ((b + 278) + 1) (nI (r))) ((b + 278) + 2) ((upd (upd (shN σ b 28) (b + 278) (nI (t))) ((b + 278) + 1) (nI (r))) (rgt b t r + 1))) ((b + 278) + 3) (σ ((b + 248) + t))) (b + 277) (((upd (upd (upd (upd (shN σ b 28) (b + 278) (nI (t))) ((b + 278) + 1) (nI (r))) ((b + 278) + 2) ((upd (upd (shN σ b 28) (b + 278) (nI (t))) ((b + 278) + 1) (nI (r))) (rgt b t r + 1))) ((b + 278) + 3) (σ ((b + 248) + t))) (b + 277)) + (nI 1))) (b + 310)) + (nI 1))) ((b + 252) + t) ((upd (upd (upd (upd (upd (upd (shN σ b 28) (b + 278) (nI (t))) ((b + 278) + 1) (nI (r))) ((b + 278) + 2) ((upd (upd (shN σ b 28) (b + 278) (nI (t))) ((b + 278) + 1) (nI (r))) (rgt b t r + 1))) ((b + 278) + 3) (σ ((b + 248) + t))) (b + 277) (((upd (upd (upd (upd (shN σ b 28) (b + 278) (nI (t))) ((b + 278) + 1) (nI (r))) ((b + 278) + 2) ((upd (upd (shN σ b 28) (b + 278) (nI (t))) ((b + 278) + 1) (nI (r))) (rgt b t r + 1))) ((b + 278) + 3) (σ ((b + 248) + t))) (b + 277)) + (nI 1))) (b + 310) (((upd (upd (upd (upd (upd (shN σ b 28) (b + 278) (nI (t))) ((b + 278) + 1) (nI (r))) ((b + 278) + 2) ((upd (upd (shN σ b 28) (b + 278) (nI (t))) ((b + 278) + 1) (nI (r))) (rgt b t r + 1))) ((b + 278) + 3) (σ ((b + 248) + t))) (b + 277) (((upd (upd (upd (upd (shN σ b 28) (b + 278) (nI (t))) ((b + 278) + 1) (nI (r))) ((b + 278) + 2) ((upd (upd (shN σ b 28) (b + 278) (nI (t))) ((b + 278) + 1) (nI (r))) (rgt b t r + 1))) ((b + 278) + 3) (σ ((b + 248) + t))) (b + 277)) + (nI 1))) (b + 310)) + (nI 1))) ((b + 252) + t)))))]]) hx hb hK hP hD hS 1 (((b + 252) + t)) rfl rfl (by omega) (by omega) dX6_isFaultDone_200 (fun H locs hP hD hS => ?_)
            refine lv_iload hx hb dX6_isFaultDone_201 (lv_at hl 1 rfl) ?_
            refine lv_iconst (v := nI 2) hx hb dX6_isFaultDone_203 (by decide) ?_
            refine lv_icmp_ne (tgt := 211) hx hb dX6_isFaultDone_204 (by decide) (fun c_7 => ?_) (fun c_7 => ?_)
            · refine lv_iconst (v := nI 0) hx hb dX6_isFaultDone_211 (by decide) ?_
              exact fr_zret hx hb hr hlk hP hS (by first | (simp only [mM2, c_1, c_1', c_2, c_2', c_6, c_7, ↓reduceIte, Bool.false_eq_true, bI_true, bI_false, Bool.true_and, Bool.and_true, Bool.and_false, Bool.false_and, Bool.not_true, Bool.not_false, Bool.or_true, Bool.true_or, Bool.or_false, Bool.false_or, decide_true, decide_false] <;> rfl) | exact absurd (c_6.symm.trans c_7) (by decide)) (by have e4 : (if mF3 σ b t r (b + 277) < nI 8 then nI 1 else nI 0 : Int32) = nI 1 := if_pos c_2'; have e6 : (if σ (b + 248 + t) = 0 then nI 1 else mF5 σ b t r (b + 252 + t) : Int32) = mF5 σ b t r (b + 252 + t) := if_neg c_6; unfold mF6; rw [e6]; unfold mF5 mF4; rw [e4]; rfl) rfl dX6_isFaultDone_212
            · refine lv_iconst (v := nI 1) hx hb dX6_isFaultDone_207 (by decide) ?_
              refine lv_goto (tgt := 212) hx hb dX6_isFaultDone_208 (by decide) ?_
              exact fr_zret hx hb hr hlk hP hS (by first | (simp only [mM2, c_1, c_1', c_2, c_2', c_6, c_7, ↓reduceIte, Bool.false_eq_true, bI_true, bI_false, Bool.true_and, Bool.and_true, Bool.and_false, Bool.false_and, Bool.not_true, Bool.not_false, Bool.or_true, Bool.true_or, Bool.or_false, Bool.false_or, decide_true, decide_false] <;> rfl) | exact absurd (c_6.symm.trans c_7) (by decide)) (by have e4 : (if mF3 σ b t r (b + 277) < nI 8 then nI 1 else nI 0 : Int32) = nI 1 := if_pos c_2'; have e6 : (if σ (b + 248 + t) = 0 then nI 1 else mF5 σ b t r (b + 252 + t) : Int32) = mF5 σ b t r (b + 252 + t) := if_neg c_6; unfold mF6; rw [e6]; unfold mF5 mF4; rw [e4]; rfl) rfl dX6_isFaultDone_212
          · refine lv_iconst (v := nI 1) hx hb dX6_isFaultDone_184 (by decide) ?_
            refine lv_goto (tgt := 200) hx hb dX6_isFaultDone_185 (by decide) ?_
            refine fr_iast (fs' := [[((md 0), .inr (6, [.ref (md 1), .int (nI (n)), .ref (md 2), .int (nI (len)), .int (nI (p)), .int (nI (le)), .ref (md 3), .ref (md 4)]))], [((md 1), .inl (T 0, 1872, .inl (upd (upd (upd (upd (upd (upd (upd (shN σ b 28) (b + 278) (nI (t))) ((b + 278) + 1) (nI (r))) ((b + 278) + 2) ((upd (upd (shN σ b 28) (b + 278) (nI (t))) ((b + 278) + 1) (nI (r))) (rgt b t r + 1))) ((b + 278) + 3) (σ ((b + 248) + t))) (b + 277) (((upd (upd (upd (upd (shN σ b 28) (b + 278) (nI (t))) ((b + 278) + 1) (nI (r))) ((b + 278) + 2) ((upd (upd (shN σ b 28) (b + 278) (nI (t))) ((b + 278) + 1) (nI (r))) (rgt b t r + 1))) ((b + 278) + 3) (σ ((b + 248) + t))) (b + 277)) + (nI 1))) (b + 310) (((upd (upd (upd (upd (upd (shN σ b 28) (b + 278) (nI (t))) ((b + 278) + 1) (nI (r))) ((b + 278) + 2) ((upd (upd (shN σ b 28) (b + 278) (nI (t))) ((b + 278) + 1) (nI (r))) (rgt b t r + 1))) ((b + 278) + 3) (σ ((b + 248) + t))) (b + 277) (((upd (upd (upd (upd (shN σ b 28) (b + 278) (nI (t))) ((b + 278) + 1) (nI (r))) ((b + 278) + 2) ((upd (upd (shN σ b 28) (b + 278) (nI (t))) ((b + 278) + 1) (nI (r))) (rgt b t r + 1))) ((b + 278) + 3) (σ ((b + 248) + t))) (b + 277)) + (nI 1))) (b + 310)) + (nI 1))) ((b + 252) + t) (nI 1))))]]) hx hb hK hP hD hS 1 (((b + 252) + t)) rfl rfl (by omega) (by omega) dX6_isFaultDone_200 (fun H locs hP hD hS => ?_)
            refine lv_iload hx hb dX6_isFaultDone_201 (lv_at hl 1 rfl) ?_
            refine lv_iconst (v := nI 2) hx hb dX6_isFaultDone_203 (by decide) ?_
            refine lv_icmp_ne (tgt := 211) hx hb dX6_isFaultDone_204 (by decide) (fun c_8 => ?_) (fun c_8 => ?_)
            · refine lv_iconst (v := nI 0) hx hb dX6_isFaultDone_211 (by decide) ?_
              exact fr_zret hx hb hr hlk hP hS (by first | (simp only [mM2, c_1, c_1', c_2, c_2', c_6, c_8, ↓reduceIte, Bool.false_eq_true, bI_true, bI_false, Bool.true_and, Bool.and_true, Bool.and_false, Bool.false_and, Bool.not_true, Bool.not_false, Bool.or_true, Bool.true_or, Bool.or_false, Bool.false_or, decide_true, decide_false] <;> rfl) | exact absurd (c_6.symm.trans c_8) (by decide)) (by have e4 : (if mF3 σ b t r (b + 277) < nI 8 then nI 1 else nI 0 : Int32) = nI 1 := if_pos c_2'; have e6 : (if σ (b + 248 + t) = 0 then nI 1 else mF5 σ b t r (b + 252 + t) : Int32) = nI 1 := if_pos c_6; unfold mF6; rw [e6]; unfold mF5 mF4; rw [e4]; rfl) rfl dX6_isFaultDone_212
            · refine lv_iconst (v := nI 1) hx hb dX6_isFaultDone_207 (by decide) ?_
              refine lv_goto (tgt := 212) hx hb dX6_isFaultDone_208 (by decide) ?_
              exact fr_zret hx hb hr hlk hP hS (by first | (simp only [mM2, c_1, c_1', c_2, c_2', c_6, c_8, ↓reduceIte, Bool.false_eq_true, bI_true, bI_false, Bool.true_and, Bool.and_true, Bool.and_false, Bool.false_and, Bool.not_true, Bool.not_false, Bool.or_true, Bool.true_or, Bool.or_false, Bool.false_or, decide_true, decide_false] <;> rfl) | exact absurd (c_6.symm.trans c_8) (by decide)) (by have e4 : (if mF3 σ b t r (b + 277) < nI 8 then nI 1 else nI 0 : Int32) = nI 1 := if_pos c_2'; have e6 : (if σ (b + 248 + t) = 0 then nI 1 else mF5 σ b t r (b + 252 + t) : Int32) = nI 1 := if_pos c_6; unfold mF6; rw [e6]; unfold mF5 mF4; rw [e4]; rfl) rfl dX6_isFaultDone_212
      · have c_1' := Nat.not_le.mpr c_1
        refine lv_aload_n hx hb dX6_isFaultDone_24 rfl (lv_at hl 2 rfl) ?_
        refine va_get (D := D) (ci := 6) (v := .ref (md 1)) (C := RX6) (T := TX6) (N := 8) hx hb hts hinX6 hown hK (hP.at 0 rfl) 0 rfl rfl 0 (by decide) w_7 (fun _ h9 => h9) rfl dX6_isFaultDone_25 ?_
        refine lv_iload_n hx hb dX6_isFaultDone_28 rfl (lv_at hl 3 rfl) ?_
        refine lv_sipush (v := nI 278) hx hb dX6_isFaultDone_29 (by decide) ?_
        refine fr_iadd (b) (278) hx hb dX6_isFaultDone_32 ?_
        refine lv_iload hx hb dX6_isFaultDone_33 (lv_at hl 0 rfl) ?_
        refine fr_iadd ((b + 278)) ((31 - k9)) hx hb dX6_isFaultDone_35 ?_
        refine lv_aload_n hx hb dX6_isFaultDone_36 rfl (lv_at hl 2 rfl) ?_
        refine va_get (D := D) (ci := 6) (v := .ref (md 1)) (C := RX6) (T := TX6) (N := 8) hx hb hts hinX6 hown hK (hP.at 0 rfl) 0 rfl rfl 0 (by decide) w_7 (fun _ h9 => h9) rfl dX6_isFaultDone_37 ?_
        refine lv_iload_n hx hb dX6_isFaultDone_40 rfl (lv_at hl 3 rfl) ?_
        refine lv_sipush (v := nI 278) hx hb dX6_isFaultDone_41 (by decide) ?_
        refine fr_iadd (b) (278) hx hb dX6_isFaultDone_44 ?_
        refine lv_iload hx hb dX6_isFaultDone_45 (lv_at hl 0 rfl) ?_
        refine fr_iadd ((b + 278)) ((31 - k9)) hx hb dX6_isFaultDone_47 ?_
        refine lv_iconst (v := nI 4) hx hb dX6_isFaultDone_48 (by decide) ?_
        refine fr_isub (((b + 278) + (31 - k9))) (4) (by omega) hx hb dX6_isFaultDone_49 ?_
        refine fr_iald hx hb hK hP 1 ((((b + 278) + (31 - k9)) - 4)) rfl (by omega) (by omega) dX6_isFaultDone_50 ?_
        refine fr_iast (fs' := [[((md 0), .inr (6, [.ref (md 1), .int (nI (n)), .ref (md 2), .int (nI (len)), .int (nI (p)), .int (nI (le)), .ref (md 3), .ref (md 4)]))], [((md 1), .inl (T 0, 1872, .inl (upd (shN σ b k9) ((b + 278) + (31 - k9)) ((shN σ b k9) (((b + 278) + (31 - k9)) - 4)))))]]) hx hb hK hP hD hS 1 (((b + 278) + (31 - k9))) rfl rfl (by omega) (by omega) dX6_isFaultDone_51 (fun H locs hP hD hS => ?_)
        refine fr_iinc ((31 - k9)) (((31 - k9) - 1)) (nI_dec 1 (by omega) _ (by decide)) (lv' := [(5, .int (nI (((31 - k9) - 1)))), (4, .int (σ ((b + 248) + t))), (0, .ref (md 0)), (1, .int (nI (b))), (2, .int (nI (t))), (3, .int (nI (r)))]) (k := 0) hx hb dX6_isFaultDone_52 hl rfl (by decide) rfl (fun ls hl => ?_)
        refine lv_goto (tgt := 18) hx hb dX6_isFaultDone_55 (by decide) ?_
        have q_9 : (nI (((31 - k9) - 1)) : Int32) = nI ((31 - (k9 + 1))) := (by first | rfl | (simp only [c_1, c_1', ↓reduceIte, Bool.false_eq_true, bI_true, bI_false, Bool.true_and, Bool.and_true, Bool.and_false, Bool.false_and, Bool.not_true, Bool.not_false, Bool.or_true, Bool.true_or, Bool.or_false, Bool.false_or] <;> rfl) | (simp [c_1, c_1']; done))
        rw [q_9] at hl
        have q_10 : ([[((md 0), .inr (6, [.ref (md 1), .int (nI (n)), .ref (md 2), .int (nI (len)), .int (nI (p)), .int (nI (le)), .ref (md 3), .ref (md 4)]))], [((md 1), .inl (T 0, 1872, .inl (upd (shN σ b k9) ((b + 278) + (31 - k9)) ((shN σ b k9) (((b + 278) + (31 - k9)) - 4)))))]] : List va_W) = [[((md 0), .inr (6, [.ref (md 1), .int (nI (n)), .ref (md 2), .int (nI (len)), .int (nI (p)), .int (nI (le)), .ref (md 3), .ref (md 4)]))], [((md 1), .inl (T 0, 1872, .inl (shN σ b (k9 + 1))))]] := (by first | rfl | (simp only [c_1, c_1', ↓reduceIte, Bool.false_eq_true, bI_true, bI_false, Bool.true_and, Bool.and_true, Bool.and_false, Bool.false_and, Bool.not_true, Bool.not_false, Bool.or_true, Bool.true_or, Bool.or_false, Bool.false_or] <;> rfl) | (simp [c_1, c_1']; done))
        rw [q_10] at hP hD
        exact ih  ((k9 + 1)) (by omega) (by omega) H locs hP hD hS ls (lv_sub hl [0, 1, 2, 3, 4, 5] rfl)
  have q_11 : (nI 31 : Int32) = nI ((31 - 0)) := (by first | rfl | (simp only [↓reduceIte, Bool.false_eq_true, bI_true, bI_false, Bool.true_and, Bool.and_true, Bool.and_false, Bool.false_and, Bool.not_true, Bool.not_false, Bool.or_true, Bool.true_or, Bool.or_false, Bool.false_or] <;> rfl) | (simp []; done))
  rw [q_11] at hl
  have q_12 : ([[((md 0), .inr (6, [.ref (md 1), .int (nI (n)), .ref (md 2), .int (nI (len)), .int (nI (p)), .int (nI (le)), .ref (md 3), .ref (md 4)]))], [((md 1), .inl (T 0, 1872, .inl (σ)))]] : List va_W) = [[((md 0), .inr (6, [.ref (md 1), .int (nI (n)), .ref (md 2), .int (nI (len)), .int (nI (p)), .int (nI (le)), .ref (md 3), .ref (md 4)]))], [((md 1), .inl (T 0, 1872, .inl (shN σ b 0)))]] := (by first | rfl | (simp only [↓reduceIte, Bool.false_eq_true, bI_true, bI_false, Bool.true_and, Bool.and_true, Bool.and_false, Bool.false_and, Bool.not_true, Bool.not_false, Bool.or_true, Bool.true_or, Bool.or_false, Bool.false_or] <;> rfl) | (simp []; done))
  rw [q_12] at hP hD
  exact loop18 (28 + 1) (0) (by omega) (by omega) _ _ hP hD hS ls (lv_sub hl [0, 1, 2, 3, 4, 5] rfl)

set_option maxHeartbeats 8000000 in
set_option maxRecDepth 100000 in
theorem kX6_isStopped (l : Launch) (D : va_G) (T : Nat → ClassId) (Z : ZZ) (md : Nat → Nat) (n : Nat) (len : Nat) (p : Nat) (le : Nat) (σ : MS) (b : Nat) (t : Nat) (hb9 : b ≤ 1560) (ht : t < 4) : CtI l D T Z yX6_isStopped wsX6_isStopped ({ frames := 0, cells := 0, slots := 0, locals := 0 }) [[((md 0), .inr (6, [.ref (md 1), .int (nI (n)), .ref (md 2), .int (nI (len)), .int (nI (p)), .int (nI (le)), .ref (md 3), .ref (md 4)]))], [((md 1), .inl (T 0, 1872, .inl (σ)))]] [.ref (md 0), .int (nI (b)), .int (nI (t))] (bI (mSt σ b t)) [[((md 0), .inr (6, [.ref (md 1), .int (nI (n)), .ref (md 2), .int (nI (len)), .int (nI (p)), .int (nI (le)), .ref (md 3), .ref (md 4)]))], [((md 1), .inl (T 0, 1872, .inl (σ)))]] := by
  refine CtI.of (cc := cX6_isStopped) (maxL := 3) (ret := (some .boolean)) (plainFor_of_name (by decide)) rfl rfl ?_
  intro pP eE s mM bW mE cC A hE hK hN hM hP hD hA
  obtain ⟨hx, hb, hr, hts, hown, hml, hlk⟩ := hE
  have hown : s.vm.findClass RX6 = some mM.cls := hown
  have hS : va_S A s.heap s.heap [] := va_S.rf
  have hl := lv_entry ([.ref (md 0), .int (nI (b)), .int (nI (t))]) (n := 3) (Nat.le_of_ble_eq_true rfl)
  rw [lg_entry_eq]
  generalize (lg_sl ([.ref (md 0), .int (nI (b)), .int (nI (t))]) ++ List.replicate (3 - (lg_sl ([.ref (md 0), .int (nI (b)), .int (nI (t))])).length) Slot.unset).toArray = ls at hl ⊢
  have hl : lv_has ls 3 [(0, .ref (md 0)), (1, .int (nI (b))), (2, .int (nI (t)))] := hl
  have w_7 := hts (.fieldLink RX6 7 "PoisonedMemoryModel" "s" "[I") (by decide +kernel)
  have hinX6 : ∀ w ∈ wsX60, w ∈ wsX6_isStopped := by decide +kernel
  refine lv_aload_n hx hb dX6_isStopped_0 rfl (lv_at hl 0 rfl) ?_
  refine va_get (D := D) (ci := 6) (v := .ref (md 1)) (C := RX6) (T := TX6) (N := 8) hx hb hts hinX6 hown hK (hP.at 0 rfl) 0 rfl rfl 0 (by decide) w_7 (fun _ h9 => h9) rfl dX6_isStopped_1 ?_
  refine lv_iload_n hx hb dX6_isStopped_4 rfl (lv_at hl 1 rfl) ?_
  refine lv_sipush (v := nI 252) hx hb dX6_isStopped_5 (by decide) ?_
  refine fr_iadd (b) (252) hx hb dX6_isStopped_8 ?_
  refine lv_iload_n hx hb dX6_isStopped_9 rfl (lv_at hl 2 rfl) ?_
  refine fr_iadd ((b + 252)) (t) hx hb dX6_isStopped_10 ?_
  refine fr_iald hx hb hK hP 1 (((b + 252) + t)) rfl (by omega) (by omega) dX6_isStopped_11 ?_
  refine lv_iconst (v := nI 1) hx hb dX6_isStopped_12 (by decide) ?_
  refine lv_icmp_ne (tgt := 20) hx hb dX6_isStopped_13 (by decide) (fun c_1 => ?_) (fun c_1 => ?_)
  · refine lv_iconst (v := nI 0) hx hb dX6_isStopped_20 (by decide) ?_
    exact fr_zret hx hb hr hlk hP hS (by first | rfl | (simp only [mSt, m1, decide_true, decide_false, c_1, ↓reduceIte, Bool.false_eq_true, bI_true, bI_false, Bool.true_and, Bool.and_true, Bool.and_false, Bool.false_and, Bool.not_true, Bool.not_false, Bool.or_true, Bool.true_or, Bool.or_false, Bool.false_or] <;> rfl) | (simp [mSt, m1, decide_true, decide_false, c_1, bI]; done)) rfl rfl dX6_isStopped_21
  · refine lv_iconst (v := nI 1) hx hb dX6_isStopped_16 (by decide) ?_
    refine lv_goto (tgt := 21) hx hb dX6_isStopped_17 (by decide) ?_
    exact fr_zret hx hb hr hlk hP hS (by first | rfl | (simp only [mSt, m1, decide_true, decide_false, c_1, ↓reduceIte, Bool.false_eq_true, bI_true, bI_false, Bool.true_and, Bool.and_true, Bool.and_false, Bool.false_and, Bool.not_true, Bool.not_false, Bool.or_true, Bool.true_or, Bool.or_false, Bool.false_or] <;> rfl) | (simp [mSt, m1, decide_true, decide_false, c_1, bI]; done)) rfl rfl dX6_isStopped_21

set_option maxHeartbeats 8000000 in
set_option maxRecDepth 100000 in
theorem kX6_injects (l : Launch) (D : va_G) (T : Nat → ClassId) (Z : ZZ) (md : Nat → Nat) (n : Nat) (len : Nat) (p : Nat) (le : Nat) (σ : MS) (b : Nat) (w : Nat) (hb9 : b ≤ 1560) (hw : w < 32) (hi : WH (σ (b + 256)) 20) : CtI l D T Z yX6_injects wsX6_injects ({ frames := 1, cells := 0, slots := 0, locals := 24 }) [[((md 0), .inr (6, [.ref (md 1), .int (nI (n)), .ref (md 2), .int (nI (len)), .int (nI (p)), .int (nI (le)), .ref (md 3), .ref (md 4)]))], [((md 1), .inl (T 0, 1872, .inl (σ)))]] [.ref (md 0), .int (nI (b)), .int (nI (w))] (mInjR σ b) [[((md 0), .inr (6, [.ref (md 1), .int (nI (n)), .ref (md 2), .int (nI (len)), .int (nI (p)), .int (nI (le)), .ref (md 3), .ref (md 4)]))], [((md 1), .inl (T 0, 1872, .inl (mInjS σ b w)))]] := by
  have hwd : wdt b w = b + 3 * w := rfl
  have hcp : cpt b w = b + 96 + 3 * w := rfl
  have hi2 := hi.2
  refine CtI.of (cc := cX6_injects) (maxL := 4) (ret := (some .int)) (plainFor_of_name (by decide)) rfl rfl ?_
  intro pP eE s mM bW mE cC A hE hK hN hM hP hD hA
  obtain ⟨hx, hb, hr, hts, hown, hml, hlk⟩ := hE
  have hown : s.vm.findClass RX6 = some mM.cls := hown
  have hS : va_S A s.heap s.heap [] := va_S.rf
  have hl := lv_entry ([.ref (md 0), .int (nI (b)), .int (nI (w))]) (n := 4) (Nat.le_of_ble_eq_true rfl)
  rw [lg_entry_eq]
  generalize (lg_sl ([.ref (md 0), .int (nI (b)), .int (nI (w))]) ++ List.replicate (4 - (lg_sl ([.ref (md 0), .int (nI (b)), .int (nI (w))])).length) Slot.unset).toArray = ls at hl ⊢
  have hl : lv_has ls 4 [(0, .ref (md 0)), (1, .int (nI (b))), (2, .int (nI (w)))] := hl
  have w_7 := hts (.fieldLink RX6 7 "PoisonedMemoryModel" "s" "[I") (by decide +kernel)
  have hinX6 : ∀ w ∈ wsX60, w ∈ wsX6_injects := by decide +kernel
  refine lv_aload_n hx hb dX6_injects_0 rfl (lv_at hl 0 rfl) ?_
  refine va_get (D := D) (ci := 6) (v := .ref (md 1)) (C := RX6) (T := TX6) (N := 8) hx hb hts hinX6 hown hK (hP.at 0 rfl) 0 rfl rfl 0 (by decide) w_7 (fun _ h9 => h9) rfl dX6_injects_1 ?_
  refine lv_iload_n hx hb dX6_injects_4 rfl (lv_at hl 1 rfl) ?_
  refine lv_sipush (v := nI 256) hx hb dX6_injects_5 (by decide) ?_
  refine fr_iadd (b) (256) hx hb dX6_injects_8 ?_
  refine fr_iald hx hb hK hP 1 ((b + 256)) rfl (by omega) (by omega) dX6_injects_9 ?_
  refine fr_val hi.1 ?_
  refine lv_bipush (v := nI 20) hx hb dX6_injects_10 (by decide) ?_
  refine fr_icmp_ne (tn (σ (b + 256))) (20) (by omega) (by decide) (tgt := 18) hx hb dX6_injects_12 (by decide) (fun c_1 => ?_) (fun c_1 => ?_)
  · refine lv_aload_n hx hb dX6_injects_18 rfl (lv_at hl 0 rfl) ?_
    refine va_get (D := D) (ci := 6) (v := .ref (md 1)) (C := RX6) (T := TX6) (N := 8) hx hb hts hinX6 hown hK (hP.at 0 rfl) 0 rfl rfl 0 (by decide) w_7 (fun _ h9 => h9) rfl dX6_injects_19 ?_
    refine lv_iload_n hx hb dX6_injects_22 rfl (lv_at hl 1 rfl) ?_
    refine lv_sipush (v := nI 256) hx hb dX6_injects_23 (by decide) ?_
    refine fr_iadd (b) (256) hx hb dX6_injects_26 ?_
    refine fr_iald hx hb hK hP 1 ((b + 256)) rfl (by omega) (by omega) dX6_injects_27 ?_
    refine fr_val hi.1 ?_
    refine lv_istore_n (lv' := [(3, .int (nI (tn (σ (b + 256))))), (0, .ref (md 0)), (1, .int (nI (b))), (2, .int (nI (w)))]) hx hb dX6_injects_28 rfl hl (by decide) rfl (fun ls hl => ?_)
    refine lv_aload_n hx hb dX6_injects_29 rfl (lv_at hl 1 rfl) ?_
    refine lv_iload_n hx hb dX6_injects_30 rfl (lv_at hl 2 rfl) ?_
    refine lv_iload_n hx hb dX6_injects_31 rfl (lv_at hl 3 rfl) ?_
    refine fr_S0 (As := [.int (nI (b)), .int (nI (w))]) (rest := [.ref (md 0)]) ⟨hx, hb, hml, hown, hts⟩ (kX6_wordAt l D T Z b w) (va_cwS 2 hts gX6_injects_X6_wordAt rfl rfl rfl (by decide +kernel) ⟨Nat.le_of_ble_eq_true rfl, Nat.le_of_ble_eq_true rfl⟩) hK hN hM hP hD hS hA rfl hl.1 rfl (Nat.le_of_ble_eq_true rfl) dX6_injects_32 ⟨Nat.zero_le _, Nat.zero_le _⟩ (fun H locs hP hD hS => ?_)
    refine lv_aload_n hx hb dX6_injects_35 rfl (lv_at hl 1 rfl) ?_
    refine va_get (D := D) (ci := 6) (v := .ref (md 1)) (C := RX6) (T := TX6) (N := 8) hx hb hts hinX6 hown hK (hP.at 0 rfl) 0 rfl rfl 0 (by decide) w_7 (fun _ h9 => h9) rfl dX6_injects_36 ?_
    refine lv_iload_n hx hb dX6_injects_39 rfl (lv_at hl 2 rfl) ?_
    refine lv_iload_n hx hb dX6_injects_40 rfl (lv_at hl 3 rfl) ?_
    refine fr_S0 (As := [.int (nI (b)), .int (nI (w))]) (rest := [.ref (md 1), .int (nI (wdt b w)), .ref (md 0)]) ⟨hx, hb, hml, hown, hts⟩ (kX6_wordAt l D T Z b w) (va_cwS 2 hts gX6_injects_X6_wordAt rfl rfl rfl (by decide +kernel) ⟨Nat.le_of_ble_eq_true rfl, Nat.le_of_ble_eq_true rfl⟩) hK hN hM hP hD hS hA rfl hl.1 rfl (Nat.le_of_ble_eq_true rfl) dX6_injects_41 ⟨Nat.zero_le _, Nat.zero_le _⟩ (fun H locs hP hD hS => ?_)
    refine fr_iald hx hb hK hP 1 (wdt b w) rfl (by omega) (by omega) dX6_injects_44 ?_
    refine lv_iload_n hx hb dX6_injects_45 rfl (lv_at hl 0 rfl) ?_
    refine lv_iconst (v := nI 0) hx hb dX6_injects_46 (by decide) ?_
    refine fr_Vv (As := [.int (nI (wdt b w)), .int (σ (wdt b w)), .int (nI (tn (σ (b + 256)))), .int (nI 0)]) (rest := []) (fs' := [[((md 0), .inr (6, [.ref (md 1), .int (nI (n)), .ref (md 2), .int (nI (len)), .int (nI (p)), .int (nI (le)), .ref (md 3), .ref (md 4)]))], [((md 1), .inl (T 0, 1872, .inl (lay σ (wdt b w) (σ (wdt b w)) (nI (tn (σ (b + 256)))) (nI 0))))]]) (ci := 6) (q0 := (RX6, TX6, 8)) (i0 := 0) ⟨hx, hb, hml, hown, hts⟩ (kX6_lays l D T Z md n len p le σ (wdt b w) (σ (wdt b w)) (nI (tn (σ (b + 256)))) (nI 0) (by omega)) (cwV 4 hts gX6_injects_X6_lays rfl rfl rfl (by decide +kernel) ⟨Nat.le_of_ble_eq_true rfl, Nat.le_of_ble_eq_true rfl⟩) hK hN hM hP hD hS hA [0, 1] rfl rfl rfl rfl rfl rfl hl.1 rfl (Nat.le_of_ble_eq_true rfl) dX6_injects_47 ⟨Nat.zero_le _, Nat.zero_le _⟩ (fun H locs hP hD hS => ?_)
    refine lv_aload_n hx hb dX6_injects_50 rfl (lv_at hl 1 rfl) ?_
    refine va_get (D := D) (ci := 6) (v := .ref (md 1)) (C := RX6) (T := TX6) (N := 8) hx hb hts hinX6 hown hK (hP.at 0 rfl) 0 rfl rfl 0 (by decide) w_7 (fun _ h9 => h9) rfl dX6_injects_51 ?_
    refine lv_iload_n hx hb dX6_injects_54 rfl (lv_at hl 2 rfl) ?_
    refine lv_sipush (v := nI 257) hx hb dX6_injects_55 (by decide) ?_
    refine fr_iadd (b) (257) hx hb dX6_injects_58 ?_
    refine lv_iload_n hx hb dX6_injects_59 rfl (lv_at hl 0 rfl) ?_
    refine fr_iadd ((b + 257)) (tn (σ (b + 256))) hx hb dX6_injects_60 ?_
    refine lv_iload_n hx hb dX6_injects_61 rfl (lv_at hl 3 rfl) ?_
    refine fr_iast (fs' := [[((md 0), .inr (6, [.ref (md 1), .int (nI (n)), .ref (md 2), .int (nI (len)), .int (nI (p)), .int (nI (le)), .ref (md 3), .ref (md 4)]))], [((md 1), .inl (T 0, 1872, .inl (upd (lay σ (wdt b w) (σ (wdt b w)) (nI (tn (σ (b + 256)))) (nI 0)) ((b + 257) + tn (σ (b + 256))) (nI (w)))))]]) hx hb hK hP hD hS 1 (((b + 257) + tn (σ (b + 256)))) rfl rfl (by omega) (by omega) dX6_injects_62 (fun H locs hP hD hS => ?_)
    refine lv_aload_n hx hb dX6_injects_63 rfl (lv_at hl 1 rfl) ?_
    refine va_get (D := D) (ci := 6) (v := .ref (md 1)) (C := RX6) (T := TX6) (N := 8) hx hb hts hinX6 hown hK (hP.at 0 rfl) 0 rfl rfl 0 (by decide) w_7 (fun _ h9 => h9) rfl dX6_injects_64 ?_
    refine lv_iload_n hx hb dX6_injects_67 rfl (lv_at hl 2 rfl) ?_
    refine lv_sipush (v := nI 256) hx hb dX6_injects_68 (by decide) ?_
    refine fr_iadd (b) (256) hx hb dX6_injects_71 ?_
    refine lv_dup2_11 hx hb dX6_injects_72 rfl rfl ?_
    refine fr_iald hx hb hK hP 1 ((b + 256)) rfl (by omega) (by omega) dX6_injects_73 ?_
    refine lv_iconst (v := nI 1) hx hb dX6_injects_74 (by decide) ?_
    refine lv_iadd hx hb dX6_injects_75 ?_
    refine fr_iast (fs' := [[((md 0), .inr (6, [.ref (md 1), .int (nI (n)), .ref (md 2), .int (nI (len)), .int (nI (p)), .int (nI (le)), .ref (md 3), .ref (md 4)]))], [((md 1), .inl (T 0, 1872, .inl (upd (upd (lay σ (wdt b w) (σ (wdt b w)) (nI (tn (σ (b + 256)))) (nI 0)) ((b + 257) + tn (σ (b + 256))) (nI (w))) (b + 256) (((upd (lay σ (wdt b w) (σ (wdt b w)) (nI (tn (σ (b + 256)))) (nI 0)) ((b + 257) + tn (σ (b + 256))) (nI (w))) (b + 256)) + (nI 1)))))]]) hx hb hK hP hD hS 1 ((b + 256)) rfl rfl (by omega) (by omega) dX6_injects_76 (fun H locs hP hD hS => ?_)
    refine lv_iload_n hx hb dX6_injects_77 rfl (lv_at hl 0 rfl) ?_
    exact fr_iret hx hb hr hlk hP hS (by first | rfl | (simp only [mInjR, mInjS, mInj, mInj1, c_1, ↓reduceIte, Bool.false_eq_true, bI_true, bI_false, Bool.true_and, Bool.and_true, Bool.and_false, Bool.false_and, Bool.not_true, Bool.not_false, Bool.or_true, Bool.true_or, Bool.or_false, Bool.false_or] <;> rfl) | (simp [mInjR, mInjS, mInj, mInj1, c_1, bI]; done)) (by simp only [mInjS, c_1, ↓reduceIte, Bool.false_eq_true, bI_true, bI_false, Bool.true_and, Bool.and_true, Bool.and_false, Bool.false_and, Bool.not_true, Bool.not_false, Bool.or_true, Bool.true_or, Bool.or_false, Bool.false_or] <;> first | rfl | (rw [← mInj_x hw hi.1] <;> rfl)) dX6_injects_78
  · refine lv_bipush (v := (-4)) hx hb dX6_injects_15 (by decide) ?_
    exact fr_iret hx hb hr hlk hP hS (by first | rfl | (simp only [mInjR, mInjS, mInj, mInj1, c_1, ↓reduceIte, Bool.false_eq_true, bI_true, bI_false, Bool.true_and, Bool.and_true, Bool.and_false, Bool.false_and, Bool.not_true, Bool.not_false, Bool.or_true, Bool.true_or, Bool.or_false, Bool.false_or] <;> rfl) | (simp [mInjR, mInjS, mInj, mInj1, c_1, bI]; done)) (by simp only [mInjS, c_1, ↓reduceIte, Bool.false_eq_true, bI_true, bI_false, Bool.true_and, Bool.and_true, Bool.and_false, Bool.false_and, Bool.not_true, Bool.not_false, Bool.or_true, Bool.true_or, Bool.or_false, Bool.false_or] <;> first | rfl | (rw [← mInj_x hw hi.1] <;> rfl)) dX6_injects_17

set_option maxHeartbeats 8000000 in
set_option maxRecDepth 100000 in
theorem kX6_sets (l : Launch) (D : va_G) (T : Nat → ClassId) (Z : ZZ) (md : Nat → Nat) (n : Nat) (len : Nat) (p : Nat) (le : Nat) (σ : MS) (b : Nat) (t : Nat) (r : Nat) (v : Int32) (hb9 : b ≤ 1560) (ht : t < 4) (hr9 : r < 4) : CtI l D T Z yX6_sets wsX6_sets ({ frames := 1, cells := 0, slots := 0, locals := 24 }) [[((md 0), .inr (6, [.ref (md 1), .int (nI (n)), .ref (md 2), .int (nI (len)), .int (nI (p)), .int (nI (le)), .ref (md 3), .ref (md 4)]))], [((md 1), .inl (T 0, 1872, .inl (σ)))]] [.ref (md 0), .int (nI (b)), .int (nI (t)), .int (nI (r)), .int (v)] (mSetR σ b t r) [[((md 0), .inr (6, [.ref (md 1), .int (nI (n)), .ref (md 2), .int (nI (len)), .int (nI (p)), .int (nI (le)), .ref (md 3), .ref (md 4)]))], [((md 1), .inl (T 0, 1872, .inl (mSetS σ b t r v)))]] := by
  have hrr : rgt b t r = b + 192 + 3 * (4 * t + r) := rfl
  refine CtI.of (cc := cX6_sets) (maxL := 7) (ret := (some .int)) (plainFor_of_name (by decide)) rfl rfl ?_
  intro pP eE s mM bW mE cC A hE hK hN hM hP hD hA
  obtain ⟨hx, hb, hr, hts, hown, hml, hlk⟩ := hE
  have hown : s.vm.findClass RX6 = some mM.cls := hown
  have hS : va_S A s.heap s.heap [] := va_S.rf
  have hl := lv_entry ([.ref (md 0), .int (nI (b)), .int (nI (t)), .int (nI (r)), .int (v)]) (n := 7) (Nat.le_of_ble_eq_true rfl)
  rw [lg_entry_eq]
  generalize (lg_sl ([.ref (md 0), .int (nI (b)), .int (nI (t)), .int (nI (r)), .int (v)]) ++ List.replicate (7 - (lg_sl ([.ref (md 0), .int (nI (b)), .int (nI (t)), .int (nI (r)), .int (v)])).length) Slot.unset).toArray = ls at hl ⊢
  have hl : lv_has ls 7 [(0, .ref (md 0)), (1, .int (nI (b))), (2, .int (nI (t))), (3, .int (nI (r))), (4, .int (v))] := hl
  have w_7 := hts (.fieldLink RX6 7 "PoisonedMemoryModel" "s" "[I") (by decide +kernel)
  have hinX6 : ∀ w ∈ wsX60, w ∈ wsX6_sets := by decide +kernel
  refine lv_aload_n hx hb dX6_sets_0 rfl (lv_at hl 0 rfl) ?_
  refine lv_iload_n hx hb dX6_sets_1 rfl (lv_at hl 1 rfl) ?_
  refine lv_iload_n hx hb dX6_sets_2 rfl (lv_at hl 2 rfl) ?_
  refine fr_Vi (As := [.int (nI (b)), .int (nI (t))]) (rest := []) (fs' := [[((md 0), .inr (6, [.ref (md 1), .int (nI (n)), .ref (md 2), .int (nI (len)), .int (nI (p)), .int (nI (le)), .ref (md 3), .ref (md 4)]))], [((md 1), .inl (T 0, 1872, .inl (σ)))]]) (ci := 6) (q0 := (RX6, TX6, 8)) (i0 := 0) ⟨hx, hb, hml, hown, hts⟩ (kX6_isStopped l D T Z md n len p le σ b t (by omega) (by omega)) (cwV 2 hts gX6_sets_X6_isStopped rfl rfl rfl (by decide +kernel) ⟨Nat.le_of_ble_eq_true rfl, Nat.le_of_ble_eq_true rfl⟩) hK hN hM hP hD hS hA [0, 1] rfl rfl rfl rfl rfl rfl hl.1 rfl (Nat.le_of_ble_eq_true rfl) dX6_sets_3 ⟨Nat.zero_le _, Nat.zero_le _⟩ (fun H locs hP hD hS => ?_)
  refine fr_ifeq_b (tgt := 12) hx hb dX6_sets_6 (by decide) (fun c_1 => ?_) (fun c_1 => ?_)
  · refine lv_iload_n hx hb dX6_sets_12 rfl (lv_at hl 1 rfl) ?_
    refine lv_iload_n hx hb dX6_sets_13 rfl (lv_at hl 2 rfl) ?_
    refine lv_iload_n hx hb dX6_sets_14 rfl (lv_at hl 3 rfl) ?_
    refine fr_S0 (As := [.int (nI (b)), .int (nI (t)), .int (nI (r))]) (rest := []) ⟨hx, hb, hml, hown, hts⟩ (kX6_registerAt l D T Z b t r) (va_cwS 3 hts gX6_sets_X6_registerAt rfl rfl rfl (by decide +kernel) ⟨Nat.le_of_ble_eq_true rfl, Nat.le_of_ble_eq_true rfl⟩) hK hN hM hP hD hS hA rfl hl.1 rfl (Nat.le_of_ble_eq_true rfl) dX6_sets_15 ⟨Nat.zero_le _, Nat.zero_le _⟩ (fun H locs hP hD hS => ?_)
    refine lv_istore (lv' := [(5, .int (nI (rgt b t r))), (0, .ref (md 0)), (1, .int (nI (b))), (2, .int (nI (t))), (3, .int (nI (r))), (4, .int (v))]) hx hb dX6_sets_18 hl (by decide) rfl (fun ls hl => ?_)
    refine lv_aload_n hx hb dX6_sets_20 rfl (lv_at hl 1 rfl) ?_
    refine va_get (D := D) (ci := 6) (v := .ref (md 1)) (C := RX6) (T := TX6) (N := 8) hx hb hts hinX6 hown hK (hP.at 0 rfl) 0 rfl rfl 0 (by decide) w_7 (fun _ h9 => h9) rfl dX6_sets_21 ?_
    refine lv_iload hx hb dX6_sets_24 (lv_at hl 0 rfl) ?_
    refine fr_iald hx hb hK hP 1 (rgt b t r) rfl (by omega) (by omega) dX6_sets_26 ?_
    refine lv_istore (lv' := [(6, .int (σ (rgt b t r))), (5, .int (nI (rgt b t r))), (0, .ref (md 0)), (1, .int (nI (b))), (2, .int (nI (t))), (3, .int (nI (r))), (4, .int (v))]) hx hb dX6_sets_27 hl (by decide) rfl (fun ls hl => ?_)
    refine lv_aload_n hx hb dX6_sets_29 rfl (lv_at hl 2 rfl) ?_
    refine lv_iload hx hb dX6_sets_30 (lv_at hl 1 rfl) ?_
    refine lv_iload hx hb dX6_sets_32 (lv_at hl 6 rfl) ?_
    refine lv_bipush (v := (-6)) hx hb dX6_sets_34 (by decide) ?_
    refine lv_iconst (v := nI 0) hx hb dX6_sets_36 (by decide) ?_
    refine fr_Vv (As := [.int (nI (rgt b t r)), .int (v), .int ((-6)), .int (nI 0)]) (rest := []) (fs' := [[((md 0), .inr (6, [.ref (md 1), .int (nI (n)), .ref (md 2), .int (nI (len)), .int (nI (p)), .int (nI (le)), .ref (md 3), .ref (md 4)]))], [((md 1), .inl (T 0, 1872, .inl (lay σ (rgt b t r) v (-6) (nI 0))))]]) (ci := 6) (q0 := (RX6, TX6, 8)) (i0 := 0) ⟨hx, hb, hml, hown, hts⟩ (kX6_lays l D T Z md n len p le σ (rgt b t r) v (-6) (nI 0) (by omega)) (cwV 4 hts gX6_sets_X6_lays rfl rfl rfl (by decide +kernel) ⟨Nat.le_of_ble_eq_true rfl, Nat.le_of_ble_eq_true rfl⟩) hK hN hM hP hD hS hA [0, 1] rfl rfl rfl rfl rfl rfl hl.1 rfl (Nat.le_of_ble_eq_true rfl) dX6_sets_37 ⟨Nat.zero_le _, Nat.zero_le _⟩ (fun H locs hP hD hS => ?_)
    refine lv_iload hx hb dX6_sets_40 (lv_at hl 0 rfl) ?_
    exact fr_iret hx hb hr hlk hP hS (by first | rfl | (simp only [mSetR, mSetS, c_1, ↓reduceIte, Bool.false_eq_true, bI_true, bI_false, Bool.true_and, Bool.and_true, Bool.and_false, Bool.false_and, Bool.not_true, Bool.not_false, Bool.or_true, Bool.true_or, Bool.or_false, Bool.false_or] <;> rfl) | (simp [mSetR, mSetS, c_1, bI]; done)) (by first | rfl | (simp only [mSetR, mSetS, c_1, ↓reduceIte, Bool.false_eq_true, bI_true, bI_false, Bool.true_and, Bool.and_true, Bool.and_false, Bool.false_and, Bool.not_true, Bool.not_false, Bool.or_true, Bool.true_or, Bool.or_false, Bool.false_or] <;> rfl) | (simp [mSetR, mSetS, c_1, bI]; done)) dX6_sets_42
  · refine lv_bipush (v := (-5)) hx hb dX6_sets_9 (by decide) ?_
    exact fr_iret hx hb hr hlk hP hS (by first | rfl | (simp only [mSetR, mSetS, c_1, ↓reduceIte, Bool.false_eq_true, bI_true, bI_false, Bool.true_and, Bool.and_true, Bool.and_false, Bool.false_and, Bool.not_true, Bool.not_false, Bool.or_true, Bool.true_or, Bool.or_false, Bool.false_or] <;> rfl) | (simp [mSetR, mSetS, c_1, bI]; done)) (by first | rfl | (simp only [mSetR, mSetS, c_1, ↓reduceIte, Bool.false_eq_true, bI_true, bI_false, Bool.true_and, Bool.and_true, Bool.and_false, Bool.false_and, Bool.not_true, Bool.not_false, Bool.or_true, Bool.true_or, Bool.or_false, Bool.false_or] <;> rfl) | (simp [mSetR, mSetS, c_1, bI]; done)) dX6_sets_11

set_option maxHeartbeats 8000000 in
set_option maxRecDepth 100000 in
theorem kX6_loads_2 (l : Launch) (D : va_G) (T : Nat → ClassId) (Z : ZZ) (md : Nat → Nat) (n : Nat) (len : Nat) (p : Nat) (le : Nat) (σ : MS) (b : Nat) (t : Nat) (r : Nat) (w : Nat) (hb9 : b ≤ 1560) (ht : t < 4) (hr9 : r < 4) (hw : w < 32) : CtI l D T Z yX6_loads wsX6_loads ({ frames := 3, cells := 0, slots := 0, locals := 67 }) [[((md 0), .inr (6, [.ref (md 1), .int (nI (n)), .ref (md 2), .int (nI (len)), .int (nI (p)), .int (nI (le)), .ref (md 3), .ref (md 4)]))], [((md 1), .inl (T 0, 1872, .inl (σ)))]] [.ref (md 0), .int (nI (b)), .int (nI (t)), .int (nI (r)), .int (nI (w)), .int (nI 2)] (mLdR σ b t w) [[((md 0), .inr (6, [.ref (md 1), .int (nI (n)), .ref (md 2), .int (nI (len)), .int (nI (p)), .int (nI (le)), .ref (md 3), .ref (md 4)]))], [((md 1), .inl (T 0, 1872, .inl (mLdS σ b t r w)))]] := by
  have hrr : rgt b t r = b + 192 + 3 * (4 * t + r) := rfl
  have hwd : wdt b w = b + 3 * w := rfl
  have hcp : cpt b w = b + 96 + 3 * w := rfl
  refine CtI.of (cc := cX6_loads) (maxL := 9) (ret := (some .int)) (plainFor_of_name (by decide)) rfl rfl ?_
  intro pP eE s mM bW mE cC A hE hK hN hM hP hD hA
  obtain ⟨hx, hb, hr, hts, hown, hml, hlk⟩ := hE
  have hown : s.vm.findClass RX6 = some mM.cls := hown
  have hS : va_S A s.heap s.heap [] := va_S.rf
  have hl := lv_entry ([.ref (md 0), .int (nI (b)), .int (nI (t)), .int (nI (r)), .int (nI (w)), .int (nI 2)]) (n := 9) (Nat.le_of_ble_eq_true rfl)
  rw [lg_entry_eq]
  generalize (lg_sl ([.ref (md 0), .int (nI (b)), .int (nI (t)), .int (nI (r)), .int (nI (w)), .int (nI 2)]) ++ List.replicate (9 - (lg_sl ([.ref (md 0), .int (nI (b)), .int (nI (t)), .int (nI (r)), .int (nI (w)), .int (nI 2)])).length) Slot.unset).toArray = ls at hl ⊢
  have hl : lv_has ls 9 [(0, .ref (md 0)), (1, .int (nI (b))), (2, .int (nI (t))), (3, .int (nI (r))), (4, .int (nI (w))), (5, .int (nI 2))] := hl
  have w_7 := hts (.fieldLink RX6 7 "PoisonedMemoryModel" "s" "[I") (by decide +kernel)
  have hinX6 : ∀ w ∈ wsX60, w ∈ wsX6_loads := by decide +kernel
  refine lv_aload_n hx hb dX6_loads_0 rfl (lv_at hl 0 rfl) ?_
  refine lv_iload_n hx hb dX6_loads_1 rfl (lv_at hl 1 rfl) ?_
  refine lv_iload_n hx hb dX6_loads_2 rfl (lv_at hl 2 rfl) ?_
  refine fr_Vi (As := [.int (nI (b)), .int (nI (t))]) (rest := []) (fs' := [[((md 0), .inr (6, [.ref (md 1), .int (nI (n)), .ref (md 2), .int (nI (len)), .int (nI (p)), .int (nI (le)), .ref (md 3), .ref (md 4)]))], [((md 1), .inl (T 0, 1872, .inl (σ)))]]) (ci := 6) (q0 := (RX6, TX6, 8)) (i0 := 0) ⟨hx, hb, hml, hown, hts⟩ (kX6_isStopped l D T Z md n len p le σ b t (by omega) (by omega)) (cwV 2 hts gX6_loads_X6_isStopped rfl rfl rfl (by decide +kernel) ⟨Nat.le_of_ble_eq_true rfl, Nat.le_of_ble_eq_true rfl⟩) hK hN hM hP hD hS hA [0, 1] rfl rfl rfl rfl rfl rfl hl.1 rfl (Nat.le_of_ble_eq_true rfl) dX6_loads_3 ⟨Nat.zero_le _, Nat.zero_le _⟩ (fun H locs hP hD hS => ?_)
  refine fr_ifeq_b (tgt := 12) hx hb dX6_loads_6 (by decide) (fun c_1 => ?_) (fun c_1 => ?_)
  · refine lv_aload_n hx hb dX6_loads_12 rfl (lv_at hl 0 rfl) ?_
    refine lv_iload_n hx hb dX6_loads_13 rfl (lv_at hl 1 rfl) ?_
    refine lv_iload hx hb dX6_loads_14 (lv_at hl 4 rfl) ?_
    refine fr_Vi (As := [.int (nI (b)), .int (nI (w))]) (rest := []) (fs' := [[((md 0), .inr (6, [.ref (md 1), .int (nI (n)), .ref (md 2), .int (nI (len)), .int (nI (p)), .int (nI (le)), .ref (md 3), .ref (md 4)]))], [((md 1), .inl (T 0, 1872, .inl (mFe σ b w)))]]) (ci := 6) (q0 := (RX6, TX6, 8)) (i0 := 0) ⟨hx, hb, hml, hown, hts⟩ (kX6_fetches l D T Z md n len p le σ b w (by omega) (by omega)) (cwV 2 hts gX6_loads_X6_fetches rfl rfl rfl (by decide +kernel) ⟨Nat.le_of_ble_eq_true rfl, Nat.le_of_ble_eq_true rfl⟩) hK hN hM hP hD hS hA [0, 1] rfl rfl rfl rfl rfl rfl hl.1 rfl (Nat.le_of_ble_eq_true rfl) dX6_loads_16 ⟨Nat.zero_le _, Nat.zero_le _⟩ (fun H locs hP hD hS => ?_)
    refine lv_istore (lv' := [(6, .int (bI (mCH σ b w))), (0, .ref (md 0)), (1, .int (nI (b))), (2, .int (nI (t))), (3, .int (nI (r))), (4, .int (nI (w))), (5, .int (nI 2))]) hx hb dX6_loads_19 hl (by decide) rfl (fun ls hl => ?_)
    refine lv_iload_n hx hb dX6_loads_21 rfl (lv_at hl 2 rfl) ?_
    refine lv_iload hx hb dX6_loads_22 (lv_at hl 5 rfl) ?_
    refine fr_S0 (As := [.int (nI (b)), .int (nI (w))]) (rest := []) ⟨hx, hb, hml, hown, hts⟩ (kX6_wordAt l D T Z b w) (va_cwS 2 hts gX6_loads_X6_wordAt rfl rfl rfl (by decide +kernel) ⟨Nat.le_of_ble_eq_true rfl, Nat.le_of_ble_eq_true rfl⟩) hK hN hM hP hD hS hA rfl hl.1 rfl (Nat.le_of_ble_eq_true rfl) dX6_loads_24 ⟨Nat.zero_le _, Nat.zero_le _⟩ (fun H locs hP hD hS => ?_)
    refine lv_istore (lv' := [(7, .int (nI (wdt b w))), (6, .int (bI (mCH σ b w))), (0, .ref (md 0)), (1, .int (nI (b))), (2, .int (nI (t))), (3, .int (nI (r))), (4, .int (nI (w))), (5, .int (nI 2))]) hx hb dX6_loads_27 hl (by decide) rfl (fun ls hl => ?_)
    refine lv_iload hx hb dX6_loads_29 (lv_at hl 7 rfl) ?_
    refine lv_iconst (v := nI 2) hx hb dX6_loads_31 (by decide) ?_
    refine fr_icmp_ne 2 2 (by decide) (by decide) (tgt := 45) hx hb dX6_loads_32 (by decide) (fun z => absurd z (by decide)) (fun _ => ?_)
    refine lv_aload_n hx hb dX6_loads_35 rfl (lv_at hl 2 rfl) ?_
    refine va_get (D := D) (ci := 6) (v := .ref (md 1)) (C := RX6) (T := TX6) (N := 8) hx hb hts hinX6 hown hK (hP.at 0 rfl) 0 rfl rfl 0 (by decide) w_7 (fun _ h9 => h9) rfl dX6_loads_36 ?_
    refine lv_iload hx hb dX6_loads_39 (lv_at hl 0 rfl) ?_
    refine fr_iald hx hb hK hP 1 (wdt b w) rfl (by omega) (by omega) dX6_loads_41 ?_
    refine lv_goto (tgt := 75) hx hb dX6_loads_42 (by decide) ?_
    refine lv_istore (lv' := [(8, .int ((mFe σ b w) (wdt b w))), (7, .int (nI (wdt b w))), (6, .int (bI (mCH σ b w))), (0, .ref (md 0)), (1, .int (nI (b))), (2, .int (nI (t))), (3, .int (nI (r))), (4, .int (nI (w))), (5, .int (nI 2))]) hx hb dX6_loads_75 hl (by decide) rfl (fun ls hl => ?_)
    refine lv_aload_n hx hb dX6_loads_77 rfl (lv_at hl 3 rfl) ?_
    refine lv_iload_n hx hb dX6_loads_78 rfl (lv_at hl 4 rfl) ?_
    refine lv_iload_n hx hb dX6_loads_79 rfl (lv_at hl 5 rfl) ?_
    refine lv_iload_n hx hb dX6_loads_80 rfl (lv_at hl 6 rfl) ?_
    refine fr_S0 (As := [.int (nI (b)), .int (nI (t)), .int (nI (r))]) (rest := [.ref (md 0)]) ⟨hx, hb, hml, hown, hts⟩ (kX6_registerAt l D T Z b t r) (va_cwS 3 hts gX6_loads_X6_registerAt rfl rfl rfl (by decide +kernel) ⟨Nat.le_of_ble_eq_true rfl, Nat.le_of_ble_eq_true rfl⟩) hK hN hM hP hD hS hA rfl hl.1 rfl (Nat.le_of_ble_eq_true rfl) dX6_loads_81 ⟨Nat.zero_le _, Nat.zero_le _⟩ (fun H locs hP hD hS => ?_)
    refine lv_iload hx hb dX6_loads_84 (lv_at hl 0 rfl) ?_
    refine lv_iload hx hb dX6_loads_86 (lv_at hl 1 rfl) ?_
    refine fr_Vv (As := [.int (nI (rgt b t r)), .int ((mFe σ b w) (wdt b w)), .int (nI (wdt b w))]) (rest := []) (fs' := [[((md 0), .inr (6, [.ref (md 1), .int (nI (n)), .ref (md 2), .int (nI (len)), .int (nI (p)), .int (nI (le)), .ref (md 3), .ref (md 4)]))], [((md 1), .inl (T 0, 1872, .inl (mGet (mFe σ b w) (rgt b t r) ((mFe σ b w) (wdt b w)) (wdt b w))))]]) (ci := 6) (q0 := (RX6, TX6, 8)) (i0 := 0) ⟨hx, hb, hml, hown, hts⟩ (kX6_gets l D T Z md n len p le (mFe σ b w) (rgt b t r) ((mFe σ b w) (wdt b w)) (wdt b w) (by omega) (by omega)) (cwV 3 hts gX6_loads_X6_gets rfl rfl rfl (by decide +kernel) ⟨Nat.le_of_ble_eq_true rfl, Nat.le_of_ble_eq_true rfl⟩) hK hN hM hP hD hS hA [0, 1] rfl rfl rfl rfl rfl rfl hl.1 rfl (Nat.le_of_ble_eq_true rfl) dX6_loads_88 ⟨Nat.zero_le _, Nat.zero_le _⟩ (fun H locs hP hD hS => ?_)
    refine lv_iload hx hb dX6_loads_91 (lv_at hl 2 rfl) ?_
    refine lv_if_ge (tgt := 101) hx hb dX6_loads_93 (by decide) (fun _ => ?_) (fun z => absurd (bI_ge _) z)
    refine lv_iload hx hb dX6_loads_101 (lv_at hl 0 rfl) ?_
    exact fr_iret hx hb hr hlk hP hS (by first | rfl | (simp only [mLdR, mLdS, c_1, ↓reduceIte, Bool.false_eq_true, bI_true, bI_false, Bool.true_and, Bool.and_true, Bool.and_false, Bool.false_and, Bool.not_true, Bool.not_false, Bool.or_true, Bool.true_or, Bool.or_false, Bool.false_or] <;> rfl) | (simp [mLdR, mLdS, c_1, bI]; done)) (by first | rfl | (simp only [mLdR, mLdS, c_1, ↓reduceIte, Bool.false_eq_true, bI_true, bI_false, Bool.true_and, Bool.and_true, Bool.and_false, Bool.false_and, Bool.not_true, Bool.not_false, Bool.or_true, Bool.true_or, Bool.or_false, Bool.false_or] <;> rfl) | (simp [mLdR, mLdS, c_1, bI]; done)) dX6_loads_103
  · refine lv_bipush (v := (-5)) hx hb dX6_loads_9 (by decide) ?_
    exact fr_iret hx hb hr hlk hP hS (by first | rfl | (simp only [mLdR, mLdS, c_1, ↓reduceIte, Bool.false_eq_true, bI_true, bI_false, Bool.true_and, Bool.and_true, Bool.and_false, Bool.false_and, Bool.not_true, Bool.not_false, Bool.or_true, Bool.true_or, Bool.or_false, Bool.false_or] <;> rfl) | (simp [mLdR, mLdS, c_1, bI]; done)) (by first | rfl | (simp only [mLdR, mLdS, c_1, ↓reduceIte, Bool.false_eq_true, bI_true, bI_false, Bool.true_and, Bool.and_true, Bool.and_false, Bool.false_and, Bool.not_true, Bool.not_false, Bool.or_true, Bool.true_or, Bool.or_false, Bool.false_or] <;> rfl) | (simp [mLdR, mLdS, c_1, bI]; done)) dX6_loads_11

set_option maxHeartbeats 8000000 in
set_option maxRecDepth 100000 in
theorem kX6_loads (l : Launch) (D : va_G) (T : Nat → ClassId) (Z : ZZ) (md : Nat → Nat) (n : Nat) (len : Nat) (p : Nat) (le : Nat) (σ : MS) (b : Nat) (t : Nat) (r : Nat) (w : Nat) (q : Nat) (hb9 : b ≤ 1560) (ht : t < 4) (hr9 : r < 4) (hw : w < 32) (hq : q < 2) : CtI l D T Z yX6_loads wsX6_loads ({ frames := 3, cells := 0, slots := 0, locals := 67 }) [[((md 0), .inr (6, [.ref (md 1), .int (nI (n)), .ref (md 2), .int (nI (len)), .int (nI (p)), .int (nI (le)), .ref (md 3), .ref (md 4)]))], [((md 1), .inl (T 0, 1872, .inl (σ)))]] [.ref (md 0), .int (nI (b)), .int (nI (t)), .int (nI (r)), .int (nI (w)), .int (nI (q))] (mLbR σ b t w q) [[((md 0), .inr (6, [.ref (md 1), .int (nI (n)), .ref (md 2), .int (nI (len)), .int (nI (p)), .int (nI (le)), .ref (md 3), .ref (md 4)]))], [((md 1), .inl (T 0, 1872, .inl (mLbS σ b t r w q)))]] := by
  have hrr : rgt b t r = b + 192 + 3 * (4 * t + r) := rfl
  have hwd : wdt b w = b + 3 * w := rfl
  have hcp : cpt b w = b + 96 + 3 * w := rfl
  refine CtI.of (cc := cX6_loads) (maxL := 9) (ret := (some .int)) (plainFor_of_name (by decide)) rfl rfl ?_
  intro pP eE s mM bW mE cC A hE hK hN hM hP hD hA
  obtain ⟨hx, hb, hr, hts, hown, hml, hlk⟩ := hE
  have hown : s.vm.findClass RX6 = some mM.cls := hown
  have hS : va_S A s.heap s.heap [] := va_S.rf
  have hl := lv_entry ([.ref (md 0), .int (nI (b)), .int (nI (t)), .int (nI (r)), .int (nI (w)), .int (nI (q))]) (n := 9) (Nat.le_of_ble_eq_true rfl)
  rw [lg_entry_eq]
  generalize (lg_sl ([.ref (md 0), .int (nI (b)), .int (nI (t)), .int (nI (r)), .int (nI (w)), .int (nI (q))]) ++ List.replicate (9 - (lg_sl ([.ref (md 0), .int (nI (b)), .int (nI (t)), .int (nI (r)), .int (nI (w)), .int (nI (q))])).length) Slot.unset).toArray = ls at hl ⊢
  have hl : lv_has ls 9 [(0, .ref (md 0)), (1, .int (nI (b))), (2, .int (nI (t))), (3, .int (nI (r))), (4, .int (nI (w))), (5, .int (nI (q)))] := hl
  have w_7 := hts (.fieldLink RX6 7 "PoisonedMemoryModel" "s" "[I") (by decide +kernel)
  have hinX6 : ∀ w ∈ wsX60, w ∈ wsX6_loads := by decide +kernel
  refine lv_aload_n hx hb dX6_loads_0 rfl (lv_at hl 0 rfl) ?_
  refine lv_iload_n hx hb dX6_loads_1 rfl (lv_at hl 1 rfl) ?_
  refine lv_iload_n hx hb dX6_loads_2 rfl (lv_at hl 2 rfl) ?_
  refine fr_Vi (As := [.int (nI (b)), .int (nI (t))]) (rest := []) (fs' := [[((md 0), .inr (6, [.ref (md 1), .int (nI (n)), .ref (md 2), .int (nI (len)), .int (nI (p)), .int (nI (le)), .ref (md 3), .ref (md 4)]))], [((md 1), .inl (T 0, 1872, .inl (σ)))]]) (ci := 6) (q0 := (RX6, TX6, 8)) (i0 := 0) ⟨hx, hb, hml, hown, hts⟩ (kX6_isStopped l D T Z md n len p le σ b t (by omega) (by omega)) (cwV 2 hts gX6_loads_X6_isStopped rfl rfl rfl (by decide +kernel) ⟨Nat.le_of_ble_eq_true rfl, Nat.le_of_ble_eq_true rfl⟩) hK hN hM hP hD hS hA [0, 1] rfl rfl rfl rfl rfl rfl hl.1 rfl (Nat.le_of_ble_eq_true rfl) dX6_loads_3 ⟨Nat.zero_le _, Nat.zero_le _⟩ (fun H locs hP hD hS => ?_)
  refine fr_ifeq_b (tgt := 12) hx hb dX6_loads_6 (by decide) (fun c_1 => ?_) (fun c_1 => ?_)
  · refine lv_aload_n hx hb dX6_loads_12 rfl (lv_at hl 0 rfl) ?_
    refine lv_iload_n hx hb dX6_loads_13 rfl (lv_at hl 1 rfl) ?_
    refine lv_iload hx hb dX6_loads_14 (lv_at hl 4 rfl) ?_
    refine fr_Vi (As := [.int (nI (b)), .int (nI (w))]) (rest := []) (fs' := [[((md 0), .inr (6, [.ref (md 1), .int (nI (n)), .ref (md 2), .int (nI (len)), .int (nI (p)), .int (nI (le)), .ref (md 3), .ref (md 4)]))], [((md 1), .inl (T 0, 1872, .inl (mFe σ b w)))]]) (ci := 6) (q0 := (RX6, TX6, 8)) (i0 := 0) ⟨hx, hb, hml, hown, hts⟩ (kX6_fetches l D T Z md n len p le σ b w (by omega) (by omega)) (cwV 2 hts gX6_loads_X6_fetches rfl rfl rfl (by decide +kernel) ⟨Nat.le_of_ble_eq_true rfl, Nat.le_of_ble_eq_true rfl⟩) hK hN hM hP hD hS hA [0, 1] rfl rfl rfl rfl rfl rfl hl.1 rfl (Nat.le_of_ble_eq_true rfl) dX6_loads_16 ⟨Nat.zero_le _, Nat.zero_le _⟩ (fun H locs hP hD hS => ?_)
    refine lv_istore (lv' := [(6, .int (bI (mCH σ b w))), (0, .ref (md 0)), (1, .int (nI (b))), (2, .int (nI (t))), (3, .int (nI (r))), (4, .int (nI (w))), (5, .int (nI (q)))]) hx hb dX6_loads_19 hl (by decide) rfl (fun ls hl => ?_)
    refine lv_iload_n hx hb dX6_loads_21 rfl (lv_at hl 2 rfl) ?_
    refine lv_iload hx hb dX6_loads_22 (lv_at hl 5 rfl) ?_
    refine fr_S0 (As := [.int (nI (b)), .int (nI (w))]) (rest := []) ⟨hx, hb, hml, hown, hts⟩ (kX6_wordAt l D T Z b w) (va_cwS 2 hts gX6_loads_X6_wordAt rfl rfl rfl (by decide +kernel) ⟨Nat.le_of_ble_eq_true rfl, Nat.le_of_ble_eq_true rfl⟩) hK hN hM hP hD hS hA rfl hl.1 rfl (Nat.le_of_ble_eq_true rfl) dX6_loads_24 ⟨Nat.zero_le _, Nat.zero_le _⟩ (fun H locs hP hD hS => ?_)
    refine lv_istore (lv' := [(7, .int (nI (wdt b w))), (6, .int (bI (mCH σ b w))), (0, .ref (md 0)), (1, .int (nI (b))), (2, .int (nI (t))), (3, .int (nI (r))), (4, .int (nI (w))), (5, .int (nI (q)))]) hx hb dX6_loads_27 hl (by decide) rfl (fun ls hl => ?_)
    refine lv_iload hx hb dX6_loads_29 (lv_at hl 7 rfl) ?_
    refine lv_iconst (v := nI 2) hx hb dX6_loads_31 (by decide) ?_
    refine fr_icmp_ne (q) (2) (by omega) (by decide) (tgt := 45) hx hb dX6_loads_32 (by decide) (fun c_2 => ?_) (fun c_2 => ?_)
    · refine lv_iload hx hb dX6_loads_45 (lv_at hl 7 rfl) ?_
      refine fr_if_ne (q) (by omega) (tgt := 64) hx hb dX6_loads_47 (by decide) (fun c_3 => ?_) (fun c_3 => ?_)
      · refine lv_aload_n hx hb dX6_loads_64 rfl (lv_at hl 2 rfl) ?_
        refine va_get (D := D) (ci := 6) (v := .ref (md 1)) (C := RX6) (T := TX6) (N := 8) hx hb hts hinX6 hown hK (hP.at 0 rfl) 0 rfl rfl 0 (by decide) w_7 (fun _ h9 => h9) rfl dX6_loads_65 ?_
        refine lv_iload hx hb dX6_loads_68 (lv_at hl 0 rfl) ?_
        refine fr_iald hx hb hK hP 1 (wdt b w) rfl (by omega) (by omega) dX6_loads_70 ?_
        refine lv_sipush (v := nI 256) hx hb dX6_loads_71 (by decide) ?_
        refine lv_idiv hx hb dX6_loads_74 (by decide) ?_
        refine lv_istore (lv' := [(8, .int (((mFe σ b w) (wdt b w)) / (nI 256))), (7, .int (nI (wdt b w))), (6, .int (bI (mCH σ b w))), (0, .ref (md 0)), (1, .int (nI (b))), (2, .int (nI (t))), (3, .int (nI (r))), (4, .int (nI (w))), (5, .int (nI (q)))]) hx hb dX6_loads_75 hl (by decide) rfl (fun ls hl => ?_)
        refine lv_aload_n hx hb dX6_loads_77 rfl (lv_at hl 3 rfl) ?_
        refine lv_iload_n hx hb dX6_loads_78 rfl (lv_at hl 4 rfl) ?_
        refine lv_iload_n hx hb dX6_loads_79 rfl (lv_at hl 5 rfl) ?_
        refine lv_iload_n hx hb dX6_loads_80 rfl (lv_at hl 6 rfl) ?_
        refine fr_S0 (As := [.int (nI (b)), .int (nI (t)), .int (nI (r))]) (rest := [.ref (md 0)]) ⟨hx, hb, hml, hown, hts⟩ (kX6_registerAt l D T Z b t r) (va_cwS 3 hts gX6_loads_X6_registerAt rfl rfl rfl (by decide +kernel) ⟨Nat.le_of_ble_eq_true rfl, Nat.le_of_ble_eq_true rfl⟩) hK hN hM hP hD hS hA rfl hl.1 rfl (Nat.le_of_ble_eq_true rfl) dX6_loads_81 ⟨Nat.zero_le _, Nat.zero_le _⟩ (fun H locs hP hD hS => ?_)
        refine lv_iload hx hb dX6_loads_84 (lv_at hl 0 rfl) ?_
        refine lv_iload hx hb dX6_loads_86 (lv_at hl 1 rfl) ?_
        refine fr_Vv (As := [.int (nI (rgt b t r)), .int (((mFe σ b w) (wdt b w)) / (nI 256)), .int (nI (wdt b w))]) (rest := []) (fs' := [[((md 0), .inr (6, [.ref (md 1), .int (nI (n)), .ref (md 2), .int (nI (len)), .int (nI (p)), .int (nI (le)), .ref (md 3), .ref (md 4)]))], [((md 1), .inl (T 0, 1872, .inl (mGet (mFe σ b w) (rgt b t r) (((mFe σ b w) (wdt b w)) / (nI 256)) (wdt b w))))]]) (ci := 6) (q0 := (RX6, TX6, 8)) (i0 := 0) ⟨hx, hb, hml, hown, hts⟩ (kX6_gets l D T Z md n len p le (mFe σ b w) (rgt b t r) (((mFe σ b w) (wdt b w)) / (nI 256)) (wdt b w) (by omega) (by omega)) (cwV 3 hts gX6_loads_X6_gets rfl rfl rfl (by decide +kernel) ⟨Nat.le_of_ble_eq_true rfl, Nat.le_of_ble_eq_true rfl⟩) hK hN hM hP hD hS hA [0, 1] rfl rfl rfl rfl rfl rfl hl.1 rfl (Nat.le_of_ble_eq_true rfl) dX6_loads_88 ⟨Nat.zero_le _, Nat.zero_le _⟩ (fun H locs hP hD hS => ?_)
        refine lv_iload hx hb dX6_loads_91 (lv_at hl 2 rfl) ?_
        refine lv_if_ge (tgt := 101) hx hb dX6_loads_93 (by decide) (fun _ => ?_) (fun z => absurd (bI_ge _) z)
        refine lv_iload hx hb dX6_loads_101 (lv_at hl 0 rfl) ?_
        exact fr_iret hx hb hr hlk hP hS (by first | rfl | (simp only [mLbR, mLbS, mby, rm8, c_1, c_2, c_3, ↓reduceIte, Bool.false_eq_true, bI_true, bI_false, Bool.true_and, Bool.and_true, Bool.and_false, Bool.false_and, Bool.not_true, Bool.not_false, Bool.or_true, Bool.true_or, Bool.or_false, Bool.false_or] <;> rfl) | (simp [mLbR, mLbS, mby, rm8, c_1, c_2, c_3, bI]; done)) (by first | rfl | (simp only [mLbR, mLbS, mby, rm8, c_1, c_2, c_3, ↓reduceIte, Bool.false_eq_true, bI_true, bI_false, Bool.true_and, Bool.and_true, Bool.and_false, Bool.false_and, Bool.not_true, Bool.not_false, Bool.or_true, Bool.true_or, Bool.or_false, Bool.false_or] <;> rfl) | (simp [mLbR, mLbS, mby, rm8, c_1, c_2, c_3, bI]; done)) dX6_loads_103
      · refine lv_aload_n hx hb dX6_loads_50 rfl (lv_at hl 2 rfl) ?_
        refine va_get (D := D) (ci := 6) (v := .ref (md 1)) (C := RX6) (T := TX6) (N := 8) hx hb hts hinX6 hown hK (hP.at 0 rfl) 0 rfl rfl 0 (by decide) w_7 (fun _ h9 => h9) rfl dX6_loads_51 ?_
        refine lv_iload hx hb dX6_loads_54 (lv_at hl 0 rfl) ?_
        refine fr_iald hx hb hK hP 1 (wdt b w) rfl (by omega) (by omega) dX6_loads_56 ?_
        refine lv_sipush (v := nI 256) hx hb dX6_loads_57 (by decide) ?_
        refine lv_irem hx hb dX6_loads_60 (by decide) ?_
        refine lv_goto (tgt := 75) hx hb dX6_loads_61 (by decide) ?_
        refine lv_istore (lv' := [(8, .int (((mFe σ b w) (wdt b w)) - ((mFe σ b w) (wdt b w)) / (nI 256) * (nI 256))), (7, .int (nI (wdt b w))), (6, .int (bI (mCH σ b w))), (0, .ref (md 0)), (1, .int (nI (b))), (2, .int (nI (t))), (3, .int (nI (r))), (4, .int (nI (w))), (5, .int (nI (q)))]) hx hb dX6_loads_75 hl (by decide) rfl (fun ls hl => ?_)
        refine lv_aload_n hx hb dX6_loads_77 rfl (lv_at hl 3 rfl) ?_
        refine lv_iload_n hx hb dX6_loads_78 rfl (lv_at hl 4 rfl) ?_
        refine lv_iload_n hx hb dX6_loads_79 rfl (lv_at hl 5 rfl) ?_
        refine lv_iload_n hx hb dX6_loads_80 rfl (lv_at hl 6 rfl) ?_
        refine fr_S0 (As := [.int (nI (b)), .int (nI (t)), .int (nI (r))]) (rest := [.ref (md 0)]) ⟨hx, hb, hml, hown, hts⟩ (kX6_registerAt l D T Z b t r) (va_cwS 3 hts gX6_loads_X6_registerAt rfl rfl rfl (by decide +kernel) ⟨Nat.le_of_ble_eq_true rfl, Nat.le_of_ble_eq_true rfl⟩) hK hN hM hP hD hS hA rfl hl.1 rfl (Nat.le_of_ble_eq_true rfl) dX6_loads_81 ⟨Nat.zero_le _, Nat.zero_le _⟩ (fun H locs hP hD hS => ?_)
        refine lv_iload hx hb dX6_loads_84 (lv_at hl 0 rfl) ?_
        refine lv_iload hx hb dX6_loads_86 (lv_at hl 1 rfl) ?_
        refine fr_Vv (As := [.int (nI (rgt b t r)), .int (((mFe σ b w) (wdt b w)) - ((mFe σ b w) (wdt b w)) / (nI 256) * (nI 256)), .int (nI (wdt b w))]) (rest := []) (fs' := [[((md 0), .inr (6, [.ref (md 1), .int (nI (n)), .ref (md 2), .int (nI (len)), .int (nI (p)), .int (nI (le)), .ref (md 3), .ref (md 4)]))], [((md 1), .inl (T 0, 1872, .inl (mGet (mFe σ b w) (rgt b t r) (((mFe σ b w) (wdt b w)) - ((mFe σ b w) (wdt b w)) / (nI 256) * (nI 256)) (wdt b w))))]]) (ci := 6) (q0 := (RX6, TX6, 8)) (i0 := 0) ⟨hx, hb, hml, hown, hts⟩ (kX6_gets l D T Z md n len p le (mFe σ b w) (rgt b t r) (((mFe σ b w) (wdt b w)) - ((mFe σ b w) (wdt b w)) / (nI 256) * (nI 256)) (wdt b w) (by omega) (by omega)) (cwV 3 hts gX6_loads_X6_gets rfl rfl rfl (by decide +kernel) ⟨Nat.le_of_ble_eq_true rfl, Nat.le_of_ble_eq_true rfl⟩) hK hN hM hP hD hS hA [0, 1] rfl rfl rfl rfl rfl rfl hl.1 rfl (Nat.le_of_ble_eq_true rfl) dX6_loads_88 ⟨Nat.zero_le _, Nat.zero_le _⟩ (fun H locs hP hD hS => ?_)
        refine lv_iload hx hb dX6_loads_91 (lv_at hl 2 rfl) ?_
        refine lv_if_ge (tgt := 101) hx hb dX6_loads_93 (by decide) (fun _ => ?_) (fun z => absurd (bI_ge _) z)
        refine lv_iload hx hb dX6_loads_101 (lv_at hl 0 rfl) ?_
        exact fr_iret hx hb hr hlk hP hS (by first | rfl | (simp only [mLbR, mLbS, mby, rm8, c_1, c_2, c_3, ↓reduceIte, Bool.false_eq_true, bI_true, bI_false, Bool.true_and, Bool.and_true, Bool.and_false, Bool.false_and, Bool.not_true, Bool.not_false, Bool.or_true, Bool.true_or, Bool.or_false, Bool.false_or] <;> rfl) | (simp [mLbR, mLbS, mby, rm8, c_1, c_2, c_3, bI]; done)) (by first | rfl | (simp only [mLbR, mLbS, mby, rm8, c_1, c_2, c_3, ↓reduceIte, Bool.false_eq_true, bI_true, bI_false, Bool.true_and, Bool.and_true, Bool.and_false, Bool.false_and, Bool.not_true, Bool.not_false, Bool.or_true, Bool.true_or, Bool.or_false, Bool.false_or] <;> rfl) | (simp [mLbR, mLbS, mby, rm8, c_1, c_2, c_3, bI]; done)) dX6_loads_103
    · exact absurd hq (by omega)
  · refine lv_bipush (v := (-5)) hx hb dX6_loads_9 (by decide) ?_
    exact fr_iret hx hb hr hlk hP hS (by first | rfl | (simp only [mLbR, mLbS, mby, rm8, c_1, ↓reduceIte, Bool.false_eq_true, bI_true, bI_false, Bool.true_and, Bool.and_true, Bool.and_false, Bool.false_and, Bool.not_true, Bool.not_false, Bool.or_true, Bool.true_or, Bool.or_false, Bool.false_or] <;> rfl) | (simp [mLbR, mLbS, mby, rm8, c_1, bI]; done)) (by first | rfl | (simp only [mLbR, mLbS, mby, rm8, c_1, ↓reduceIte, Bool.false_eq_true, bI_true, bI_false, Bool.true_and, Bool.and_true, Bool.and_false, Bool.false_and, Bool.not_true, Bool.not_false, Bool.or_true, Bool.true_or, Bool.or_false, Bool.false_or] <;> rfl) | (simp [mLbR, mLbS, mby, rm8, c_1, bI]; done)) dX6_loads_11

set_option maxHeartbeats 8000000 in
set_option maxRecDepth 100000 in
theorem kX6_stores (l : Launch) (D : va_G) (T : Nat → ClassId) (Z : ZZ) (md : Nat → Nat) (n : Nat) (len : Nat) (p : Nat) (le : Nat) (σ : MS) (b : Nat) (t : Nat) (r : Nat) (w : Nat) (hb9 : b ≤ 1560) (ht : t < 4) (hr9 : r < 4) (hw : w < 32) : CtI l D T Z yX6_stores wsX6_stores ({ frames := 2, cells := 0, slots := 0, locals := 47 }) [[((md 0), .inr (6, [.ref (md 1), .int (nI (n)), .ref (md 2), .int (nI (len)), .int (nI (p)), .int (nI (le)), .ref (md 3), .ref (md 4)]))], [((md 1), .inl (T 0, 1872, .inl (σ)))]] [.ref (md 0), .int (nI (b)), .int (nI (t)), .int (nI (r)), .int (nI (w))] (mStoR σ b t r w) [[((md 0), .inr (6, [.ref (md 1), .int (nI (n)), .ref (md 2), .int (nI (len)), .int (nI (p)), .int (nI (le)), .ref (md 3), .ref (md 4)]))], [((md 1), .inl (T 0, 1872, .inl (mStoS σ b t r w)))]] := by
  have hrr : rgt b t r = b + 192 + 3 * (4 * t + r) := rfl
  have hwd : wdt b w = b + 3 * w := rfl
  have hcp : cpt b w = b + 96 + 3 * w := rfl
  refine CtI.of (cc := cX6_stores) (maxL := 6) (ret := (some .int)) (plainFor_of_name (by decide)) rfl rfl ?_
  intro pP eE s mM bW mE cC A hE hK hN hM hP hD hA
  obtain ⟨hx, hb, hr, hts, hown, hml, hlk⟩ := hE
  have hown : s.vm.findClass RX6 = some mM.cls := hown
  have hS : va_S A s.heap s.heap [] := va_S.rf
  have hl := lv_entry ([.ref (md 0), .int (nI (b)), .int (nI (t)), .int (nI (r)), .int (nI (w))]) (n := 6) (Nat.le_of_ble_eq_true rfl)
  rw [lg_entry_eq]
  generalize (lg_sl ([.ref (md 0), .int (nI (b)), .int (nI (t)), .int (nI (r)), .int (nI (w))]) ++ List.replicate (6 - (lg_sl ([.ref (md 0), .int (nI (b)), .int (nI (t)), .int (nI (r)), .int (nI (w))])).length) Slot.unset).toArray = ls at hl ⊢
  have hl : lv_has ls 6 [(0, .ref (md 0)), (1, .int (nI (b))), (2, .int (nI (t))), (3, .int (nI (r))), (4, .int (nI (w)))] := hl
  have w_7 := hts (.fieldLink RX6 7 "PoisonedMemoryModel" "s" "[I") (by decide +kernel)
  have hinX6 : ∀ w ∈ wsX60, w ∈ wsX6_stores := by decide +kernel
  refine lv_aload_n hx hb dX6_stores_0 rfl (lv_at hl 0 rfl) ?_
  refine lv_iload_n hx hb dX6_stores_1 rfl (lv_at hl 1 rfl) ?_
  refine lv_iload_n hx hb dX6_stores_2 rfl (lv_at hl 2 rfl) ?_
  refine fr_Vi (As := [.int (nI (b)), .int (nI (t))]) (rest := []) (fs' := [[((md 0), .inr (6, [.ref (md 1), .int (nI (n)), .ref (md 2), .int (nI (len)), .int (nI (p)), .int (nI (le)), .ref (md 3), .ref (md 4)]))], [((md 1), .inl (T 0, 1872, .inl (σ)))]]) (ci := 6) (q0 := (RX6, TX6, 8)) (i0 := 0) ⟨hx, hb, hml, hown, hts⟩ (kX6_isStopped l D T Z md n len p le σ b t (by omega) (by omega)) (cwV 2 hts gX6_stores_X6_isStopped rfl rfl rfl (by decide +kernel) ⟨Nat.le_of_ble_eq_true rfl, Nat.le_of_ble_eq_true rfl⟩) hK hN hM hP hD hS hA [0, 1] rfl rfl rfl rfl rfl rfl hl.1 rfl (Nat.le_of_ble_eq_true rfl) dX6_stores_3 ⟨Nat.zero_le _, Nat.zero_le _⟩ (fun H locs hP hD hS => ?_)
  refine fr_ifeq_b (tgt := 12) hx hb dX6_stores_6 (by decide) (fun c_1 => ?_) (fun c_1 => ?_)
  · refine lv_iload_n hx hb dX6_stores_12 rfl (lv_at hl 1 rfl) ?_
    refine lv_iload_n hx hb dX6_stores_13 rfl (lv_at hl 2 rfl) ?_
    refine lv_iload_n hx hb dX6_stores_14 rfl (lv_at hl 3 rfl) ?_
    refine fr_S0 (As := [.int (nI (b)), .int (nI (t)), .int (nI (r))]) (rest := []) ⟨hx, hb, hml, hown, hts⟩ (kX6_registerAt l D T Z b t r) (va_cwS 3 hts gX6_stores_X6_registerAt rfl rfl rfl (by decide +kernel) ⟨Nat.le_of_ble_eq_true rfl, Nat.le_of_ble_eq_true rfl⟩) hK hN hM hP hD hS hA rfl hl.1 rfl (Nat.le_of_ble_eq_true rfl) dX6_stores_15 ⟨Nat.zero_le _, Nat.zero_le _⟩ (fun H locs hP hD hS => ?_)
    refine lv_istore (lv' := [(5, .int (nI (rgt b t r))), (0, .ref (md 0)), (1, .int (nI (b))), (2, .int (nI (t))), (3, .int (nI (r))), (4, .int (nI (w)))]) hx hb dX6_stores_18 hl (by decide) rfl (fun ls hl => ?_)
    refine lv_aload_n hx hb dX6_stores_20 rfl (lv_at hl 1 rfl) ?_
    refine lv_iload_n hx hb dX6_stores_21 rfl (lv_at hl 2 rfl) ?_
    refine lv_iload hx hb dX6_stores_22 (lv_at hl 5 rfl) ?_
    refine fr_S0 (As := [.int (nI (b)), .int (nI (w))]) (rest := [.ref (md 0)]) ⟨hx, hb, hml, hown, hts⟩ (kX6_wordAt l D T Z b w) (va_cwS 2 hts gX6_stores_X6_wordAt rfl rfl rfl (by decide +kernel) ⟨Nat.le_of_ble_eq_true rfl, Nat.le_of_ble_eq_true rfl⟩) hK hN hM hP hD hS hA rfl hl.1 rfl (Nat.le_of_ble_eq_true rfl) dX6_stores_24 ⟨Nat.zero_le _, Nat.zero_le _⟩ (fun H locs hP hD hS => ?_)
    refine lv_aload_n hx hb dX6_stores_27 rfl (lv_at hl 1 rfl) ?_
    refine va_get (D := D) (ci := 6) (v := .ref (md 1)) (C := RX6) (T := TX6) (N := 8) hx hb hts hinX6 hown hK (hP.at 0 rfl) 0 rfl rfl 0 (by decide) w_7 (fun _ h9 => h9) rfl dX6_stores_28 ?_
    refine lv_iload hx hb dX6_stores_31 (lv_at hl 0 rfl) ?_
    refine fr_iald hx hb hK hP 1 (rgt b t r) rfl (by omega) (by omega) dX6_stores_33 ?_
    refine lv_iload hx hb dX6_stores_34 (lv_at hl 0 rfl) ?_
    refine fr_Vv (As := [.int (nI (wdt b w)), .int (σ (rgt b t r)), .int (nI (rgt b t r))]) (rest := []) (fs' := [[((md 0), .inr (6, [.ref (md 1), .int (nI (n)), .ref (md 2), .int (nI (len)), .int (nI (p)), .int (nI (le)), .ref (md 3), .ref (md 4)]))], [((md 1), .inl (T 0, 1872, .inl (mGet σ (wdt b w) (σ (rgt b t r)) (rgt b t r))))]]) (ci := 6) (q0 := (RX6, TX6, 8)) (i0 := 0) ⟨hx, hb, hml, hown, hts⟩ (kX6_gets l D T Z md n len p le σ (wdt b w) (σ (rgt b t r)) (rgt b t r) (by omega) (by omega)) (cwV 3 hts gX6_stores_X6_gets rfl rfl rfl (by decide +kernel) ⟨Nat.le_of_ble_eq_true rfl, Nat.le_of_ble_eq_true rfl⟩) hK hN hM hP hD hS hA [0, 1] rfl rfl rfl rfl rfl rfl hl.1 rfl (Nat.le_of_ble_eq_true rfl) dX6_stores_36 ⟨Nat.zero_le _, Nat.zero_le _⟩ (fun H locs hP hD hS => ?_)
    refine lv_aload_n hx hb dX6_stores_39 rfl (lv_at hl 1 rfl) ?_
    refine lv_iload_n hx hb dX6_stores_40 rfl (lv_at hl 2 rfl) ?_
    refine lv_iload hx hb dX6_stores_41 (lv_at hl 5 rfl) ?_
    refine fr_Vv (As := [.int (nI (b)), .int (nI (w))]) (rest := []) (fs' := [[((md 0), .inr (6, [.ref (md 1), .int (nI (n)), .ref (md 2), .int (nI (len)), .int (nI (p)), .int (nI (le)), .ref (md 3), .ref (md 4)]))], [((md 1), .inl (T 0, 1872, .inl (mWr (mGet σ (wdt b w) (σ (rgt b t r)) (rgt b t r)) b w)))]]) (ci := 6) (q0 := (RX6, TX6, 8)) (i0 := 0) ⟨hx, hb, hml, hown, hts⟩ (kX6_written l D T Z md n len p le (mGet σ (wdt b w) (σ (rgt b t r)) (rgt b t r)) b w (by omega) (by omega)) (cwV 2 hts gX6_stores_X6_written rfl rfl rfl (by decide +kernel) ⟨Nat.le_of_ble_eq_true rfl, Nat.le_of_ble_eq_true rfl⟩) hK hN hM hP hD hS hA [0, 1] rfl rfl rfl rfl rfl rfl hl.1 rfl (Nat.le_of_ble_eq_true rfl) dX6_stores_43 ⟨Nat.zero_le _, Nat.zero_le _⟩ (fun H locs hP hD hS => ?_)
    refine lv_aload_n hx hb dX6_stores_46 rfl (lv_at hl 1 rfl) ?_
    refine lv_iload hx hb dX6_stores_47 (lv_at hl 0 rfl) ?_
    refine fr_Vi (As := [.int (nI (rgt b t r))]) (rest := []) (fs' := [[((md 0), .inr (6, [.ref (md 1), .int (nI (n)), .ref (md 2), .int (nI (len)), .int (nI (p)), .int (nI (le)), .ref (md 3), .ref (md 4)]))], [((md 1), .inl (T 0, 1872, .inl (mWr (mGet σ (wdt b w) (σ (rgt b t r)) (rgt b t r)) b w)))]]) (ci := 6) (q0 := (RX6, TX6, 8)) (i0 := 0) ⟨hx, hb, hml, hown, hts⟩ (kX6_isPoisoned l D T Z md n len p le (mWr (mGet σ (wdt b w) (σ (rgt b t r)) (rgt b t r)) b w) (rgt b t r) (by omega)) (cwV 1 hts gX6_stores_X6_isPoisoned rfl rfl rfl (by decide +kernel) ⟨Nat.le_of_ble_eq_true rfl, Nat.le_of_ble_eq_true rfl⟩) hK hN hM hP hD hS hA [0, 1] rfl rfl rfl rfl rfl rfl hl.1 rfl (Nat.le_of_ble_eq_true rfl) dX6_stores_49 ⟨Nat.zero_le _, Nat.zero_le _⟩ (fun H locs hP hD hS => ?_)
    refine fr_ifeq_b (tgt := 59) hx hb dX6_stores_52 (by decide) (fun c_2 => ?_) (fun c_2 => ?_)
    · refine lv_iconst (v := nI 0) hx hb dX6_stores_59 (by decide) ?_
      exact fr_iret hx hb hr hlk hP hS (by first | rfl | (simp only [mStoR, mStoS, mSto1, c_1, c_2, ↓reduceIte, Bool.false_eq_true, bI_true, bI_false, Bool.true_and, Bool.and_true, Bool.and_false, Bool.false_and, Bool.not_true, Bool.not_false, Bool.or_true, Bool.true_or, Bool.or_false, Bool.false_or] <;> rfl) | (simp [mStoR, mStoS, mSto1, c_1, c_2, bI]; done)) (by first | rfl | (simp only [mStoR, mStoS, mSto1, c_1, c_2, ↓reduceIte, Bool.false_eq_true, bI_true, bI_false, Bool.true_and, Bool.and_true, Bool.and_false, Bool.false_and, Bool.not_true, Bool.not_false, Bool.or_true, Bool.true_or, Bool.or_false, Bool.false_or] <;> rfl) | (simp [mStoR, mStoS, mSto1, c_1, c_2, bI]; done)) dX6_stores_60
    · refine lv_iconst (v := nI 1) hx hb dX6_stores_55 (by decide) ?_
      refine lv_goto (tgt := 60) hx hb dX6_stores_56 (by decide) ?_
      exact fr_iret hx hb hr hlk hP hS (by first | rfl | (simp only [mStoR, mStoS, mSto1, c_1, c_2, ↓reduceIte, Bool.false_eq_true, bI_true, bI_false, Bool.true_and, Bool.and_true, Bool.and_false, Bool.false_and, Bool.not_true, Bool.not_false, Bool.or_true, Bool.true_or, Bool.or_false, Bool.false_or] <;> rfl) | (simp [mStoR, mStoS, mSto1, c_1, c_2, bI]; done)) (by first | rfl | (simp only [mStoR, mStoS, mSto1, c_1, c_2, ↓reduceIte, Bool.false_eq_true, bI_true, bI_false, Bool.true_and, Bool.and_true, Bool.and_false, Bool.false_and, Bool.not_true, Bool.not_false, Bool.or_true, Bool.true_or, Bool.or_false, Bool.false_or] <;> rfl) | (simp [mStoR, mStoS, mSto1, c_1, c_2, bI]; done)) dX6_stores_60
  · refine lv_bipush (v := (-5)) hx hb dX6_stores_9 (by decide) ?_
    exact fr_iret hx hb hr hlk hP hS (by first | rfl | (simp only [mStoR, mStoS, mSto1, c_1, ↓reduceIte, Bool.false_eq_true, bI_true, bI_false, Bool.true_and, Bool.and_true, Bool.and_false, Bool.false_and, Bool.not_true, Bool.not_false, Bool.or_true, Bool.true_or, Bool.or_false, Bool.false_or] <;> rfl) | (simp [mStoR, mStoS, mSto1, c_1, bI]; done)) (by first | rfl | (simp only [mStoR, mStoS, mSto1, c_1, ↓reduceIte, Bool.false_eq_true, bI_true, bI_false, Bool.true_and, Bool.and_true, Bool.and_false, Bool.false_and, Bool.not_true, Bool.not_false, Bool.or_true, Bool.true_or, Bool.or_false, Bool.false_or] <;> rfl) | (simp [mStoR, mStoS, mSto1, c_1, bI]; done)) dX6_stores_11
