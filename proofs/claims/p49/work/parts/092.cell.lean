set_option maxHeartbeats 8000000 in
set_option maxRecDepth 100000 in
theorem kL_cell {b L : Nat} {xs : Nat → Int32} (l : Launch) (D : va_G) (T : Nat → ClassId) (Z : ZZ) (k : Nat) (hL : L ≤ 260) (hk : k < 1000) : CtX l D T Z yL_cell wsL_cell ({ frames := 0, cells := 0, slots := 0, locals := 0 }) b L xs [.ref b, .int (nI (k))] (celF L xs k) := by
  refine CtX.of (cc := cL_cell) (maxL := 2) (ret := (some .int)) (by decide +kernel) rfl ?_
  intro pP eE s mM bW mE cC A hE hK hX hP hA
  obtain ⟨hx, hb, hr, hts, hown, hml, hlk⟩ := hE
  have hown : s.vm.findClass RL = some mM.cls := hown
  have hS : va_S A s.heap s.heap [] := va_S.rf
  have hbl : b < s.heap.size := by obtain ⟨scr, hcb, -⟩ := hX; exact (Array.getElem?_eq_some_iff.mp hcb).1
  have hbA : ¬ A b := fun q => absurd (hA b q) (Nat.not_le.mpr hbl)
  have hl := lv_entry ([.ref b, .int (nI (k))]) (n := 2) (Nat.le_of_ble_eq_true rfl)
  rw [lg_entry_eq]
  generalize (lg_sl ([.ref b, .int (nI (k))]) ++ List.replicate (2 - (lg_sl ([.ref b, .int (nI (k))])).length) Slot.unset).toArray = ls at hl ⊢
  have hl : lv_has ls 2 [(0, .ref b), (1, .int (nI (k)))] := hl
  have w_7 := hts (.constant RL 7 (1812433253)) (by decide +kernel)
  refine lv_iload_n hx hb dL_cell_0 rfl (lv_at hl 1 rfl) ?_
  refine lv_aload_n hx hb dL_cell_1 rfl (lv_at hl 0 rfl) ?_
  refine va_slen hx hb hX hbl hbA hS dL_cell_2 ?_
  refine fr_icmp_ge k L (by omega) (by omega) (tgt := 12) hx hb dL_cell_3 (by decide) (fun c9 => ?_) (fun c9 => ?_)
  · refine lv_ldc hx hb hown w_7 dL_cell_12 ?_
    refine lv_iload_n hx hb dL_cell_14 rfl (lv_at hl 1 rfl) ?_
    refine lv_sipush (v := nI 257) hx hb dL_cell_15 (by decide) ?_
    refine fr_iadd k 257 hx hb dL_cell_18 ?_
    refine lv_imul hx hb dL_cell_19 ?_
    exact fr_iret hx hb hr hlk hP hS (by unfold celF; rw [if_neg (by omega)]) rfl dL_cell_20
  · refine lv_aload_n hx hb dL_cell_6 rfl (lv_at hl 0 rfl) ?_
    refine lv_iload_n hx hb dL_cell_7 rfl (lv_at hl 1 rfl) ?_
    refine va_sld hx hb hX hbl hbA hS (fun z => ?_) dL_cell_8 ?_
    · rcases z with z | z
      · exact nI_pos (by omega) z
      · rw [nI_clamp (by omega)] at z; omega
    rw [nI_clamp (by omega)]
    refine lv_goto (tgt := 20) hx hb dL_cell_9 (by decide) ?_
    exact fr_iret hx hb hr hlk hP hS (by unfold celF; rw [if_pos (by omega)]) rfl dL_cell_20
