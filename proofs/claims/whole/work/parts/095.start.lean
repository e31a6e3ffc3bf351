/-! the start -/
theorem arr_cls {args : Array Value} {s : State} {ty : FieldType} (h : (Cond.arrayClass ty).before args s = true) : ∃ cA : ClassId, ArrOfT s cA ty ∧ s.vm.findClass ("[" ++ ty.toString) = some cA := by
  obtain ⟨c, k, comp, hf, hk, hkind⟩ := Cond.arrayClass_spec h
  exact ⟨c, fun n z => ⟨fun j hj => (by cases hj), k, hk, comp, hkind⟩, hf⟩
theorem arr_obj {s : State} {C : String} (h : va_AO C s) : ∃ cA : ClassId, ArrOfT s cA (.object C) ∧ va_RA s cA (.object C) := by
  obtain ⟨comp, c, k, h1, -, h3, h4, h5⟩ := Cond.arrayOver_spec (va_AO.use (A := #[]) h)
  exact ⟨c, fun n z => ⟨fun j hj => (by cases hj), k, h3, comp, h4⟩, ⟨k, comp, h3, h4, h1, h5⟩⟩
def tmS (i : Nat) : Term := Term.string RX4 (skey.getD i 0)
set_option maxHeartbeats 8000000 in
set_option maxRecDepth 100000 in
theorem amb_0 {s : State} {b : Nat} (hts : ∀ w ∈ lw_tbl, w.before #[Value.ref b] s = true) (hgv : (Jvm.Cond.and given_1 narrow_1).before #[Value.ref b] s = true) : ∃ Z : ZZ, amb Z (fun q => s.heap.size ≤ q) s s.heap := by
  have hs := flat_of_before _ hgv
  have hA : ∀ a : Nat, a < s.heap.size → ¬ (fun q : Nat => s.heap.size ≤ q) a := fun a h => Nat.not_le.mpr h
  have hex : ∀ i : Nat, i < 7 → (Cond.exactly (tmS i) "java/lang/String").before #[Value.ref b] s = true := fun i hi => by rcases (show i = 0 ∨ i = 1 ∨ i = 2 ∨ i = 3 ∨ i = 4 ∨ i = 5 ∨ i = 6 by omega) with rfl | rfl | rfl | rfl | rfl | rfl | rfl <;> exact hs _ (by decide +kernel)
  have hco : ∀ i : Nat, i < 7 → (Cond.eq (.field (tmS i) "java/lang/String" "coder" "B") (.int 0)).before #[Value.ref b] s = true := fun i hi => by rcases (show i = 0 ∨ i = 1 ∨ i = 2 ∨ i = 3 ∨ i = 4 ∨ i = 5 ∨ i = 6 by omega) with rfl | rfl | rfl | rfl | rfl | rfl | rfl <;> exact hs _ (by decide +kernel)
  have har : ∀ i : Nat, i < 7 → (Cond.arrayOf (.field (tmS i) "java/lang/String" "value" "[B") .byte).before #[Value.ref b] s = true := fun i hi => by rcases (show i = 0 ∨ i = 1 ∨ i = 2 ∨ i = 3 ∨ i = 4 ∨ i = 5 ∨ i = 6 by omega) with rfl | rfl | rfl | rfl | rfl | rfl | rfl <;> exact hs _ (by decide +kernel)
  have hle : ∀ i : Nat, i < 7 → (Cond.eq (.length (.field (tmS i) "java/lang/String" "value" "[B")) (.int (Int32.ofNat (slen.getD i 0)))).before #[Value.ref b] s = true := fun i hi => by rcases (show i = 0 ∨ i = 1 ∨ i = 2 ∨ i = 3 ∨ i = 4 ∨ i = 5 ∨ i = 6 by omega) with rfl | rfl | rfl | rfl | rfl | rfl | rfl <;> exact hs _ (by decide +kernel)
  have hel : ∀ i : Nat, i < 7 → ∀ j : Nat, j < slen.getD i 0 → (Cond.eq (.elem (.field (tmS i) "java/lang/String" "value" "[B") (.int (Int32.ofNat j))) (.int ((sbyt.getD i []).getD j 0))).before #[Value.ref b] s = true := by
    intro i hi j hj
    rcases (show i = 0 ∨ i = 1 ∨ i = 2 ∨ i = 3 ∨ i = 4 ∨ i = 5 ∨ i = 6 by omega) with rfl | rfl | rfl | rfl | rfl | rfl | rfl
    · have hj : j < 4 := hj
      rcases (show j = 0 ∨ j = 1 ∨ j = 2 ∨ j = 3 by omega) with rfl | rfl | rfl | rfl <;> exact hs _ (by decide +kernel)
    · have hj : j < 3 := hj
      rcases (show j = 0 ∨ j = 1 ∨ j = 2 by omega) with rfl | rfl | rfl <;> exact hs _ (by decide +kernel)
    · have hj : j < 5 := hj
      rcases (show j = 0 ∨ j = 1 ∨ j = 2 ∨ j = 3 ∨ j = 4 by omega) with rfl | rfl | rfl | rfl | rfl <;> exact hs _ (by decide +kernel)
    · have hj : j < 2 := hj
      rcases (show j = 0 ∨ j = 1 by omega) with rfl | rfl <;> exact hs _ (by decide +kernel)
    · have hj : j < 1 := hj
      obtain rfl : j = 0 := by omega
      exact hs _ (by decide +kernel)
    · have hj : j < 4 := hj
      rcases (show j = 0 ∨ j = 1 ∨ j = 2 ∨ j = 3 by omega) with rfl | rfl | rfl | rfl <;> exact hs _ (by decide +kernel)
    · exact absurd (show j < 0 from hj) (Nat.not_lt_zero j)
  have hne : ∀ i j : Nat, i < 7 → j < 7 → i ≠ j → (Cond.not (Cond.eq (tmS i) (tmS j))).before #[Value.ref b] s = true ∨ (Cond.not (Cond.eq (tmS j) (tmS i))).before #[Value.ref b] s = true := by
    have key : ∀ i j : Nat, i < j → j < 7 → (Cond.not (Cond.eq (tmS i) (tmS j))).before #[Value.ref b] s = true := by
      intro i j hij hj
      rcases (show (i = 0 ∧ j = 1) ∨ (i = 0 ∧ j = 2) ∨ (i = 0 ∧ j = 3) ∨ (i = 0 ∧ j = 4) ∨ (i = 0 ∧ j = 5) ∨ (i = 0 ∧ j = 6) ∨ (i = 1 ∧ j = 2) ∨ (i = 1 ∧ j = 3) ∨ (i = 1 ∧ j = 4) ∨ (i = 1 ∧ j = 5) ∨ (i = 1 ∧ j = 6) ∨ (i = 2 ∧ j = 3) ∨ (i = 2 ∧ j = 4) ∨ (i = 2 ∧ j = 5) ∨ (i = 2 ∧ j = 6) ∨ (i = 3 ∧ j = 4) ∨ (i = 3 ∧ j = 5) ∨ (i = 3 ∧ j = 6) ∨ (i = 4 ∧ j = 5) ∨ (i = 4 ∧ j = 6) ∨ (i = 5 ∧ j = 6) by omega) with ⟨rfl, rfl⟩ | ⟨rfl, rfl⟩ | ⟨rfl, rfl⟩ | ⟨rfl, rfl⟩ | ⟨rfl, rfl⟩ | ⟨rfl, rfl⟩ | ⟨rfl, rfl⟩ | ⟨rfl, rfl⟩ | ⟨rfl, rfl⟩ | ⟨rfl, rfl⟩ | ⟨rfl, rfl⟩ | ⟨rfl, rfl⟩ | ⟨rfl, rfl⟩ | ⟨rfl, rfl⟩ | ⟨rfl, rfl⟩ | ⟨rfl, rfl⟩ | ⟨rfl, rfl⟩ | ⟨rfl, rfl⟩ | ⟨rfl, rfl⟩ | ⟨rfl, rfl⟩ | ⟨rfl, rfl⟩
      all_goals exact hs _ (by decide +kernel)
    intro i j hi hj hij
    rcases Nat.lt_or_gt_of_ne hij with h | h
    · exact Or.inl (key i j h hj)
    · exact Or.inr (key j i h hi)
  obtain ⟨adK, adV, h1, h2⟩ := vk_Sof (args := #[Value.ref b]) (s := s) (N := 7) (tm := tmS) (len := slen) (byt := sbyt) (A := fun q => s.heap.size ≤ q) (by decide) hex hco har hle hel hne hA
  refine ⟨(adK, adV), h1, fun i hi => ?_, va_Zof (hts (.laysStatic "java/lang/String" "COMPACT_STRINGS" "Z") (by decide +kernel)) (hts (.initialized "java/lang/String") (by decide +kernel)) (va_eqi (hs _ (by decide +kernel))) hA, va_Zqof (hts (.laysStatic "jdk/internal/util/Preconditions" "SIOOBE_FORMATTER" "Ljava/util/function/BiFunction;") (by decide +kernel)) (hts (.initialized "jdk/internal/util/Preconditions") (by decide +kernel)) (hs _ (by decide +kernel)) hA⟩
  have h3 := h2 i hi
  rcases (show i = 0 ∨ i = 1 ∨ i = 2 ∨ i = 3 ∨ i = 4 ∨ i = 5 ∨ i = 6 by omega) with rfl | rfl | rfl | rfl | rfl | rfl | rfl <;> exact vk_R.of (A := #[Value.ref b]) (hts _ (by decide +kernel)) h3
theorem cls_0 {s : State} {b : Nat} (hts : ∀ w ∈ lw_tbl, w.before #[Value.ref b] s = true) : ∃ D : va_G, ∀ (k : Nat) (q : vw_C), vwCl[k]? = some q → u_Kn s q.1 q.2.1 q.2.2 (D.1 k) (D.2 k) := by
  obtain ⟨c0, i0, h0⟩ := u_known (C := RX0) (T := TX0) (N := 3) (n := 3) hts inX0 (hts (.instantiable RX0 3) (by decide +kernel))
  obtain ⟨c1, i1, h1⟩ := u_known (C := RX1) (T := TX1) (N := 3) (n := 3) hts inX1 (hts (.instantiable RX1 3) (by decide +kernel))
  obtain ⟨c2, i2, h2⟩ := u_known (C := RX2) (T := TX2) (N := 3) (n := 3) hts inX2 (hts (.instantiable RX2 3) (by decide +kernel))
  obtain ⟨c3, i3, h3⟩ := u_known (C := RX3) (T := TX3) (N := 10) (n := 10) hts inX3 (hts (.instantiable RX3 10) (by decide +kernel))
  obtain ⟨c4, i4, h4⟩ := u_known (C := RX4) (T := TX4) (N := 6) (n := 6) hts inX4 (hts (.instantiable RX4 6) (by decide +kernel))
  obtain ⟨c5, i5, h5⟩ := u_known (C := RX5) (T := TX5) (N := 5) (n := 5) hts inX5 (hts (.instantiable RX5 5) (by decide +kernel))
  obtain ⟨c6, i6, h6⟩ := u_known (C := RX6) (T := TX6) (N := 8) (n := 8) hts inX6 (hts (.instantiable RX6 8) (by decide +kernel))
  refine ⟨((fun k => match k with | 0 => c0 | 1 => c1 | 2 => c2 | 3 => c3 | 4 => c4 | 5 => c5 | _ => c6), (fun k => match k with | 0 => i0 | 1 => i1 | 2 => i2 | 3 => i3 | 4 => i4 | 5 => i5 | _ => i6)), ?_⟩
  intro k q hq
  match k, hq with
  | 0, hq => cases hq; exact h0
  | 1, hq => cases hq; exact h1
  | 2, hq => cases hq; exact h2
  | 3, hq => cases hq; exact h3
  | 4, hq => cases hq; exact h4
  | 5, hq => cases hq; exact h5
  | 6, hq => cases hq; exact h6
  | k + 7, hq => simp [vwCl] at hq
theorem typ_0 {s : State} {b : Nat} {D : va_G} (hts : ∀ w ∈ lw_tbl, w.before #[Value.ref b] s = true) (hQ : va_AO RX3 s) (hKc : ∀ (k : Nat) (q : vw_C), vwCl[k]? = some q → u_Kn s q.1 q.2.1 q.2.2 (D.1 k) (D.2 k)) : ∃ T : Nat → ClassId, va_K D vwCl (tyL T) s := by
  obtain ⟨c0, a0, b0⟩ := arr_cls (hts (.arrayClass .int) (by decide +kernel))
  obtain ⟨c1, a1, b1⟩ := arr_cls (hts (.arrayClass .boolean) (by decide +kernel))
  obtain ⟨c2, a2, b2⟩ := arr_cls (hts (.arrayClass .char) (by decide +kernel))
  obtain ⟨c3, a3, b3⟩ := arr_obj hQ
  refine ⟨fun k => match k with | 0 => c0 | 1 => c1 | 2 => c2 | _ => c3, hKc, fun k q hq => ?_⟩
  match k, hq with
  | 0, hq => cases hq; exact ⟨a0, b0⟩
  | 1, hq => cases hq; exact ⟨a1, b1⟩
  | 2, hq => cases hq; exact ⟨a2, b2⟩
  | 3, hq => cases hq; exact ⟨a3, b3⟩
  | k + 4, hq => simp at hq
theorem nw_0 {s : State} {b : Nat} (hts : ∀ w ∈ lw_tbl, w.before #[Value.ref b] s = true) : nwOk s := by
  have h1 : ∀ q ∈ nwF, Cond.fieldLinkNest q.1 q.2.1 q.2.2.1 q.2.2.2.1 q.2.2.2.2.1 q.2.2.2.2.2 ∈ lw_tbl := by decide +kernel
  have h2 : ∀ q ∈ nwM, Cond.methodLinkNest q.1 q.2.1 q.2.2.1 q.2.2.2 ∈ lw_tbl := by decide +kernel
  exact ⟨fun q hq => va_Nw.of rfl (hts _ (h1 q hq)), fun q hq => va_Nw.of rfl (hts _ (h2 q hq))⟩
theorem fl_bl {T : Nat → ClassId} {bd : Nat → Nat} {β : NS} {fs gs : List va_W} : (fs ++ blF T bd β ++ gs).flatten = (fs ++ [blW T bd β] ++ gs).flatten := by simp [blW]
theorem fr_bl {D : va_G} {T : Nat → ClassId} {bd : Nat → Nat} {β : NS} {fs gs : List va_W} {H : Heap} (h : frP D (fs ++ blF T bd β ++ gs) H) : frP D (fs ++ [blW T bd β] ++ gs) H := by
  unfold frP at h ⊢
  rw [← fl_bl]; exact h
theorem fd_bl {A : Nat → Prop} {T : Nat → ClassId} {bd : Nat → Nat} {β : NS} {fs gs : List va_W} (h : va_D A (fs ++ blF T bd β ++ gs).flatten) : va_D A (fs ++ [blW T bd β] ++ gs).flatten := by
  rw [← fl_bl]; exact h
set_option maxHeartbeats 8000000 in
set_option maxRecDepth 100000 in
theorem whole_start {p : Program} {e : Env} {s : State} {m : MethodId} {below : List Frame} {meth : Method} {c : Code} (l : Launch) (hflags : l.flags = flags0) {b L : Nat} {xs : Nat → Int32} (hL : L ≤ 3072) (C0 : lw_At p s m meth c b L xs) : W p l e room_1 s m #[Value.ref b] below meth c s.heap [] 0 0 (lw_Z below #[Value.ref b] s) (entryFrame m ([Value.ref b] : List Value).toArray 8) := by
  obtain ⟨hx, hb, hr, hml, hown, hts0, hX, hbl, hlk, hgv⟩ := id C0
  have hown : s.vm.findClass RL = some m.cls := hown
  have hts : ∀ w ∈ wsL_law, w.before #[Value.ref b] s = true := fun w h => hts0 w (wsL_law_in w h)
  obtain ⟨Z, hM⟩ := amb_0 hts0 hgv
  obtain ⟨D, hKc⟩ := cls_0 hts0
  have hQ : va_AO RX3 s := va_AO.of (hts0 (.arrayOver (.object RX3)) (by decide +kernel))
  obtain ⟨T, hK⟩ := typ_0 hts0 hQ hKc
  have hN := nw_0 hts0
  have hA : ∀ q : Nat, s.heap.size ≤ q → (fun q : Nat => s.heap.size ≤ q) q := fun _ h => h
  have hS : va_S (fun q : Nat => s.heap.size ≤ q) s.heap s.heap [] := va_S.rf
  have hP : frP D [] s.heap := fun k q h => by simp at h
  have hD : va_D (fun q : Nat => s.heap.size ≤ q) ([] : List va_W).flatten := ⟨fun i j p q h => by simp at h, fun k q h => by simp at h⟩
  have hl := lv_entry ([.ref b]) (n := 8) (Nat.le_of_ble_eq_true rfl)
  rw [lg_entry_eq]
  generalize (lg_sl ([.ref b]) ++ List.replicate (8 - (lg_sl ([.ref b])).length) Slot.unset).toArray = ls at hl ⊢
  have hl : lv_has ls 8 [(0, .ref b)] := hl
  refine fr_newo (T := T) (ci := 5) (C := RX5) (TT := TX5) (N := 5) (vs := [.null, .null, .null, .null, .null]) hx hb hts inlX5 tyX5 tyX5_ok hown (hts0 (.classLink RL 7 RX5) (by decide +kernel)) (hts0 (.instantiable RX5 5) (by decide +kernel)) (hts0 (.initialized RX5) (by decide +kernel)) hK hP hD hS hA rfl (fun j hj => by rcases (show j = 0 ∨ j = 1 ∨ j = 2 ∨ j = 3 ∨ j = 4 by omega) with rfl | rfl | rfl | rfl | rfl <;> rfl) (Nat.le_of_ble_eq_true rfl) (Nat.le_of_ble_eq_true rfl) dL_law_0 (fun q1 H hP hD hS => ?_)
  refine lv_dup hx hb dL_law_3 rfl ?_
  have hPc : frP D (([] : List va_W) ++ ([[(q1, .inr (5, [.null, .null, .null, .null, .null]))]] : List va_W)) _ := hP
  have hDc : va_D (fun q : Nat => s.heap.size ≤ q) (([] : List va_W) ++ ([[(q1, .inr (5, [.null, .null, .null, .null, .null]))]] : List va_W)).flatten := hD
  refine fr_I (As := []) (rest := [.ref q1]) ⟨hx, hb, hml, hown, hts⟩ (kX5_init l D T Z q1) (cwI 0 hts gL_law_X5_init rfl rfl rfl (hts0 (.initialized RX5) (by decide +kernel)) (hts0 (.methodLink RL 9 yX5_init) (by decide +kernel)) (hts0 (.instanceMethod yX5_init) (by decide +kernel)) rfl (by decide +kernel) ⟨Nat.le_of_ble_eq_true rfl, Nat.le_of_ble_eq_true rfl⟩) hQ hK hN hM hPc hDc hS hA rfl hl.1 rfl (Nat.le_of_ble_eq_true rfl) dL_law_4 ⟨Nat.le_of_ble_eq_true rfl, Nat.le_of_ble_eq_true rfl⟩ (fun AD H locs hpo hP9 hD9 hS9 => ?_)
  obtain rfl : q1 = AD 8 0 := hpo.symm
  have hP : frP D ([[(((AD 8) 0), .inr (5, [.ref ((AD 0) 0), .ref ((AD 1) 0), .ref ((AD 8) 1), .ref ((AD 9) 0), .ref ((AD 7) 0)]))], stW T (AD 0) N0, stW T (AD 1) N0, [(((AD 8) 1), .inr (2, [.ref ((AD 8) 2), .int (nI 0), .int (nI 0)]))], [(((AD 8) 2), .inl (T 3, 5, .inr (.inr (.inr (.inr (hco (AD 2 0) (AD 3 0) (AD 4 0) (AD 5 0) (AD 6 0)))))))], stW T (AD 2) ((fun _ => N0) 0), stW T (AD 3) ((fun _ => N0) 1), stW T (AD 4) ((fun _ => N0) 2), stW T (AD 5) ((fun _ => N0) 3), stW T (AD 6) ((fun _ => N0) 4), [(((AD 9) 0), .inr (4, [.ref ((AD 9) 1), .int (nI 0), .int (nI (q0T.1)), .int (nI 0), .ref ((AD 9) 2), .int (nI (q0T.2.2))]))], [(((AD 9) 1), .inl (T 2, 90, .inl (nf (fun _ => 0))))], [(((AD 9) 2), .inl (T 0, 5, .inl (nf q0T.2.1)))]] ++ blF T (AD 7) B0 : List va_W) _ := hP9
  have hD : va_D (fun q : Nat => s.heap.size ≤ q) ([[(((AD 8) 0), .inr (5, [.ref ((AD 0) 0), .ref ((AD 1) 0), .ref ((AD 8) 1), .ref ((AD 9) 0), .ref ((AD 7) 0)]))], stW T (AD 0) N0, stW T (AD 1) N0, [(((AD 8) 1), .inr (2, [.ref ((AD 8) 2), .int (nI 0), .int (nI 0)]))], [(((AD 8) 2), .inl (T 3, 5, .inr (.inr (.inr (.inr (hco (AD 2 0) (AD 3 0) (AD 4 0) (AD 5 0) (AD 6 0)))))))], stW T (AD 2) ((fun _ => N0) 0), stW T (AD 3) ((fun _ => N0) 1), stW T (AD 4) ((fun _ => N0) 2), stW T (AD 5) ((fun _ => N0) 3), stW T (AD 6) ((fun _ => N0) 4), [(((AD 9) 0), .inr (4, [.ref ((AD 9) 1), .int (nI 0), .int (nI (q0T.1)), .int (nI 0), .ref ((AD 9) 2), .int (nI (q0T.2.2))]))], [(((AD 9) 1), .inl (T 2, 90, .inl (nf (fun _ => 0))))], [(((AD 9) 2), .inl (T 0, 5, .inl (nf q0T.2.1)))]] ++ blF T (AD 7) B0 : List va_W).flatten := hD9
  have hS := hS9
  refine lv_astore_n (lv' := [(1, .ref (AD 8 0)), (0, .ref b)]) hx hb dL_law_7 rfl hl (by decide) rfl (fun ls hl => ?_)
  refine fr_newo (T := T) (ci := 6) (C := RX6) (TT := TX6) (N := 8) (vs := [.null, .int (nI 0), .null, .int (nI 0), .int (nI 0), .int (nI 0), .null, .null]) hx hb hts inlX6 tyX6 tyX6_ok hown (hts0 (.classLink RL 10 RX6) (by decide +kernel)) (hts0 (.instantiable RX6 8) (by decide +kernel)) (hts0 (.initialized RX6) (by decide +kernel)) hK hP hD hS hA rfl (fun j hj => by rcases (show j = 0 ∨ j = 1 ∨ j = 2 ∨ j = 3 ∨ j = 4 ∨ j = 5 ∨ j = 6 ∨ j = 7 by omega) with rfl | rfl | rfl | rfl | rfl | rfl | rfl | rfl <;> rfl) (Nat.le_of_ble_eq_true rfl) (Nat.le_of_ble_eq_true rfl) dL_law_8 (fun q2 H hP hD hS => ?_)
  refine lv_dup hx hb dL_law_11 rfl ?_
  have hPc : frP D ((([[(((AD 8) 0), .inr (5, [.ref ((AD 0) 0), .ref ((AD 1) 0), .ref ((AD 8) 1), .ref ((AD 9) 0), .ref ((AD 7) 0)]))], stW T (AD 0) N0, stW T (AD 1) N0, [(((AD 8) 1), .inr (2, [.ref ((AD 8) 2), .int (nI 0), .int (nI 0)]))], [(((AD 8) 2), .inl (T 3, 5, .inr (.inr (.inr (.inr (hco (AD 2 0) (AD 3 0) (AD 4 0) (AD 5 0) (AD 6 0)))))))], stW T (AD 2) ((fun _ => N0) 0), stW T (AD 3) ((fun _ => N0) 1), stW T (AD 4) ((fun _ => N0) 2), stW T (AD 5) ((fun _ => N0) 3), stW T (AD 6) ((fun _ => N0) 4), [(((AD 9) 0), .inr (4, [.ref ((AD 9) 1), .int (nI 0), .int (nI (q0T.1)), .int (nI 0), .ref ((AD 9) 2), .int (nI (q0T.2.2))]))], [(((AD 9) 1), .inl (T 2, 90, .inl (nf (fun _ => 0))))], [(((AD 9) 2), .inl (T 0, 5, .inl (nf q0T.2.1)))]] ++ blF T (AD 7) B0 : List va_W) : List va_W) ++ ([[(q2, .inr (6, [.null, .int (nI 0), .null, .int (nI 0), .int (nI 0), .int (nI 0), .null, .null]))]] : List va_W)) _ := hP
  have hDc : va_D (fun q : Nat => s.heap.size ≤ q) ((([[(((AD 8) 0), .inr (5, [.ref ((AD 0) 0), .ref ((AD 1) 0), .ref ((AD 8) 1), .ref ((AD 9) 0), .ref ((AD 7) 0)]))], stW T (AD 0) N0, stW T (AD 1) N0, [(((AD 8) 1), .inr (2, [.ref ((AD 8) 2), .int (nI 0), .int (nI 0)]))], [(((AD 8) 2), .inl (T 3, 5, .inr (.inr (.inr (.inr (hco (AD 2 0) (AD 3 0) (AD 4 0) (AD 5 0) (AD 6 0)))))))], stW T (AD 2) ((fun _ => N0) 0), stW T (AD 3) ((fun _ => N0) 1), stW T (AD 4) ((fun _ => N0) 2), stW T (AD 5) ((fun _ => N0) 3), stW T (AD 6) ((fun _ => N0) 4), [(((AD 9) 0), .inr (4, [.ref ((AD 9) 1), .int (nI 0), .int (nI (q0T.1)), .int (nI 0), .ref ((AD 9) 2), .int (nI (q0T.2.2))]))], [(((AD 9) 1), .inl (T 2, 90, .inl (nf (fun _ => 0))))], [(((AD 9) 2), .inl (T 0, 5, .inl (nf q0T.2.1)))]] ++ blF T (AD 7) B0 : List va_W) : List va_W) ++ ([[(q2, .inr (6, [.null, .int (nI 0), .null, .int (nI 0), .int (nI 0), .int (nI 0), .null, .null]))]] : List va_W)).flatten := hD
  refine fr_I (As := []) (rest := [.ref q2]) ⟨hx, hb, hml, hown, hts⟩ (kX6_init l D T Z q2) (cwI 0 hts gL_law_X6_init rfl rfl rfl (hts0 (.initialized RX6) (by decide +kernel)) (hts0 (.methodLink RL 12 yX6_init) (by decide +kernel)) (hts0 (.instanceMethod yX6_init) (by decide +kernel)) rfl (by decide +kernel) ⟨Nat.le_of_ble_eq_true rfl, Nat.le_of_ble_eq_true rfl⟩) hQ hK hN hM hPc hDc hS hA rfl hl.1 rfl (Nat.le_of_ble_eq_true rfl) dL_law_12 ⟨Nat.le_of_ble_eq_true rfl, Nat.le_of_ble_eq_true rfl⟩ (fun md H locs hpo hP9 hD9 hS9 => ?_)
  obtain rfl : q2 = md 0 := hpo.symm
  have hP := fr_bl (gs := refF T md (m0N 80)) hP9
  have hD := fd_bl (gs := refF T md (m0N 80)) hD9
  have hS := hS9
  have hP : frP D [[(((AD 8) 0), .inr (5, [.ref ((AD 0) 0), .ref ((AD 1) 0), .ref ((AD 8) 1), .ref ((AD 9) 0), .ref ((AD 7) 0)]))], stW T (AD 0) N0, stW T (AD 1) N0, [(((AD 8) 1), .inr (2, [.ref ((AD 8) 2), .int (nI 0), .int (nI 0)]))], [(((AD 8) 2), .inl (T 3, 5, .inr (.inr (.inr (.inr (hco (AD 2 0) (AD 3 0) (AD 4 0) (AD 5 0) (AD 6 0)))))))], stW T (AD 2) ((fun _ => N0) 0), stW T (AD 3) ((fun _ => N0) 1), stW T (AD 4) ((fun _ => N0) 2), stW T (AD 5) ((fun _ => N0) 3), stW T (AD 6) ((fun _ => N0) 4), [(((AD 9) 0), .inr (4, [.ref ((AD 9) 1), .int (nI 0), .int (nI (q0T.1)), .int (nI 0), .ref ((AD 9) 2), .int (nI (q0T.2.2))]))], [(((AD 9) 1), .inl (T 2, 90, .inl (nf (fun _ => 0))))], [(((AD 9) 2), .inl (T 0, 5, .inl (nf q0T.2.1)))], blW T (AD 7) B0, [((md 0), .inr (6, [.ref (md 1), .int (nI 0), .ref (md 2), .int (nI 0), .int (nI 0), .int (nI 0), .ref (md 3), .ref (md 4)]))], [((md 1), .inl (T 0, 1872, .inl (m0N 80)))], [((md 2), .inl (T 0, 90, .inl (nf (fun _ => 0))))], [((md 3), .inl (T 0, 5, .inl (nf (fun _ => 0))))], [((md 4), .inl (T 0, 48, .inl ((fun _ => nI 0))))]] _ := hP
  have hP := hP.rowq (i := 4) (f := hco (AD 2 0) (AD 3 0) (AD 4 0) (AD 5 0) (AD 6 0)) (g := plA AD) (fs' := [[(((AD 8) 0), .inr (5, [.ref ((AD 0) 0), .ref ((AD 1) 0), .ref ((AD 8) 1), .ref ((AD 9) 0), .ref ((AD 7) 0)]))], stW T (AD 0) N0, stW T (AD 1) N0, [(((AD 8) 1), .inr (2, [.ref ((AD 8) 2), .int (nI 0), .int (nI 0)]))], [(((AD 8) 2), .inl (T 3, 5, .inr (.inr (.inr (.inr (plA AD))))))], stW T (AD 2) ((fun _ => N0) 0), stW T (AD 3) ((fun _ => N0) 1), stW T (AD 4) ((fun _ => N0) 2), stW T (AD 5) ((fun _ => N0) 3), stW T (AD 6) ((fun _ => N0) 4), [(((AD 9) 0), .inr (4, [.ref ((AD 9) 1), .int (nI 0), .int (nI (q0T.1)), .int (nI 0), .ref ((AD 9) 2), .int (nI (q0T.2.2))]))], [(((AD 9) 1), .inl (T 2, 90, .inl (nf (fun _ => 0))))], [(((AD 9) 2), .inl (T 0, 5, .inl (nf q0T.2.1)))], blW T (AD 7) B0, [((md 0), .inr (6, [.ref (md 1), .int (nI 0), .ref (md 2), .int (nI 0), .int (nI 0), .int (nI 0), .ref (md 3), .ref (md 4)]))], [((md 1), .inl (T 0, 1872, .inl (m0N 80)))], [((md 2), .inl (T 0, 90, .inl (nf (fun _ => 0))))], [((md 3), .inl (T 0, 5, .inl (nf (fun _ => 0))))], [((md 4), .inl (T 0, 48, .inl ((fun _ => nI 0))))]]) rfl (fun j hj => by rcases (show j = 0 ∨ j = 1 ∨ j = 2 ∨ j = 3 ∨ j = 4 by omega) with rfl | rfl | rfl | rfl | rfl <;> rfl) rfl
  have hD : va_D (fun q : Nat => s.heap.size ≤ q) ([[(((AD 8) 0), .inr (5, [.ref ((AD 0) 0), .ref ((AD 1) 0), .ref ((AD 8) 1), .ref ((AD 9) 0), .ref ((AD 7) 0)]))], stW T (AD 0) N0, stW T (AD 1) N0, [(((AD 8) 1), .inr (2, [.ref ((AD 8) 2), .int (nI 0), .int (nI 0)]))], [(((AD 8) 2), .inl (T 3, 5, .inr (.inr (.inr (.inr (plA AD))))))], stW T (AD 2) ((fun _ => N0) 0), stW T (AD 3) ((fun _ => N0) 1), stW T (AD 4) ((fun _ => N0) 2), stW T (AD 5) ((fun _ => N0) 3), stW T (AD 6) ((fun _ => N0) 4), [(((AD 9) 0), .inr (4, [.ref ((AD 9) 1), .int (nI 0), .int (nI (q0T.1)), .int (nI 0), .ref ((AD 9) 2), .int (nI (q0T.2.2))]))], [(((AD 9) 1), .inl (T 2, 90, .inl (nf (fun _ => 0))))], [(((AD 9) 2), .inl (T 0, 5, .inl (nf q0T.2.1)))], blW T (AD 7) B0, [((md 0), .inr (6, [.ref (md 1), .int (nI 0), .ref (md 2), .int (nI 0), .int (nI 0), .int (nI 0), .ref (md 3), .ref (md 4)]))], [((md 1), .inl (T 0, 1872, .inl (m0N 80)))], [((md 2), .inl (T 0, 90, .inl (nf (fun _ => 0))))], [((md 3), .inl (T 0, 5, .inl (nf (fun _ => 0))))], [((md 4), .inl (T 0, 48, .inl ((fun _ => nI 0))))]] : List va_W).flatten := frD_adr (fs := [[(((AD 8) 0), .inr (5, [.ref ((AD 0) 0), .ref ((AD 1) 0), .ref ((AD 8) 1), .ref ((AD 9) 0), .ref ((AD 7) 0)]))], stW T (AD 0) N0, stW T (AD 1) N0, [(((AD 8) 1), .inr (2, [.ref ((AD 8) 2), .int (nI 0), .int (nI 0)]))], [(((AD 8) 2), .inl (T 3, 5, .inr (.inr (.inr (.inr (hco (AD 2 0) (AD 3 0) (AD 4 0) (AD 5 0) (AD 6 0)))))))], stW T (AD 2) ((fun _ => N0) 0), stW T (AD 3) ((fun _ => N0) 1), stW T (AD 4) ((fun _ => N0) 2), stW T (AD 5) ((fun _ => N0) 3), stW T (AD 6) ((fun _ => N0) 4), [(((AD 9) 0), .inr (4, [.ref ((AD 9) 1), .int (nI 0), .int (nI (q0T.1)), .int (nI 0), .ref ((AD 9) 2), .int (nI (q0T.2.2))]))], [(((AD 9) 1), .inl (T 2, 90, .inl (nf (fun _ => 0))))], [(((AD 9) 2), .inl (T 0, 5, .inl (nf q0T.2.1)))], blW T (AD 7) B0, [((md 0), .inr (6, [.ref (md 1), .int (nI 0), .ref (md 2), .int (nI 0), .int (nI 0), .int (nI 0), .ref (md 3), .ref (md 4)]))], [((md 1), .inl (T 0, 1872, .inl (m0N 80)))], [((md 2), .inl (T 0, 90, .inl (nf (fun _ => 0))))], [((md 3), .inl (T 0, 5, .inl (nf (fun _ => 0))))], [((md 4), .inl (T 0, 48, .inl ((fun _ => nI 0))))]]) rfl hD
  refine W.widen (k := 148) (n := 4498) (by decide) (by decide) ?_
  refine lv_astore_n (lv' := [(2, .ref (md 0)), (1, .ref (AD 8 0)), (0, .ref b)]) hx hb dL_law_15 rfl hl (by decide) rfl (fun ls hl => ?_)
  refine lv_iconst (v := nI 0) hx hb dL_law_16 (by decide) ?_
  refine lv_istore_n (lv' := [(3, .int (nI 0)), (2, .ref (md 0)), (1, .ref (AD 8 0)), (0, .ref b)]) hx hb dL_law_17 rfl hl (by decide) rfl (fun ls hl => ?_)
  exact law_loop l p e s m below meth c b L xs D T Z AD md ⟨hx, hb, hml, hown, hts, hK, hN, hM, hX, hbl, hL⟩ hr hlk (L + 2) 0 (by omega) (by omega) N0 0 0 (fun _ => N0) N0 B0 (fun _ => 0) 0 0 q0T 0 0 (m0N 80) (fun _ => 0) (fun _ => nI 0) 0 (fun _ => 0) 0 LI_0 rfl rfl rfl _ _ hP hD hS ls (lv_sub hl [3, 2, 1, 0] rfl)
