theorem kX5_value_o (l : Launch) (D : va_G) (T : Nat → ClassId) (Z : ZZ) (AD : Nat → Nat → Nat) (ν : NS) (w : Int32)  : CtI l D T Z yX5_value wsX5_value ({ frames := 1, cells := 0, slots := 0, locals := 20 }) [stW T (AD 0) ν, maF AD] [.ref ((AD 8) 0), .int (w)] (if iN w 32 then ν 0 (tn w) else -1) [stW T (AD 0) ν, maF AD] := (kX5_value l D T Z AD ν w ).re stW_m stW_m rfl
theorem kX5_value_n (l : Launch) (D : va_G) (T : Nat → ClassId) (Z : ZZ) (AD : Nat → Nat → Nat) (ν : NS) (w : Nat) (hw : w < 32) : CtI l D T Z yX5_value wsX5_value ({ frames := 1, cells := 0, slots := 0, locals := 20 }) [stW T (AD 0) ν, maF AD] [.ref ((AD 8) 0), .int (nI (w))] (ν 0 w) [stW T (AD 0) ν, maF AD] := by
  have h := kX5_value_o l D T Z AD ν (nI w) 
  rw [iN_n hw (by decide), if_pos rfl, tn_nI (j := w) (by omega)] at h
  exact h
theorem kX5_origin_o (l : Launch) (D : va_G) (T : Nat → ClassId) (Z : ZZ) (AD : Nat → Nat → Nat) (ν : NS) (w : Int32)  : CtI l D T Z yX5_origin wsX5_origin ({ frames := 1, cells := 0, slots := 0, locals := 20 }) [stW T (AD 0) ν, maF AD] [.ref ((AD 8) 0), .int (w)] (if iN w 32 then ν 1 (tn w) else -1) [stW T (AD 0) ν, maF AD] := (kX5_origin l D T Z AD ν w ).re stW_m stW_m rfl
theorem kX5_origin_n (l : Launch) (D : va_G) (T : Nat → ClassId) (Z : ZZ) (AD : Nat → Nat → Nat) (ν : NS) (w : Nat) (hw : w < 32) : CtI l D T Z yX5_origin wsX5_origin ({ frames := 1, cells := 0, slots := 0, locals := 20 }) [stW T (AD 0) ν, maF AD] [.ref ((AD 8) 0), .int (nI (w))] (ν 1 w) [stW T (AD 0) ν, maF AD] := by
  have h := kX5_origin_o l D T Z AD ν (nI w) 
  rw [iN_n hw (by decide), if_pos rfl, tn_nI (j := w) (by omega)] at h
  exact h
theorem kX5_hops_o (l : Launch) (D : va_G) (T : Nat → ClassId) (Z : ZZ) (AD : Nat → Nat → Nat) (ν : NS) (w : Int32)  : CtI l D T Z yX5_hops wsX5_hops ({ frames := 1, cells := 0, slots := 0, locals := 20 }) [stW T (AD 0) ν, maF AD] [.ref ((AD 8) 0), .int (w)] (if iN w 32 then ν 2 (tn w) else -1) [stW T (AD 0) ν, maF AD] := (kX5_hops l D T Z AD ν w ).re stW_m stW_m rfl
theorem kX5_hops_n (l : Launch) (D : va_G) (T : Nat → ClassId) (Z : ZZ) (AD : Nat → Nat → Nat) (ν : NS) (w : Nat) (hw : w < 32) : CtI l D T Z yX5_hops wsX5_hops ({ frames := 1, cells := 0, slots := 0, locals := 20 }) [stW T (AD 0) ν, maF AD] [.ref ((AD 8) 0), .int (nI (w))] (ν 2 w) [stW T (AD 0) ν, maF AD] := by
  have h := kX5_hops_o l D T Z AD ν (nI w) 
  rw [iN_n hw (by decide), if_pos rfl, tn_nI (j := w) (by omega)] at h
  exact h
theorem kX5_mirrorValue_o (l : Launch) (D : va_G) (T : Nat → ClassId) (Z : ZZ) (AD : Nat → Nat → Nat) (ν : NS) (w : Int32)  : CtI l D T Z yX5_mirrorValue wsX5_mirrorValue ({ frames := 1, cells := 0, slots := 0, locals := 21 }) [stW T (AD 0) ν, maF AD] [.ref ((AD 8) 0), .int (w)] (if iN w 32 then (if bz (ν 9 (tn w / 4)) then ν 3 (tn w) else -6) else -1) [stW T (AD 0) ν, maF AD] := (kX5_mirrorValue l D T Z AD ν w ).re stW_m stW_m rfl
theorem kX5_mirrorValue_n (l : Launch) (D : va_G) (T : Nat → ClassId) (Z : ZZ) (AD : Nat → Nat → Nat) (ν : NS) (w : Nat) (hw : w < 32) : CtI l D T Z yX5_mirrorValue wsX5_mirrorValue ({ frames := 1, cells := 0, slots := 0, locals := 21 }) [stW T (AD 0) ν, maF AD] [.ref ((AD 8) 0), .int (nI (w))] (mvF ν w) [stW T (AD 0) ν, maF AD] := by
  have h := kX5_mirrorValue_o l D T Z AD ν (nI w) 
  rw [iN_n hw (by decide), if_pos rfl, tn_nI (j := w) (by omega)] at h
  exact h
theorem kX5_mirrorOrigin_o (l : Launch) (D : va_G) (T : Nat → ClassId) (Z : ZZ) (AD : Nat → Nat → Nat) (ν : NS) (w : Int32)  : CtI l D T Z yX5_mirrorOrigin wsX5_mirrorOrigin ({ frames := 1, cells := 0, slots := 0, locals := 21 }) [stW T (AD 0) ν, maF AD] [.ref ((AD 8) 0), .int (w)] (if iN w 32 then (if bz (ν 9 (tn w / 4)) then ν 4 (tn w) else -6) else -1) [stW T (AD 0) ν, maF AD] := (kX5_mirrorOrigin l D T Z AD ν w ).re stW_m stW_m rfl
theorem kX5_mirrorOrigin_n (l : Launch) (D : va_G) (T : Nat → ClassId) (Z : ZZ) (AD : Nat → Nat → Nat) (ν : NS) (w : Nat) (hw : w < 32) : CtI l D T Z yX5_mirrorOrigin wsX5_mirrorOrigin ({ frames := 1, cells := 0, slots := 0, locals := 21 }) [stW T (AD 0) ν, maF AD] [.ref ((AD 8) 0), .int (nI (w))] (moF ν w) [stW T (AD 0) ν, maF AD] := by
  have h := kX5_mirrorOrigin_o l D T Z AD ν (nI w) 
  rw [iN_n hw (by decide), if_pos rfl, tn_nI (j := w) (by omega)] at h
  exact h
theorem kX5_register_o (l : Launch) (D : va_G) (T : Nat → ClassId) (Z : ZZ) (AD : Nat → Nat → Nat) (ν : NS) (t : Int32) (r : Int32)  : CtI l D T Z yX5_register wsX5_register ({ frames := 1, cells := 0, slots := 0, locals := 21 }) [stW T (AD 0) ν, maF AD] [.ref ((AD 8) 0), .int (t), .int (r)] (if iN t 4 && iN r 4 then ν 6 (tn t * 4 + tn r) else -1) [stW T (AD 0) ν, maF AD] := (kX5_register l D T Z AD ν t r ).re stW_m stW_m rfl
theorem kX5_register_n (l : Launch) (D : va_G) (T : Nat → ClassId) (Z : ZZ) (AD : Nat → Nat → Nat) (ν : NS) (t : Nat) (r : Nat) (ht : t < 4) (hr : r < 4) : CtI l D T Z yX5_register wsX5_register ({ frames := 1, cells := 0, slots := 0, locals := 21 }) [stW T (AD 0) ν, maF AD] [.ref ((AD 8) 0), .int (nI (t)), .int (nI (r))] (ν 6 (t * 4 + r)) [stW T (AD 0) ν, maF AD] := by
  have h := kX5_register_o l D T Z AD ν (nI t) (nI r) 
  rw [iN_n ht (by decide), iN_n hr (by decide), Bool.and_true, if_pos rfl, tn_nI (j := t) (by omega), tn_nI (j := r) (by omega)] at h
  exact h
theorem kX5_registerOrigin_o (l : Launch) (D : va_G) (T : Nat → ClassId) (Z : ZZ) (AD : Nat → Nat → Nat) (ν : NS) (t : Int32) (r : Int32)  : CtI l D T Z yX5_registerOrigin wsX5_registerOrigin ({ frames := 1, cells := 0, slots := 0, locals := 21 }) [stW T (AD 0) ν, maF AD] [.ref ((AD 8) 0), .int (t), .int (r)] (if iN t 4 && iN r 4 then ν 7 (tn t * 4 + tn r) else -1) [stW T (AD 0) ν, maF AD] := (kX5_registerOrigin l D T Z AD ν t r ).re stW_m stW_m rfl
theorem kX5_registerOrigin_n (l : Launch) (D : va_G) (T : Nat → ClassId) (Z : ZZ) (AD : Nat → Nat → Nat) (ν : NS) (t : Nat) (r : Nat) (ht : t < 4) (hr : r < 4) : CtI l D T Z yX5_registerOrigin wsX5_registerOrigin ({ frames := 1, cells := 0, slots := 0, locals := 21 }) [stW T (AD 0) ν, maF AD] [.ref ((AD 8) 0), .int (nI (t)), .int (nI (r))] (ν 7 (t * 4 + r)) [stW T (AD 0) ν, maF AD] := by
  have h := kX5_registerOrigin_o l D T Z AD ν (nI t) (nI r) 
  rw [iN_n ht (by decide), iN_n hr (by decide), Bool.and_true, if_pos rfl, tn_nI (j := t) (by omega), tn_nI (j := r) (by omega)] at h
  exact h
theorem kX5_registerHops_o (l : Launch) (D : va_G) (T : Nat → ClassId) (Z : ZZ) (AD : Nat → Nat → Nat) (ν : NS) (t : Int32) (r : Int32)  : CtI l D T Z yX5_registerHops wsX5_registerHops ({ frames := 1, cells := 0, slots := 0, locals := 21 }) [stW T (AD 0) ν, maF AD] [.ref ((AD 8) 0), .int (t), .int (r)] (if iN t 4 && iN r 4 then ν 8 (tn t * 4 + tn r) else -1) [stW T (AD 0) ν, maF AD] := (kX5_registerHops l D T Z AD ν t r ).re stW_m stW_m rfl
theorem kX5_registerHops_n (l : Launch) (D : va_G) (T : Nat → ClassId) (Z : ZZ) (AD : Nat → Nat → Nat) (ν : NS) (t : Nat) (r : Nat) (ht : t < 4) (hr : r < 4) : CtI l D T Z yX5_registerHops wsX5_registerHops ({ frames := 1, cells := 0, slots := 0, locals := 21 }) [stW T (AD 0) ν, maF AD] [.ref ((AD 8) 0), .int (nI (t)), .int (nI (r))] (ν 8 (t * 4 + r)) [stW T (AD 0) ν, maF AD] := by
  have h := kX5_registerHops_o l D T Z AD ν (nI t) (nI r) 
  rw [iN_n ht (by decide), iN_n hr (by decide), Bool.and_true, if_pos rfl, tn_nI (j := t) (by omega), tn_nI (j := r) (by omega)] at h
  exact h
theorem kX5_mode_o (l : Launch) (D : va_G) (T : Nat → ClassId) (Z : ZZ) (AD : Nat → Nat → Nat) (ν : NS) (t : Int32)  : CtI l D T Z yX5_mode wsX5_mode ({ frames := 1, cells := 0, slots := 0, locals := 20 }) [stW T (AD 0) ν, maF AD] [.ref ((AD 8) 0), .int (t)] (if iN t 4 then ν 10 (tn t) else -1) [stW T (AD 0) ν, maF AD] := (kX5_mode l D T Z AD ν t ).re stW_m stW_m rfl
theorem kX5_mode_n (l : Launch) (D : va_G) (T : Nat → ClassId) (Z : ZZ) (AD : Nat → Nat → Nat) (ν : NS) (t : Nat) (ht : t < 4) : CtI l D T Z yX5_mode wsX5_mode ({ frames := 1, cells := 0, slots := 0, locals := 20 }) [stW T (AD 0) ν, maF AD] [.ref ((AD 8) 0), .int (nI (t))] (ν 10 t) [stW T (AD 0) ν, maF AD] := by
  have h := kX5_mode_o l D T Z AD ν (nI t) 
  rw [iN_n ht (by decide), if_pos rfl, tn_nI (j := t) (by omega)] at h
  exact h
theorem kX5_stopped_o (l : Launch) (D : va_G) (T : Nat → ClassId) (Z : ZZ) (AD : Nat → Nat → Nat) (ν : NS) (t : Int32)  : CtI l D T Z yX5_stopped wsX5_stopped ({ frames := 1, cells := 0, slots := 0, locals := 20 }) [stW T (AD 0) ν, maF AD] [.ref ((AD 8) 0), .int (t)] (if iN t 4 then bI (bz (ν 11 (tn t))) else -1) [stW T (AD 0) ν, maF AD] := (kX5_stopped l D T Z AD ν t ).re stW_m stW_m rfl
theorem kX5_stopped_n (l : Launch) (D : va_G) (T : Nat → ClassId) (Z : ZZ) (AD : Nat → Nat → Nat) (ν : NS) (t : Nat) (ht : t < 4) : CtI l D T Z yX5_stopped wsX5_stopped ({ frames := 1, cells := 0, slots := 0, locals := 20 }) [stW T (AD 0) ν, maF AD] [.ref ((AD 8) 0), .int (nI (t))] (bI (bz (ν 11 t))) [stW T (AD 0) ν, maF AD] := by
  have h := kX5_stopped_o l D T Z AD ν (nI t) 
  rw [iN_n ht (by decide), if_pos rfl, tn_nI (j := t) (by omega)] at h
  exact h
theorem kX5_injections_o (l : Launch) (D : va_G) (T : Nat → ClassId) (Z : ZZ) (AD : Nat → Nat → Nat) (ν : NS)  : CtI l D T Z yX5_injections wsX5_injections ({ frames := 0, cells := 0, slots := 0, locals := 0 }) [stW T (AD 0) ν, maF AD] [.ref ((AD 8) 0)] (ν 15 0) [stW T (AD 0) ν, maF AD] := (kX5_injections l D T Z AD ν ).re stW_m stW_m rfl
theorem kX5_injections_n (l : Launch) (D : va_G) (T : Nat → ClassId) (Z : ZZ) (AD : Nat → Nat → Nat) (ν : NS)  : CtI l D T Z yX5_injections wsX5_injections ({ frames := 0, cells := 0, slots := 0, locals := 0 }) [stW T (AD 0) ν, maF AD] [.ref ((AD 8) 0)] (ν 15 0) [stW T (AD 0) ν, maF AD] := by
  have h := kX5_injections_o l D T Z AD ν 
  exact h
theorem kX5_faults_o (l : Launch) (D : va_G) (T : Nat → ClassId) (Z : ZZ) (AD : Nat → Nat → Nat) (ν : NS)  : CtI l D T Z yX5_faults wsX5_faults ({ frames := 0, cells := 0, slots := 0, locals := 0 }) [stW T (AD 0) ν, maF AD] [.ref ((AD 8) 0)] (ν 14 1) [stW T (AD 0) ν, maF AD] := (kX5_faults l D T Z AD ν ).re stW_m stW_m rfl
theorem kX5_faults_n (l : Launch) (D : va_G) (T : Nat → ClassId) (Z : ZZ) (AD : Nat → Nat → Nat) (ν : NS)  : CtI l D T Z yX5_faults wsX5_faults ({ frames := 0, cells := 0, slots := 0, locals := 0 }) [stW T (AD 0) ν, maF AD] [.ref ((AD 8) 0)] (ν 14 1) [stW T (AD 0) ν, maF AD] := by
  have h := kX5_faults_o l D T Z AD ν 
  exact h
theorem kX5_healed_o (l : Launch) (D : va_G) (T : Nat → ClassId) (Z : ZZ) (AD : Nat → Nat → Nat) (ν : NS)  : CtI l D T Z yX5_healed wsX5_healed ({ frames := 0, cells := 0, slots := 0, locals := 0 }) [stW T (AD 0) ν, maF AD] [.ref ((AD 8) 0)] (ν 15 1) [stW T (AD 0) ν, maF AD] := (kX5_healed l D T Z AD ν ).re stW_m stW_m rfl
theorem kX5_healed_n (l : Launch) (D : va_G) (T : Nat → ClassId) (Z : ZZ) (AD : Nat → Nat → Nat) (ν : NS)  : CtI l D T Z yX5_healed wsX5_healed ({ frames := 0, cells := 0, slots := 0, locals := 0 }) [stW T (AD 0) ν, maF AD] [.ref ((AD 8) 0)] (ν 15 1) [stW T (AD 0) ν, maF AD] := by
  have h := kX5_healed_o l D T Z AD ν 
  exact h
theorem kX5_log_o (l : Launch) (D : va_G) (T : Nat → ClassId) (Z : ZZ) (AD : Nat → Nat → Nat) (ν : NS) (x : Int32) (y : Int32) (hh : WH (ν 14 0) 8) : CtI l D T Z yX5_log wsX5_log ({ frames := 0, cells := 0, slots := 0, locals := 0 }) [stW T (AD 0) ν, maF AD] [.ref ((AD 8) 0), .int (x), .int (y)] (if x < 0 then -2 else if iN y 4 then (if iN x (tn (ν 14 0)) then ν 13 (tn x * 4 + tn y) else -6) else -2) [stW T (AD 0) ν, maF AD] := (kX5_log l D T Z AD ν x y hh).re stW_m stW_m rfl
theorem kX5_log_n (l : Launch) (D : va_G) (T : Nat → ClassId) (Z : ZZ) (AD : Nat → Nat → Nat) (ν : NS) (a : Nat) (y : Nat) (hh : WH (ν 14 0) 8) (ha : a < 2 ^ 31) (hy : y < 4) : CtI l D T Z yX5_log wsX5_log ({ frames := 0, cells := 0, slots := 0, locals := 0 }) [stW T (AD 0) ν, maF AD] [.ref ((AD 8) 0), .int (nI (a)), .int (nI (y))] (loF ν a y) [stW T (AD 0) ν, maF AD] := by
  have h := kX5_log_o l D T Z AD ν (nI a) (nI y) hh
  rw [if_neg (nI_pos ha), iN_n hy (by decide), if_pos rfl, iN_nI ha (by have := hh.2; omega), tn_nI (j := a) ha, tn_nI (j := y) (by omega), show (if decide (a < tn (ν 14 0)) = true then ν 13 (a * 4 + y) else -6) = loF ν a y from by unfold loF; by_cases c : a < tn (ν 14 0) <;> simp [c]] at h
  exact h
theorem kX5_poisoned_o (l : Launch) (D : va_G) (T : Nat → ClassId) (Z : ZZ) (AD : Nat → Nat → Nat) (ν : NS) (x : Int32)  : CtI l D T Z yX5_poisoned wsX5_poisoned ({ frames := 2, cells := 0, slots := 0, locals := 45 }) [stW T (AD 0) ν, maF AD] [.ref ((AD 8) 0), .int (x)] (if iN x 8 then nI (cntP (ν 1) (tn x * 4) ((tn x + 1) * 4 - tn x * 4)) else -1) [stW T (AD 0) ν, maF AD] := (kX5_poisoned l D T Z AD ν x ).re stW_m stW_m rfl
theorem kX5_poisoned_n (l : Launch) (D : va_G) (T : Nat → ClassId) (Z : ZZ) (AD : Nat → Nat → Nat) (ν : NS) (x : Nat) (hx : x < 8) : CtI l D T Z yX5_poisoned wsX5_poisoned ({ frames := 2, cells := 0, slots := 0, locals := 45 }) [stW T (AD 0) ν, maF AD] [.ref ((AD 8) 0), .int (nI (x))] (nI ((cntP (ν 1) (x * 4) 4))) [stW T (AD 0) ν, maF AD] := by
  have h := kX5_poisoned_o l D T Z AD ν (nI x) 
  rw [iN_n hx (by decide), if_pos rfl, tn_nI (j := x) (by omega), show (x + 1) * 4 - x * 4 = 4 from by omega] at h
  exact h
theorem kX5_carriers_o (l : Launch) (D : va_G) (T : Nat → ClassId) (Z : ZZ) (AD : Nat → Nat → Nat) (ν : NS) (x : Int32) (hi : WH (ν 15 0) 20) : CtI l D T Z yX5_carriers wsX5_carriers ({ frames := 2, cells := 0, slots := 0, locals := 44 }) [stW T (AD 0) ν, maF AD] [.ref ((AD 8) 0), .int (x)] (if iN x (tn (ν 15 0)) then nI (carr ν x) else -1) [stW T (AD 0) ν, maF AD] := (kX5_carriers l D T Z AD ν x hi).re stW_m stW_m rfl
theorem kX5_carriers_n (l : Launch) (D : va_G) (T : Nat → ClassId) (Z : ZZ) (AD : Nat → Nat → Nat) (ν : NS) (x : Nat) (hi : WH (ν 15 0) 20) (hx : x < tn (ν 15 0)) : CtI l D T Z yX5_carriers wsX5_carriers ({ frames := 2, cells := 0, slots := 0, locals := 44 }) [stW T (AD 0) ν, maF AD] [.ref ((AD 8) 0), .int (nI (x))] (nI ((carC ν x))) [stW T (AD 0) ν, maF AD] := by
  have h := kX5_carriers_o l D T Z AD ν (nI x) hi
  have h20 := hi.2
  rw [iN_n hx (by omega), if_pos rfl] at h
  exact h
theorem kX5_farthest_o (l : Launch) (D : va_G) (T : Nat → ClassId) (Z : ZZ) (AD : Nat → Nat → Nat) (ν : NS) (x : Int32) (hi : WH (ν 15 0) 20) : CtI l D T Z yX5_farthest wsX5_farthest ({ frames := 2, cells := 0, slots := 0, locals := 36 }) [stW T (AD 0) ν, maF AD] [.ref ((AD 8) 0), .int (x)] (if iN x (tn (ν 15 0)) then (if mh (ν 1) (ν 2) x 32 < mh (ν 7) (ν 8) x 16 then mh (ν 7) (ν 8) x 16 else mh (ν 1) (ν 2) x 32) else -1) [stW T (AD 0) ν, maF AD] := (kX5_farthest l D T Z AD ν x hi).re stW_m stW_m rfl
theorem kX5_farthest_n (l : Launch) (D : va_G) (T : Nat → ClassId) (Z : ZZ) (AD : Nat → Nat → Nat) (ν : NS) (x : Nat) (hi : WH (ν 15 0) 20) (hx : x < tn (ν 15 0)) : CtI l D T Z yX5_farthest wsX5_farthest ({ frames := 2, cells := 0, slots := 0, locals := 36 }) [stW T (AD 0) ν, maF AD] [.ref ((AD 8) 0), .int (nI (x))] (farC ν (nI x)) [stW T (AD 0) ν, maF AD] := by
  have h := kX5_farthest_o l D T Z AD ν (nI x) hi
  have h20 := hi.2
  rw [iN_n hx (by omega), if_pos rfl] at h
  exact h
theorem kX5_widest_o (l : Launch) (D : va_G) (T : Nat → ClassId) (Z : ZZ) (AD : Nat → Nat → Nat) (ν : NS) (hi : WH (ν 15 0) 20) : CtI l D T Z yX5_widest wsX5_widest ({ frames := 2, cells := 0, slots := 0, locals := 44 }) [stW T (AD 0) ν, maF AD] [.ref ((AD 8) 0)] ((wiM (fun k => nI (carr ν (nI k))) (tn (ν 15 0))).1) [stW T (AD 0) ν, maF AD] := (kX5_widest l D T Z AD ν hi).re stW_m stW_m rfl
theorem kX5_widest_n (l : Launch) (D : va_G) (T : Nat → ClassId) (Z : ZZ) (AD : Nat → Nat → Nat) (ν : NS) (hi : WH (ν 15 0) 20) : CtI l D T Z yX5_widest wsX5_widest ({ frames := 2, cells := 0, slots := 0, locals := 44 }) [stW T (AD 0) ν, maF AD] [.ref ((AD 8) 0)] (widC ν) [stW T (AD 0) ν, maF AD] := by
  have h := kX5_widest_o l D T Z AD ν hi
  exact h
theorem kX5_bestScrub_o (l : Launch) (D : va_G) (T : Nat → ClassId) (Z : ZZ) (AD : Nat → Nat → Nat) (ν : NS)  : CtI l D T Z yX5_bestScrub wsX5_bestScrub ({ frames := 3, cells := 0, slots := 0, locals := 66 }) [stW T (AD 0) ν, maF AD] [.ref ((AD 8) 0)] ((wiM (fun k => nI (cntH ν (k * 4) ((k + 1) * 4 - k * 4))) 8).1) [stW T (AD 0) ν, maF AD] := (kX5_bestScrub l D T Z AD ν ).re stW_m stW_m rfl
theorem kX5_bestScrub_n (l : Launch) (D : va_G) (T : Nat → ClassId) (Z : ZZ) (AD : Nat → Nat → Nat) (ν : NS)  : CtI l D T Z yX5_bestScrub wsX5_bestScrub ({ frames := 3, cells := 0, slots := 0, locals := 66 }) [stW T (AD 0) ν, maF AD] [.ref ((AD 8) 0)] (besC ν) [stW T (AD 0) ν, maF AD] := by
  have h := kX5_bestScrub_o l D T Z AD ν 
  exact h
theorem kX5_atRisk_o (l : Launch) (D : va_G) (T : Nat → ClassId) (Z : ZZ) (AD : Nat → Nat → Nat) (ν : NS)  : CtI l D T Z yX5_atRisk wsX5_atRisk ({ frames := 2, cells := 0, slots := 0, locals := 45 }) [stW T (AD 0) ν, maF AD] [.ref ((AD 8) 0)] (arC ν 4) [stW T (AD 0) ν, maF AD] := (kX5_atRisk l D T Z AD ν ).re stW_m stW_m rfl
theorem kX5_atRisk_n (l : Launch) (D : va_G) (T : Nat → ClassId) (Z : ZZ) (AD : Nat → Nat → Nat) (ν : NS)  : CtI l D T Z yX5_atRisk wsX5_atRisk ({ frames := 2, cells := 0, slots := 0, locals := 45 }) [stW T (AD 0) ν, maF AD] [.ref ((AD 8) 0)] (arC ν 4) [stW T (AD 0) ν, maF AD] := by
  have h := kX5_atRisk_o l D T Z AD ν 
  exact h
theorem kX5_poisonedIfScrubbed_o (l : Launch) (D : va_G) (T : Nat → ClassId) (Z : ZZ) (AD : Nat → Nat → Nat) (ν : NS)  : CtI l D T Z yX5_poisonedIfScrubbed wsX5_poisonedIfScrubbed ({ frames := 3, cells := 0, slots := 0, locals := 66 }) [stW T (AD 0) ν, maF AD] [.ref ((AD 8) 0)] (nI (cntP (ν 1) 0 (32 - 0)) - nI (cntH ν 0 (32 - 0))) [stW T (AD 0) ν, maF AD] := (kX5_poisonedIfScrubbed l D T Z AD ν ).re stW_m stW_m rfl
theorem kX5_poisonedIfScrubbed_n (l : Launch) (D : va_G) (T : Nat → ClassId) (Z : ZZ) (AD : Nat → Nat → Nat) (ν : NS)  : CtI l D T Z yX5_poisonedIfScrubbed wsX5_poisonedIfScrubbed ({ frames := 3, cells := 0, slots := 0, locals := 66 }) [stW T (AD 0) ν, maF AD] [.ref ((AD 8) 0)] (nI (((cntP (ν 1) 0 32) - (cntH ν 0 32)))) [stW T (AD 0) ν, maF AD] := by
  have h := kX5_poisonedIfScrubbed_o l D T Z AD ν 
  rw [pk_sub cntH_le] at h
  exact h
theorem kX5_poisonShare_o (l : Launch) (D : va_G) (T : Nat → ClassId) (Z : ZZ) (AD : Nat → Nat → Nat) (ν : NS)  : CtF l D T Z yX5_poisonShare wsX5_poisonShare ({ frames := 2, cells := 0, slots := 0, locals := 45 }) [stW T (AD 0) ν, maF AD] [.ref ((AD 8) 0)] (shr (cntP (ν 1) 0 (32 - 0))) [stW T (AD 0) ν, maF AD] := (kX5_poisonShare l D T Z AD ν ).re stW_m stW_m rfl
theorem kX5_poisonShare_n (l : Launch) (D : va_G) (T : Nat → ClassId) (Z : ZZ) (AD : Nat → Nat → Nat) (ν : NS)  : CtF l D T Z yX5_poisonShare wsX5_poisonShare ({ frames := 2, cells := 0, slots := 0, locals := 45 }) [stW T (AD 0) ν, maF AD] [.ref ((AD 8) 0)] (shr (cntP (ν 1) 0 32)) [stW T (AD 0) ν, maF AD] := by
  have h := kX5_poisonShare_o l D T Z AD ν 
  exact h
theorem kX5_source_n (l : Launch) (D : va_G) (T : Nat → ClassId) (Z : ZZ) (AD : Nat → Nat → Nat) (ν : NS) (x : Int32) (hi : WH (ν 15 0) 20) : CtI l D T Z yX5_source wsX5_source ({ frames := 1, cells := 0, slots := 0, locals := 21 }) [stW T (AD 0) ν, maF AD] [.ref ((AD 8) 0), .int (x)] (if iN x (tn (ν 15 0)) then ν 12 (tn x) else -1) [stW T (AD 0) ν, maF AD] := (kX5_source l D T Z AD ν x hi).re stW_m stW_m rfl
