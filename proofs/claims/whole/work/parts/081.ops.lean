/-! faults and uses -/
theorem shN_v {σ : MS} {b : Nat} : ∀ (i j : Nat), i ≤ 28 → shN σ b i j = if b + 278 + (32 - i) ≤ j ∧ j < b + 278 + 32 then σ (j - 4) else σ j
  | 0, j, _ => by
    rw [if_neg (by omega)]; rfl
  | i + 1, j, h => by
    show upd (shN σ b i) (b + 278 + (31 - i)) (shN σ b i (b + 278 + (31 - i) - 4)) j = _
    by_cases e : j = b + 278 + (31 - i)
    · rw [e, upd_s, shN_v i _ (by omega), if_neg (by omega), if_pos (by omega)]
    · rw [upd_o e, shN_v i _ (by omega)]
      by_cases c : b + 278 + (32 - i) ≤ j ∧ j < b + 278 + 32
      · rw [if_pos c, if_pos (by omega)]
      · rw [if_neg c, if_neg (by omega)]
section FLT
variable {τ : MS} {ν : NS} {σ : MS} {t r a c : Nat}
/-- the log's row and counters, before a task stops -/
theorem RP_log (H : RP τ ν σ) (ht : t < 4) (hr : r < 4) : RP τ (c_log ν t r (t * 4 + r)) (mF5 σ 1560 t r) := by
  have hor := (RP_r H (show t * 4 + r < 16 by omega)).2.1
  have hmd := (RP_md H ht).1
  obtain ⟨⟨h1, h2, h3, h4, c1, c2, c3, c4, c5, c6⟩, h6⟩ := H
  have f3 : ∀ j : Nat, mF3 σ 1560 t r j = if j = 1560 + 278 + 3 then σ (1560 + 248 + t) else if j = 1560 + 278 + 2 then ν 7 (t * 4 + r) else if j = 1560 + 278 + 1 then nI r else if j = 1560 + 278 then nI t else shN σ 1560 28 j := by
    intro j
    have e0 : mF1 σ 1560 t r (rgt 1560 t r + 1) = ν 7 (t * 4 + r) := by
      unfold mF1
      rw [rgt_eq, upd_o (by omega), upd_o (by omega), shN_v 28 _ (by omega), if_neg (by omega)]
      exact hor
    unfold mF3 mF2
    rw [e0]
    unfold mF1 upd
    rfl
  have g5 : ∀ j : Nat, j ≠ 1560 + 310 → j ≠ 1560 + 277 → mF5 σ 1560 t r j = mF3 σ 1560 t r j := by
    intro j n1 n2
    unfold mF5; rw [upd_o n1]; unfold mF4; rw [upd_o n2]
  have f5 : ∀ j : Nat, (j < 1560 + 277 ∨ j = 1560 + 311) → mF5 σ 1560 t r j = σ j := by
    intro j hj
    rw [g5 j (by omega) (by omega), f3, if_neg (by omega), if_neg (by omega), if_neg (by omega), if_neg (by omega), shN_v 28 _ (by omega), if_neg (by omega)]
  refine ⟨⟨celW_o h1 (fun j a c => f5 j (by omega)) rfl rfl rfl, celS_o h2 (fun j a c => f5 j (by omega)) rfl rfl rfl, celR_o h3 (fun j a c => f5 j (by omega)) rfl rfl rfl, othA_o h4 (fun j a c => f5 j (by omega)) rfl rfl rfl, ?_, fun k hk => ?_, ?_, fun k hk => ?_, ?_, ?_⟩, fun j a => ?_⟩
  · rw [f5 _ (by omega)]; exact c1
  · rw [f5 _ (by omega)]; exact c2 k hk
  · obtain ⟨e, w1, w2⟩ := c3
    have e3 : mF3 σ 1560 t r (1560 + 277) = σ (1560 + 277) := by
      rw [f3, if_neg (by omega), if_neg (by omega), if_neg (by omega), if_neg (by omega), shN_v 28 _ (by omega), if_neg (by omega)]
    have e4 : mF5 σ 1560 t r (1560 + 277) = nI (min (tn (ν 14 0) + 1) 8) := by
      unfold mF5; rw [upd_o (by omega)]; unfold mF4; rw [upd_s, e3, e]
      obtain ⟨n, hn⟩ : ∃ n, n = tn (ν 14 0) := ⟨_, rfl⟩
      rw [← hn] at w1 w2 ⊢
      rw [w1]
      by_cases q : n < 8
      · rw [if_pos ((nI_ltI (by omega) (by decide)).mpr q), nI_add, Nat.min_eq_left (by omega)]
      · rw [if_neg (fun z => q ((nI_ltI (by omega) (by decide)).mp z)), nI_add, Nat.min_eq_right (by omega), show n + 0 = 8 from by omega]
    show mF5 σ 1560 t r (1560 + 277) = upd (upd (ν 14) 0 (nI (min (tn (ν 14 0) + 1) 8))) 1 (ν 14 1 + nI 1) 0 ∧ WH (upd (upd (ν 14) 0 (nI (min (tn (ν 14 0) + 1) 8))) 1 (ν 14 1 + nI 1) 0) 8
    rw [upd_o (by decide), upd_s, e4]
    exact ⟨rfl, WH_n (by omega) (by decide)⟩
  · rw [g5 _ (by omega) (by omega), f3]
    show _ = rowsAdd (ν 13) (nI t) (nI r) (ν 7 (t * 4 + r)) (ν 10 t) k
    unfold rowsAdd
    by_cases e3 : k = 3
    · rw [e3, upd_s, if_pos rfl]; exact hmd
    · rw [upd_o e3, if_neg (by omega)]
      by_cases e2 : k = 2
      · rw [e2, upd_s, if_pos rfl]
      · rw [upd_o e2, if_neg (by omega)]
        by_cases e1 : k = 1
        · rw [e1, upd_s, if_pos rfl]
        · rw [upd_o e1, if_neg (by omega)]
          by_cases e0 : k = 0
          · rw [e0, upd_s, if_pos rfl]
          · rw [upd_o e0, if_neg (by omega), shN_v 28 _ (by omega), if_pos (by omega), pk_cpy_in (by omega) (by omega)]
            have h9 := c4 (k - 4) (by omega)
            rw [show 1560 + 278 + k - 4 = 1560 + 278 + (k - 4) from by omega, h9, Nat.zero_add]
  · show _ = ν 14 1 + nI 1
    unfold mF5
    rw [upd_s]
    have e4 : mF4 σ 1560 t r (1560 + 310) = σ (1560 + 310) := by
      unfold mF4
      rw [upd_o (by omega), f3, if_neg (by omega), if_neg (by omega), if_neg (by omega), if_neg (by omega), shN_v 28 _ (by omega), if_neg (by omega)]
    rw [e4, c5]
  · rw [f5 _ (by omega)]; exact c6
  · rw [f5 _ (by omega)]; exact h6 j a
theorem RP_F6 (H : RP τ ν σ) (ht : t < 4) (hr : r < 4) : RP τ (if ν 10 t = 0 then up2 (c_log ν t r (t * 4 + r)) 11 (upd (ν 11) t (bI true)) else c_log ν t r (t * 4 + r)) (mF6 σ 1560 t r) := by
  have K := RP_log H ht hr
  unfold mF6
  rw [(RP_md H ht).1]
  by_cases q : ν 10 t = 0
  · rw [if_pos q, if_pos q]
    exact RP_stop (u := true) K ht
  · rw [if_neg q, if_neg q]
    refine RP_same K ?_
    funext j
    by_cases e : j = 1560 + 252 + t
    · rw [e, upd_s]
    · rw [upd_o e]
theorem RP_uflt (H : RP τ ν σ) (ht : t < 4) (hr : r < 4) (ha : a < 4) (hc : c < 4) : RP τ (u_flt ν t r a c) (mUF σ 1560 t r a c) := by
  have K := RP_F6 H ht hr
  unfold u_flt mUF mM2
  rw [(RP_md H ht).1, rgt_eq, rgt_eq]
  by_cases q : ν 10 t = nI 2
  · rw [if_pos q, if_pos (decide_eq_true q)]
    rw [if_neg (by rw [q]; decide)] at K
    exact RP_clp (RP_clp K (by omega)) (by omega)
  · have q2 : ¬ decide (ν 10 t = nI 2) = true := by rw [decide_eq_false q]; decide
    rw [if_neg q, if_neg q2]
    exact K
theorem RP_use (H : RP τ ν σ) (ht : t < 4) (ha : a < 4) (hc : c < 4) : RP τ (u_st ν t a c) (mUse σ 1560 t a c) := by
  have ra := (RP_r H (show t * 4 + a < 16 by omega)).2.1
  have rc := (RP_r H (show t * 4 + c < 16 by omega)).2.1
  unfold u_st mUse
  rw [rgt_eq, rgt_eq, ra, rc]
  cases h1 : ps (ν 7 (t * 4 + a))
  · cases h2 : ps (ν 7 (t * 4 + c))
    · simp only [Bool.false_eq_true, ↓reduceIte]; exact H
    · simp only [Bool.false_eq_true, ↓reduceIte]; exact RP_uflt H ht hc ha hc
  · simp only [↓reduceIte]; exact RP_uflt H ht ha ha hc
theorem RP_uok (H : RP τ ν σ) (ht : t < 4) (ha : a < 4) (hc : c < 4) : mUok σ 1560 t a c = u_ok ν t a c := by
  unfold mUok u_ok mNo mM2
  rw [rgt_eq, rgt_eq, (RP_r H (show t * 4 + a < 16 by omega)).2.1, (RP_r H (show t * 4 + c < 16 by omega)).2.1, (RP_md H ht).1]
theorem RP_inj {w : Nat} (H : RP τ ν σ) (hw : w < 32) (hn : tn (ν 15 0) < 20) : RP τ (c_inj ν w) (mInj σ 1560 w) := by
  have cw := RP_w H hw
  obtain ⟨⟨h1, h2, h3, h4, ⟨c1, w1, w2⟩, c2, c3, c4, c5, c6⟩, h6⟩ := H
  obtain ⟨n, hn2⟩ : ∃ n, n = tn (ν 15 0) := ⟨_, rfl⟩
  unfold mInj mInj1 c_inj
  rw [c1, cw.1]
  rw [← hn2] at w1 w2 hn ⊢
  rw [w1]
  have K : ∀ j : Nat, (j < 1560 + 257 + n ∨ 1560 + 257 + n < j) → j ≠ 1560 + 256 → upd (upd (lay σ (wdt 1560 w) (ν 0 w) (nI n) (nI 0)) (1560 + 257 + n) (nI w)) (1560 + 256) (nI (n + 1)) j = lay σ (wdt 1560 w) (ν 0 w) (nI n) (nI 0) j := by
    intro j n1 n2
    rw [upd_o n2, upd_o (by omega)]
  have hwd : wdt 1560 w = 1560 + 3 * w := rfl
  have L : ∀ j : Nat, 1560 + 3 * w + 2 < j → lay σ (wdt 1560 w) (ν 0 w) (nI n) (nI 0) j = σ j := fun j hj => pg_layo (Or.inr hj)
  have M : mrk (nI n) (nI 0) (nI 0) := ⟨fun _ => ⟨rfl, WH_0 (by decide)⟩, fun q => absurd (ps_f q) (by
    intro z
    have h9 : (nI n).toInt = (-6 : Int32).toInt := congrArg Int32.toInt z
    have h8 : (nI n).toInt = (n : Int) := nI_toInt (by omega)
    have h7 : (-6 : Int32).toInt = -6 := rfl
    omega)⟩
  refine ⟨⟨?_, celS_o h2 (fun j a c => ?_) rfl rfl rfl, celR_o h3 (fun j a c => ?_) rfl rfl rfl, othA_o h4 (fun j a c => ?_) rfl rfl rfl, ?_, fun k hk => ?_, ?_, fun k hk => ?_, ?_, ?_⟩, fun j a => ?_⟩
  · refine celW_o (celW_s (w := w) (v := ν 0 w) (o := nI n) (h := nI 0) (h0 := nI 0) h1 cw.2.2.1 M) (fun j a c => ?_) ?_ rfl rfl
    · rw [K j (by omega) (by omega)]; rfl
    · show ν 0 = upd (ν 0) w (ν 0 w)
      funext i
      by_cases e : i = w
      · rw [e, upd_s]
      · rw [upd_o e]
  · rw [K j (by omega) (by omega), L j (by omega)]
  · rw [K j (by omega) (by omega), L j (by omega)]
  · rw [K j (by omega) (by omega), L j (by omega)]
  · show _ = nI (n + 1) ∧ WH (nI (n + 1)) 20
    rw [upd_s]
    exact ⟨rfl, WH_n (by omega) (by decide)⟩
  · show _ = upd (ν 12) n (nI w) k
    by_cases e : k = n
    · rw [e, upd_s, upd_o (by omega), upd_s]
    · rw [upd_o e, K _ (by omega) (by omega), L _ (by omega)]; exact c2 k hk
  · rw [K _ (by omega) (by omega), L _ (by omega)]; exact c3
  · rw [K _ (by omega) (by omega), L _ (by omega)]; exact c4 k hk
  · rw [K _ (by omega) (by omega), L _ (by omega)]; exact c5
  · rw [K _ (by omega) (by omega), L _ (by omega)]; exact c6
  · rw [K _ (by omega) (by omega), pg_layo (by omega)]; exact h6 j a
end FLT
/-! numbers of words -/
theorem nI_and {a k : Nat} (h : a < 2 ^ 31) (hk : k ≤ 31) (m : Int32) (hm : m.toBitVec.toNat = 2 ^ k - 1) : nI a &&& m = nI (a % 2 ^ k) := pk_andN (by omega) k hm
theorem byt_0 {x : Nat} (h : x < 65536) : byt (nI x) 0 = nI (x % 256) := by
  unfold byt
  have e : (nI (8 * 0) &&& 31 : Int32) = 0 := by decide
  rw [e, pk_shrN (by omega) 0 0 (by decide)]
  exact (pk_andN (k := 8) (by omega) (by decide)).trans (congrArg nI (by omega))
theorem byt_1 {x : Nat} (h : x < 65536) : byt (nI x) 1 = nI (x / 256) := by
  unfold byt
  have e : (nI (8 * 1) &&& 31 : Int32) = 8 := by decide
  rw [e, pk_shrN (by omega) 8 8 (by decide)]
  exact (pk_andN (k := 8) (by omega) (by decide)).trans (congrArg nI (by omega))
theorem rm8_n {x : Nat} (h : x < 65536) : rm8 (nI x) = nI (x % 256) := by
  unfold rm8
  rw [pk_rem (by omega) (by decide) (by decide)]
theorem mby_n {x p : Nat} (h : x < 65536) (hp : p < 2) : byt (nI x) p = mby (nI x) p := by
  unfold mby
  rcases (show p = 0 ∨ p = 1 by omega) with e | e
  · subst e; rw [if_pos rfl, byt_0 h, rm8_n h]
  · subst e; rw [if_neg (by decide), byt_1 h, pk_div (by omega) (by decide) (by decide)]
theorem mby_W {x p : Nat} (h : x < 65536) (hp : p < 2) : WH (mby (nI x) p) 65535 := by
  rw [← mby_n h hp]
  rcases (show p = 0 ∨ p = 1 by omega) with e | e
  · subst e; rw [byt_0 h]; exact WH_n (by omega) (by decide)
  · subst e; rw [byt_1 h]; exact WH_n (by omega) (by decide)
theorem nI_or (a b : Nat) : nI a ||| nI b = nI (a ||| b) := by
  apply Int32.toBitVec_inj.1
  show BitVec.ofNat 32 a ||| BitVec.ofNat 32 b = BitVec.ofNat 32 (a ||| b)
  apply BitVec.eq_of_getLsbD_eq
  intro i hi
  simp [hi]
theorem nI_an (a b : Nat) : nI a &&& nI b = nI (a &&& b) := by
  apply Int32.toBitVec_inj.1
  show BitVec.ofNat 32 a &&& BitVec.ofNat 32 b = BitVec.ofNat 32 (a &&& b)
  apply BitVec.eq_of_getLsbD_eq
  intro i hi
  simp [hi]
theorem or_lo {a b : Nat} (hb : b < 256) : (256 * a) ||| b = 256 * a + b := by
  have h := Nat.two_pow_add_eq_or_of_lt (i := 8) (show b < 2 ^ 8 by omega) a
  rw [show (2 : Nat) ^ 8 = 256 from rfl] at h
  exact h.symm
theorem and_hi {x : Nat} (h : x < 65536) : x &&& 65280 = 256 * (x / 256) := by
  have e : 65280 = 255 * 2 ^ 8 := by decide
  apply Nat.eq_of_testBit_eq
  intro i
  rw [Nat.testBit_and, show 256 * (x / 256) = (x / 2 ^ 8) * 2 ^ 8 from by omega, Nat.testBit_mul_two_pow, Nat.testBit_div_two_pow, e, Nat.testBit_mul_two_pow]
  by_cases c : 8 ≤ i
  · rw [show i - 8 + 8 = i from by omega, decide_eq_true c, Bool.true_and, Bool.true_and, show (255 : Nat) = 2 ^ 8 - 1 from rfl, Nat.testBit_two_pow_sub_one]
    by_cases d : i - 8 < 8
    · rw [decide_eq_true d, Bool.and_true]
    · rw [decide_eq_false d, Bool.and_false, Nat.testBit_lt_two_pow (show x < 2 ^ i from Nat.lt_of_lt_of_le h (by rw [show (65536 : Nat) = 2 ^ 16 from rfl]; exact Nat.pow_le_pow_right (by decide) (by omega)))]
  · rw [decide_eq_false c, Bool.false_and, Bool.false_and, Bool.and_false]
theorem byP_n {x y p : Nat} (hx : x < 65536) (hy : y < 65536) (hp : p < 2) : byP (nI x) (nI y) p = mbv (nI x) (nI y) p ∧ WH (mbv (nI x) (nI y) p) 65535 := by
  unfold byP mbv
  rw [byt_0 hy, rm8_n hy, rm8_n hx, pk_div (by omega) (by decide) (by decide)]
  rcases (show p = 0 ∨ p = 1 by omega) with e | e
  · subst e
    rw [if_pos rfl]
    have e1 : (nI 255 <<< (nI (8 * (1 - 0)) &&& 31) : Int32) = nI 65280 := by decide
    have e2 : (nI (8 * 0) &&& 31 : Int32) = 0 := by decide
    rw [e1, e2, pk_shlN 0 0 (by decide) (by omega), nI_an, nI_or, and_hi hx, show y % 256 * 2 ^ 0 = y % 256 from by omega, or_lo (by omega), pk_mul, nI_add]
    exact ⟨congrArg nI (by omega), WH_n (by omega) (by decide)⟩
  · subst e
    rw [if_neg (by decide)]
    have e1 : (nI 255 <<< (nI (8 * (1 - 1)) &&& 31) : Int32) = nI 255 := by decide
    have e2 : (nI (8 * 1) &&& 31 : Int32) = 8 := by decide
    rw [e1, e2, pk_shlN 8 8 (by decide) (by omega), pk_andN (k := 8) (by omega) (by decide), nI_or, Nat.or_comm, show y % 256 * 2 ^ 8 = 256 * (y % 256) from by omega, or_lo (show x % 2 ^ 8 < 256 by omega), pk_mul, nI_add]
    exact ⟨congrArg nI (by omega), WH_n (by omega) (by decide)⟩
theorem and_16 (x : Int32) : x &&& nI 65535 = nI (x.toBitVec.toNat % 65536) := pk_and x 16 (by decide)
theorem res_n {q x y : Nat} (hq : q < 4) (hx : x < 65536) (hy : y < 65536) : calq q (nI x) (nI y) = mRes q (nI x) (nI y) ∧ WH (mRes q (nI x) (nI y)) 65535 := by
  have key : ∀ z : Int64, (z &&& 65535 : Int64).toInt32 = nI (z.toBitVec.toNat % 65536) := by
    intro z
    apply Int32.toBitVec_inj.1
    apply BitVec.eq_of_toNat_eq
    show ((z.toBitVec &&& 65535#64).signExtend 32).toNat = (BitVec.ofNat 32 (z.toBitVec.toNat % 65536)).toNat
    have e1 : (z.toBitVec &&& 65535#64).toNat = z.toBitVec.toNat % 65536 := by
      rw [BitVec.toNat_and]
      exact (congrArg (fun q => z.toBitVec.toNat &&& q) (show (65535#64).toNat = 2 ^ 16 - 1 from by decide)).trans (Nat.and_two_pow_sub_one_eq_mod z.toBitVec.toNat 16)
    rw [BitVec.signExtend_eq_setWidth_of_le _ (by decide), BitVec.toNat_setWidth, e1, BitVec.toNat_ofNat]
  have cal : ∀ (u : Int32) (z : Int64), z.toBitVec.toNat % 65536 = u.toBitVec.toNat % 65536 → u &&& nI 65535 = (z &&& 65535 : Int64).toInt32 ∧ WH (z &&& 65535 : Int64).toInt32 65535 := by
    intro u z e
    rw [and_16, key, e]
    exact ⟨rfl, WH_n (by omega) (by decide)⟩
  have wid : ∀ u : Int32, u.toInt64.toBitVec.toNat % 65536 = u.toBitVec.toNat % 65536 := by
    intro u
    have e1 : (u.toInt64.toBitVec.setWidth 16).toNat = (u.toBitVec.setWidth 16).toNat := by
      show ((u.toBitVec.signExtend 64).setWidth 16).toNat = _
      refine congrArg BitVec.toNat ?_
      apply BitVec.eq_of_getLsbD_eq
      intro i hi
      rw [BitVec.getLsbD_setWidth, BitVec.getLsbD_setWidth, BitVec.getLsbD_signExtend, decide_eq_true (show i < 64 by omega), Bool.true_and, if_pos (show i < 32 by omega)]
    rw [BitVec.toNat_setWidth, BitVec.toNat_setWidth] at e1
    exact e1
  unfold calq mRes
  rcases (show q = 0 ∨ q = 1 ∨ q = 2 ∨ q = 3 by omega) with e | e | e | e
  · subst e
    rw [if_pos rfl, if_neg (by decide), if_pos rfl]
    exact cal _ _ (wid _)
  · subst e
    rw [if_neg (by decide), if_pos rfl, if_neg (by decide), if_neg (by decide), if_pos rfl]
    exact cal _ _ (wid _)
  · subst e
    rw [if_neg (by decide), if_neg (by decide), if_pos rfl, if_neg (by decide), if_neg (by decide), if_neg (by decide), if_pos rfl]
    have h := cal (nI x ^^^ nI y) (nI x ^^^ nI y).toInt64 (wid _)
    have h2 : (nI x ^^^ nI y) &&& nI 65535 = nI x ^^^ nI y := by
      have h3 : x ^^^ y < 2 ^ 16 := Nat.xor_lt_two_pow (by omega) (by omega)
      rw [nx_xor, and_16, pk_tn (by omega), Nat.mod_eq_of_lt (by omega)]
    rw [h2] at h
    exact h
  · subst e
    rw [if_neg (by decide), if_neg (by decide), if_neg (by decide), if_pos rfl]
    refine cal _ _ ?_
    have e1 := wid (nI x)
    have e2 := wid (nI y)
    show ((nI x).toInt64.toBitVec * (nI y).toInt64.toBitVec).toNat % 65536 = ((nI x).toBitVec * (nI y).toBitVec).toNat % 65536
    rw [BitVec.toNat_mul, BitVec.toNat_mul, Nat.mod_mod_of_dvd _ (show 65536 ∣ 2 ^ 64 from ⟨2 ^ 48, by decide⟩), Nat.mod_mod_of_dvd _ (show 65536 ∣ 2 ^ 32 from ⟨2 ^ 16, by decide⟩), Nat.mul_mod, e1, e2, ← Nat.mul_mod]
