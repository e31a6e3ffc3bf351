/-! the actions: both sides answer alike, and keep the picture -/
section ACT
variable {τ : MS} {ν : NS} {σ : MS}
def OpR (τ : MS) (ν ν' : NS) (r R : Int32) (S : MS) : Prop := r = R ∧ RP τ ν' S ∧ (isErr R = true → ν' = ν)
theorem op_giv {t r x : Int32} (H : RP τ ν σ) (ht : iN t 4 = true) (hr : iN r 4 = true) (hx : iN x 65536 = true) : OpR τ ν (s_giv ν t r x) (r_giv ν t r x) (mSetR σ 1560 (tn t) (tn r)) (mSetS σ 1560 (tn t) (tn r) (nI (tn x))) := by
  have a1 := iN_lt ht (by decide)
  have a2 := iN_lt hr (by decide)
  have a3 := iN_lt hx (by decide)
  have hs := RP_st H a1
  have hv := RP_r H (show tn t * 4 + tn r < 16 by omega)
  unfold OpR s_giv r_giv mSetR mSetS stp
  rw [hs, ht, hr, hx, rgt_eq]
  cases h : bz (ν 11 (tn t))
  · refine ⟨?_, ?_, ?_⟩ <;> (try simp only [↓reduceIte, Bool.false_eq_true, bI_true, bI_false, Bool.true_and, Bool.and_true, Bool.and_false, Bool.false_and, Bool.not_true, Bool.not_false, Bool.or_true, Bool.true_or, Bool.or_false, Bool.false_or, Bool.and_self])
    · exact hv.1.symm
    · exact RP_cleanR H (by omega) (WH_n (by omega) (by decide))
    · exact fun q => absurd q (by rw [hv.1, nErr hv.2.2.1 (by decide)]; decide)
  · refine ⟨?_, ?_, ?_⟩ <;> (try simp only [↓reduceIte, Bool.false_eq_true, bI_true, bI_false, Bool.true_and, Bool.and_true, Bool.and_false, Bool.false_and, Bool.not_true, Bool.not_false, Bool.or_true, Bool.true_or, Bool.or_false, Bool.false_or, Bool.and_self]) <;> first | exact H | exact fun _ => trivial | exact fun _ => rfl
theorem op_ld {t r w : Int32} (H : RP τ ν σ) (ht : iN t 4 = true) (hr : iN r 4 = true) (hw : iN w 32 = true) : OpR τ ν (s_ld ν t r w) (r_ld ν t r w) (mLdR σ 1560 (tn t) (tn w)) (mLdS σ 1560 (tn t) (tn r) (tn w)) := by
  have a1 := iN_lt ht (by decide)
  have a2 := iN_lt hr (by decide)
  have a3 := iN_lt hw (by decide)
  have hs := RP_st H a1
  unfold OpR s_ld r_ld mLdR mLdS stp
  rw [hs, ht, hr, hw, rgt_eq]
  cases h : bz (ν 11 (tn t))
  · have K := RP_fetch H a3
    have c := RP_w K a3
    refine ⟨?_, ?_, ?_⟩ <;> (try simp only [↓reduceIte, Bool.false_eq_true, bI_true, bI_false, Bool.true_and, Bool.and_true, Bool.and_false, Bool.false_and, Bool.not_true, Bool.not_false, Bool.or_true, Bool.true_or, Bool.or_false, Bool.false_or, Bool.and_self])
    · exact c.1.symm
    · rw [c.1]
      exact RP_take1 K (by omega) a3 c.2.2.1
    · exact fun q => absurd q (by rw [c.1, nErr c.2.2.1 (by decide)]; decide)
  · refine ⟨?_, ?_, ?_⟩ <;> (try simp only [↓reduceIte, Bool.false_eq_true, bI_true, bI_false, Bool.true_and, Bool.and_true, Bool.and_false, Bool.false_and, Bool.not_true, Bool.not_false, Bool.or_true, Bool.true_or, Bool.or_false, Bool.false_or, Bool.and_self]) <;> first | exact H | exact fun _ => trivial | exact fun _ => rfl
theorem ldp_eq {μ : NS} {k w : Nat} {x : Int32} : up2 (c_take1 μ k w) 6 (upd (c_take1 μ k w 6) k x) = setR μ k x (μ 1 w) (hp (μ 1 w) (μ 2 w)) := by
  funext c
  by_cases e6 : c = 6
  · subst e6
    show upd (upd (μ 6) k (μ 0 w)) k x = upd (μ 6) k x
    funext j
    by_cases f : j = k
    · rw [f, upd_s, upd_s]
    · rw [upd_o f, upd_o f, upd_o f]
  · by_cases e7 : c = 7
    · subst e7; rfl
    · by_cases e8 : c = 8
      · subst e8; rfl
      · unfold setR c_take1 up2
        simp only [if_neg e6, if_neg e7, if_neg e8]
theorem clp_11 {μ : NS} {k : Nat} : c_clp μ k 11 = μ 11 := by
  unfold c_clp; split <;> rfl
theorem op_ldb {t r w p : Int32} (H : RP τ ν σ) (ht : iN t 4 = true) (hr : iN r 4 = true) (hw : iN w 32 = true) (hp9 : iN p 2 = true) : OpR τ ν (s_ldb ν t r w p) (r_ldb ν t r w p) (mLbR σ 1560 (tn t) (tn w) (tn p)) (mLbS σ 1560 (tn t) (tn r) (tn w) (tn p)) := by
  have a1 := iN_lt ht (by decide)
  have a2 := iN_lt hr (by decide)
  have a3 := iN_lt hw (by decide)
  have a4 := iN_lt hp9 (by decide)
  have hs := RP_st H a1
  unfold OpR s_ldb r_ldb mLbR mLbS stp
  rw [hs, ht, hr, hw, hp9, rgt_eq]
  cases h : bz (ν 11 (tn t))
  · have K := RP_fetch H a3
    have c := RP_w K a3
    obtain ⟨e, le⟩ := c.2.2.1
    obtain ⟨n, hn⟩ : ∃ n, n = tn (c_fetch ν (tn w) 0 (tn w)) := ⟨_, rfl⟩
    rw [← hn] at e le
    have hb : byt (c_fetch ν (tn w) 0 (tn w)) (tn p) = mby (c_fetch ν (tn w) 0 (tn w)) (tn p) := by rw [e]; exact mby_n (by omega) a4
    have hW : WH (mby (c_fetch ν (tn w) 0 (tn w)) (tn p)) 65535 := by rw [e]; exact mby_W (by omega) a4
    refine ⟨?_, ?_, ?_⟩ <;> (try simp only [↓reduceIte, Bool.false_eq_true, bI_true, bI_false, Bool.true_and, Bool.and_true, Bool.and_false, Bool.false_and, Bool.not_true, Bool.not_false, Bool.or_true, Bool.true_or, Bool.or_false, Bool.false_or, Bool.and_self])
    · rw [c.1]; exact hb
    · rw [c.1]
      unfold ldpS c_take
      rw [ldp_eq, hb]
      exact RP_take1 K (by omega) a3 hW
    · rw [c.1]
      exact fun q => absurd q (by rw [nErr hW (by decide)]; decide)
  · refine ⟨?_, ?_, ?_⟩ <;> (try simp only [↓reduceIte, Bool.false_eq_true, bI_true, bI_false, Bool.true_and, Bool.and_true, Bool.and_false, Bool.false_and, Bool.not_true, Bool.not_false, Bool.or_true, Bool.true_or, Bool.or_false, Bool.false_or, Bool.and_self]) <;> first | exact H | exact fun _ => trivial | exact fun _ => rfl
theorem cW_upd {μ : NS} {w : Nat} : c_upd μ w 1 w = μ 1 w := by
  unfold c_upd; split <;> rfl
theorem op_sto {t r w : Int32} (H : RP τ ν σ) (ht : iN t 4 = true) (hr : iN r 4 = true) (hw : iN w 32 = true) : OpR τ ν (s_sto ν t r w) (r_sto ν t r w) (mStoR σ 1560 (tn t) (tn r) (tn w)) (mStoS σ 1560 (tn t) (tn r) (tn w)) := by
  have a1 := iN_lt ht (by decide)
  have a2 := iN_lt hr (by decide)
  have a3 := iN_lt hw (by decide)
  have hs := RP_st H a1
  have c := RP_r H (show tn t * 4 + tn r < 16 by omega)
  have K := RP_put H a3 c.2.2.1 c.2.2.2
  unfold OpR s_sto r_sto mStoR mStoS stp stoS mSto1 mGet
  rw [hs, ht, hr, hw, rgt_eq]
  cases h : bz (ν 11 (tn t))
  · have K2 := (RP_r K (show tn t * 4 + tn r < 16 by omega)).2.1
    have e1 : c_put ν (tn w) (ν 6 (tn t * 4 + tn r)) (ν 7 (tn t * 4 + tn r)) (ν 8 (tn t * 4 + tn r)) 7 (tn t * 4 + tn r) = ν 7 (tn t * 4 + tn r) := by
      unfold c_put c_upd; split <;> rfl
    have e2 : c_put ν (tn w) (ν 6 (tn t * 4 + tn r)) (ν 7 (tn t * 4 + tn r)) (ν 8 (tn t * 4 + tn r)) 1 (tn w) = ν 7 (tn t * 4 + tn r) := by
      unfold c_put; rw [cW_upd]; exact upd_s
    refine ⟨?_, ?_, ?_⟩ <;> (try simp only [↓reduceIte, Bool.false_eq_true, bI_true, bI_false, Bool.true_and, Bool.and_true, Bool.and_false, Bool.false_and, Bool.not_true, Bool.not_false, Bool.or_true, Bool.true_or, Bool.or_false, Bool.false_or, Bool.and_self])
    · rw [c.1, c.2.1, K2, e1, e2]
    · rw [c.1, c.2.1]; exact K
    · exact fun q => absurd q (by rw [nErrB]; decide)
  · refine ⟨?_, ?_, ?_⟩ <;> (try simp only [↓reduceIte, Bool.false_eq_true, bI_true, bI_false, Bool.true_and, Bool.and_true, Bool.and_false, Bool.false_and, Bool.not_true, Bool.not_false, Bool.or_true, Bool.true_or, Bool.or_false, Bool.false_or, Bool.and_self]) <;> first | exact H | exact fun _ => trivial | exact fun _ => rfl
theorem stb_eq {μ : NS} {w : Nat} {x o h : Int32} : up2 (up2 (up2 μ 0 (upd (μ 0) w x)) 1 (upd (μ 1) w o)) 2 (upd (μ 2) w h) = setW μ w x o h := rfl
theorem op_stb {t r w p : Int32} (H : RP τ ν σ) (ht : iN t 4 = true) (hr : iN r 4 = true) (hw : iN w 32 = true) (hp9 : iN p 2 = true) : OpR τ ν (s_stb ν t r w p) (r_stb ν t r w p) (mStbR σ 1560 (tn t) (tn r) (tn w) (tn p)) (mStbS σ 1560 (tn t) (tn r) (tn w) (tn p)) := by
  have a1 := iN_lt ht (by decide)
  have a2 := iN_lt hr (by decide)
  have a3 := iN_lt hw (by decide)
  have a4 := iN_lt hp9 (by decide)
  have hs := RP_st H a1
  have K := RP_fetch H a3
  have c := RP_r K (show tn t * 4 + tn r < 16 by omega)
  have d := RP_w K a3
  have hB : byP (c_fetch ν (tn w) 0 (tn w)) (c_fetch ν (tn w) 6 (tn t * 4 + tn r)) (tn p) = mbv (c_fetch ν (tn w) 0 (tn w)) (c_fetch ν (tn w) 6 (tn t * 4 + tn r)) (tn p) ∧ WH (mbv (c_fetch ν (tn w) 0 (tn w)) (c_fetch ν (tn w) 6 (tn t * 4 + tn r)) (tn p)) 65535 := by
    obtain ⟨e1, l1⟩ := c.2.2.1
    obtain ⟨e2, l2⟩ := d.2.2.1
    rw [e1, e2]
    exact byP_n (by omega) (by omega) a4
  have L : RP τ (stbS2 (c_fetch ν (tn w)) (tn t * 4 + tn r) (tn w) (tn p)) (mStb1 (mFe σ 1560 (tn w)) 1560 (tn t) (tn r) (tn w) (tn p)) := by
    unfold mStb1 stbS2 stbS1 mGet
    rw [rgt_eq, c.1, c.2.1, d.1, hB.1]
    cases h7 : ps (c_fetch ν (tn w) 7 (tn t * 4 + tn r))
    · rw [if_neg (by decide), if_neg (by decide)]
      exact RP_V K a3 hB.2
    · rw [if_pos rfl, if_pos rfl]
      exact RP_W K a3 hB.2 (mrk_hp c.2.2.2)
  have M := RP_upd L a3
  have e1 := (RP_w M a3).2.1
  unfold OpR s_stb r_stb mStbR mStbS stp stbS mStb2
  rw [hs, ht, hr, hw, hp9]
  cases h : bz (ν 11 (tn t))
  · refine ⟨?_, ?_, ?_⟩ <;> (try simp only [↓reduceIte, Bool.false_eq_true, bI_true, bI_false, Bool.true_and, Bool.and_true, Bool.and_false, Bool.false_and, Bool.not_true, Bool.not_false, Bool.or_true, Bool.true_or, Bool.or_false, Bool.false_or, Bool.and_self])
    · rw [e1]
    · exact M
    · exact fun q => absurd q (by rw [nErrB]; decide)
  · refine ⟨?_, ?_, ?_⟩ <;> (try simp only [↓reduceIte, Bool.false_eq_true, bI_true, bI_false, Bool.true_and, Bool.and_true, Bool.and_false, Bool.false_and, Bool.not_true, Bool.not_false, Bool.or_true, Bool.true_or, Bool.or_false, Bool.false_or, Bool.and_self]) <;> first | exact H | exact fun _ => trivial | exact fun _ => rfl
theorem op_mov {t a b : Int32} (H : RP τ ν σ) (ht : iN t 4 = true) (ha : iN a 4 = true) (hb : iN b 4 = true) : OpR τ ν (s_mov ν t a b) (r_mov ν t a b) (mMovR σ 1560 (tn t) (tn b)) (mMovS σ 1560 (tn t) (tn a) (tn b)) := by
  have a1 := iN_lt ht (by decide)
  have a2 := iN_lt ha (by decide)
  have a3 := iN_lt hb (by decide)
  have hs := RP_st H a1
  have c := RP_r H (show tn t * 4 + tn b < 16 by omega)
  unfold OpR s_mov r_mov mMovR mMovS stp mGet
  rw [hs, ht, ha, hb, rgt_eq, rgt_eq, c.1, c.2.1]
  cases h : bz (ν 11 (tn t))
  · refine ⟨?_, ?_, ?_⟩ <;> (try simp only [↓reduceIte, Bool.false_eq_true, bI_true, bI_false, Bool.true_and, Bool.and_true, Bool.and_false, Bool.false_and, Bool.not_true, Bool.not_false, Bool.or_true, Bool.true_or, Bool.or_false, Bool.false_or, Bool.and_self])
    · exact RP_R H (by omega) c.2.2.1 (mrk_hp c.2.2.2)
    · exact fun q => absurd q (by rw [nErr c.2.2.1 (by decide)]; decide)
  · refine ⟨?_, ?_, ?_⟩ <;> (try simp only [↓reduceIte, Bool.false_eq_true, bI_true, bI_false, Bool.true_and, Bool.and_true, Bool.and_false, Bool.false_and, Bool.not_true, Bool.not_false, Bool.or_true, Bool.true_or, Bool.or_false, Bool.false_or, Bool.and_self]) <;> first | exact H | exact fun _ => trivial | exact fun _ => rfl
theorem op_out {t a : Int32} (H : RP τ ν σ) (ht : iN t 4 = true) (ha : iN a 4 = true) : OpR τ ν (s_out ν t a) (r_out ν t a) (mOuR σ 1560 (tn t) (tn a)) (mOuS σ 1560 (tn t) (tn a)) := by
  have a1 := iN_lt ht (by decide)
  have a2 := iN_lt ha (by decide)
  have hs := RP_st H a1
  have K := RP_use H a1 a2 a2
  have c := RP_r K (show tn t * 4 + tn a < 16 by omega)
  unfold OpR s_out r_out mOuR mOuS stp
  rw [hs, ht, ha, rgt_eq, c.1, RP_uok H a1 a2 a2]
  cases h : bz (ν 11 (tn t))
  · cases h2 : u_ok ν (tn t) (tn a) (tn a)
    · refine ⟨?_, ?_, ?_⟩ <;> (try simp only [↓reduceIte, Bool.false_eq_true, bI_true, bI_false, Bool.true_and, Bool.and_true, Bool.and_false, Bool.false_and, Bool.not_true, Bool.not_false, Bool.or_true, Bool.true_or, Bool.or_false, Bool.false_or, Bool.and_self])
      · exact K
      · exact fun q => absurd q (by decide)
    · refine ⟨?_, ?_, ?_⟩ <;> (try simp only [↓reduceIte, Bool.false_eq_true, bI_true, bI_false, Bool.true_and, Bool.and_true, Bool.and_false, Bool.false_and, Bool.not_true, Bool.not_false, Bool.or_true, Bool.true_or, Bool.or_false, Bool.false_or, Bool.and_self])
      · exact K
      · exact fun q => absurd q (by rw [nErr c.2.2.1 (by decide)]; decide)
  · refine ⟨?_, ?_, ?_⟩ <;> (try simp only [↓reduceIte, Bool.false_eq_true, bI_true, bI_false, Bool.true_and, Bool.and_true, Bool.and_false, Bool.false_and, Bool.not_true, Bool.not_false, Bool.or_true, Bool.true_or, Bool.or_false, Bool.false_or, Bool.and_self]) <;> first | exact H | exact fun _ => trivial | exact fun _ => rfl
theorem RP_use_W {t a : Nat} (H : RP τ ν σ) (ht : t < 4) (ha : a < 4) : WH (u_st ν t a a 6 (t * 4 + a)) 65535 := (RP_r (RP_use H ht ha ha) (show t * 4 + a < 16 by omega)).2.2.1
theorem RP_use_M {t a : Nat} (H : RP τ ν σ) (ht : t < 4) (ha : a < 4) : WH (mUse σ 1560 t a a (rgt 1560 t a)) 65535 := by
  rw [rgt_eq, (RP_r (RP_use H ht ha ha) (show t * 4 + a < 16 by omega)).1]
  exact RP_use_W H ht ha
theorem op_lad {t c a : Int32} (H : RP τ ν σ) (ht : iN t 4 = true) (hc : iN c 4 = true) (ha : iN a 4 = true) : OpR τ ν (s_lad ν t c a) (r_lad ν t c a) (mLaR σ 1560 (tn t) (tn a)) (mLaS σ 1560 (tn t) (tn c) (tn a)) := by
  have a1 := iN_lt ht (by decide)
  have a2 := iN_lt hc (by decide)
  have a3 := iN_lt ha (by decide)
  have hs := RP_st H a1
  have K := RP_use H a1 a3 a3
  have cr := RP_r K (show tn t * 4 + tn a < 16 by omega)
  have ew : mLaW σ 1560 (tn t) (tn a) = ladW ν (tn t) (tn a) := by
    unfold mLaW ladW
    rw [rgt_eq, cr.1]
  have lw : ladW ν (tn t) (tn a) < 32 := Nat.mod_lt _ (by decide)
  have hs2 := RP_st K a1
  unfold OpR s_lad r_lad mLaR mLaS stp
  rw [hs, ht, hc, ha, ew, RP_uok H a1 a3 a3]
  cases h : bz (ν 11 (tn t))
  · cases h2 : u_ok ν (tn t) (tn a) (tn a)
    · refine ⟨?_, ?_, ?_⟩ <;> (try simp only [↓reduceIte, Bool.false_eq_true, bI_true, bI_false, Bool.true_and, Bool.and_true, Bool.and_false, Bool.false_and, Bool.not_true, Bool.not_false, Bool.or_true, Bool.true_or, Bool.or_false, Bool.false_or, Bool.and_self])
      · exact K
      · exact fun q => absurd q (by decide)
    · have h3 : bz (u_st ν (tn t) (tn a) (tn a) 11 (tn t)) = false := by
        have h5 : u_st ν (tn t) (tn a) (tn a) 11 = ν 11 := by
          unfold u_ok at h2
          by_cases m2 : ν 10 (tn t) = nI 2
          · unfold u_st u_flt
            split
            · rw [clp_11, clp_11]; rfl
            · rfl
          · rw [decide_eq_false m2, Bool.or_false, Bool.and_self] at h2
            have h4 : ps (ν 7 (tn t * 4 + tn a)) = false := by simpa using h2
            unfold u_st
            rw [h4, if_neg (by decide), if_neg (by decide)]
        rw [h5]; exact h
      have L := RP_fetch K lw
      have d := RP_w L lw
      have eR : mLdR (mUse σ 1560 (tn t) (tn a) (tn a)) 1560 (tn t) (ladW ν (tn t) (tn a)) = c_fetch (u_st ν (tn t) (tn a) (tn a)) (ladW ν (tn t) (tn a)) 0 (ladW ν (tn t) (tn a)) := by
        unfold mLdR
        rw [hs2, h3, if_neg (by decide), d.1]
      have eS : mLdS (mUse σ 1560 (tn t) (tn a) (tn a)) 1560 (tn t) (tn c) (ladW ν (tn t) (tn a)) = mGet (mFe (mUse σ 1560 (tn t) (tn a) (tn a)) 1560 (ladW ν (tn t) (tn a))) (1560 + 192 + 3 * (tn t * 4 + tn c)) (c_fetch (u_st ν (tn t) (tn a) (tn a)) (ladW ν (tn t) (tn a)) 0 (ladW ν (tn t) (tn a))) (wdt 1560 (ladW ν (tn t) (tn a))) := by
        unfold mLdS
        rw [hs2, h3, if_neg (by decide), rgt_eq, d.1]
      rw [eR, eS]
      refine ⟨?_, ?_, ?_⟩ <;> (try simp only [↓reduceIte, Bool.false_eq_true, bI_true, bI_false, Bool.true_and, Bool.and_true, Bool.and_false, Bool.false_and, Bool.not_true, Bool.not_false, Bool.or_true, Bool.true_or, Bool.or_false, Bool.false_or, Bool.and_self])
      · exact RP_take1 L (by omega) lw d.2.2.1
      · exact fun q => absurd q (by rw [nErr d.2.2.1 (by decide)]; decide)
  · refine ⟨?_, ?_, ?_⟩ <;> (try simp only [↓reduceIte, Bool.false_eq_true, bI_true, bI_false, Bool.true_and, Bool.and_true, Bool.and_false, Bool.false_and, Bool.not_true, Bool.not_false, Bool.or_true, Bool.true_or, Bool.or_false, Bool.false_or, Bool.and_self]) <;> first | exact H | exact fun _ => trivial | exact fun _ => rfl
theorem xor_self (x : Int32) : x ^^^ x = nI 0 := by
  apply Int32.toBitVec_inj.1
  show x.toBitVec ^^^ x.toBitVec = BitVec.ofNat 32 0
  rw [BitVec.xor_self]
theorem op_cmp {t q c a b : Int32} (H : RP τ ν σ) (ht : iN t 4 = true) (hc : iN c 4 = true) (ha : iN a 4 = true) (hb : iN b 4 = true) (hq : iN q 4 = true) : OpR τ ν (s_cmp ν t q c a b) (r_cmp ν t q c a b) (mCmpR σ 1560 (tn t) (tn q) (tn a) (tn b)) (mCmpS σ 1560 (tn t) (tn q) (tn c) (tn a) (tn b)) := by
  have a1 := iN_lt ht (by decide)
  have a2 := iN_lt hc (by decide)
  have a3 := iN_lt ha (by decide)
  have a4 := iN_lt hb (by decide)
  have a5 := iN_lt hq (by decide)
  have hs := RP_st H a1
  have K : RP τ (cmpU ν (tn t) (tn q) (tn a) (tn b)) (mCpU σ 1560 (tn t) (tn q) (tn a) (tn b)) := by
    by_cases e : tn q = 2 ∧ tn a = tn b
    · rw [cmpU_t e, mCpU_t e]; exact H
    · rw [cmpU_f e, mCpU_f e]; exact RP_use H a1 a3 a4
  have eD : mCpD σ 1560 (tn t) (tn q) (tn a) (tn b) = cmpD ν (tn t) (tn q) (tn a) (tn b) := by
    by_cases e : tn q = 2 ∧ tn a = tn b
    · rw [cmpD_t e, mCpD_t e]
    · rw [cmpD_f e, mCpD_f e]; exact RP_uok H a1 a3 a4
  have eV : cmpV ν (tn t) (tn q) (tn a) (tn b) = mCpV σ 1560 (tn t) (tn q) (tn a) (tn b) ∧ WH (mCpV σ 1560 (tn t) (tn q) (tn a) (tn b)) 65535 := by
    unfold cmpV
    by_cases e : tn q = 2 ∧ tn a = tn b
    · rw [cmpU_t e, mCpV_t e, e.1, e.2]
      refine ⟨?_, WH_0 (by decide)⟩
      unfold calq
      rw [if_neg (by decide), if_neg (by decide), if_pos rfl]
      exact xor_self _
    · have L := RP_use H a1 a3 a4
      have ca := RP_r L (show tn t * 4 + tn a < 16 by omega)
      have cb := RP_r L (show tn t * 4 + tn b < 16 by omega)
      rw [cmpU_f e, mCpV_f e, rgt_eq, rgt_eq, ca.1, cb.1]
      obtain ⟨e1, l1⟩ := ca.2.2.1
      obtain ⟨e2, l2⟩ := cb.2.2.1
      rw [e1, e2]
      exact res_n a5 (by omega) (by omega)
  unfold OpR s_cmp r_cmp mCmpR mCmpS stp cmpOk
  rw [hs, ht, hc, ha, hb, hq, eD, eV.1, rgt_eq]
  cases h : bz (ν 11 (tn t))
  · cases h2 : cmpD ν (tn t) (tn q) (tn a) (tn b)
    · refine ⟨?_, ?_, ?_⟩ <;> (try simp only [↓reduceIte, Bool.false_eq_true, bI_true, bI_false, Bool.true_and, Bool.and_true, Bool.and_false, Bool.false_and, Bool.not_true, Bool.not_false, Bool.or_true, Bool.true_or, Bool.or_false, Bool.false_or, Bool.and_self])
      · exact K
      · exact fun q => absurd q (by decide)
    · refine ⟨?_, ?_, ?_⟩ <;> (try simp only [↓reduceIte, Bool.false_eq_true, bI_true, bI_false, Bool.true_and, Bool.and_true, Bool.and_false, Bool.false_and, Bool.not_true, Bool.not_false, Bool.or_true, Bool.true_or, Bool.or_false, Bool.false_or, Bool.and_self])
      · exact RP_cleanR K (by omega) eV.2
      · exact fun q => absurd q (by rw [nErr eV.2 (by decide)]; decide)
  · refine ⟨?_, ?_, ?_⟩ <;> (try simp only [↓reduceIte, Bool.false_eq_true, bI_true, bI_false, Bool.true_and, Bool.and_true, Bool.and_false, Bool.false_and, Bool.not_true, Bool.not_false, Bool.or_true, Bool.true_or, Bool.or_false, Bool.false_or, Bool.and_self]) <;> first | exact H | exact fun _ => trivial | exact fun _ => rfl
theorem op_inj {x : Int32} (H : RP τ ν σ) (hx : iN x 32 = true) : OpR τ ν (s_inj ν x) (r_inj ν x) (mInjR σ 1560) (mInjS σ 1560 (tn x)) := by
  have a1 := iN_lt hx (by decide)
  have c := H.1.2.2.2.2.1
  unfold OpR s_inj r_inj mInjR mInjS
  rw [hx, if_pos rfl, if_pos rfl, c.1]
  have l2 := c.2.2
  by_cases e : tn (ν 15 0) = 20
  · rw [if_pos e, if_pos e, if_pos (by omega), if_pos (by omega)]
    exact ⟨rfl, H, fun _ => rfl⟩
  · rw [if_neg e, if_neg e, if_neg (by omega), if_neg (by omega)]
    exact ⟨rfl, RP_inj H a1 (by omega), fun q => absurd q (by rw [nErrN (by omega)]; decide)⟩
/-! the letters of a text -/
theorem iN_n {k n : Nat} (h : k < n) (hn : n < 2 ^ 31) : iN (nI k) n = true := by rw [iN_nI (by omega) hn]; exact decide_eq_true h
theorem op_does {le : Nat} {nu : Nat → Nat} (H : RP τ ν σ) (hl : letOk le nu) : OpR τ ν (pfS ν le nu) (pfR ν le nu) (doR σ 1560 le nu) (doS σ 1560 le nu) := by
  rcases hl with ⟨e, h0, h1, h2⟩ | ⟨e, h0, h1, h2⟩ | ⟨e, h0, h1, h2⟩ | ⟨e, h0, h1, h2, h3, h4⟩ | ⟨e, h0, h1⟩ | ⟨e, h0⟩ | ⟨e, h0, h1, h2⟩ <;> subst e
  · have K := op_ld H (iN_n h0 (by decide)) (iN_n h1 (by decide)) (iN_n h2 (by decide))
    rw [tn_nI (by omega), tn_nI (by omega), tn_nI (by omega)] at K
    exact K
  · have K := op_sto H (iN_n h0 (by decide)) (iN_n h1 (by decide)) (iN_n h2 (by decide))
    rw [tn_nI (by omega), tn_nI (by omega), tn_nI (by omega)] at K
    exact K
  · have K := op_mov H (iN_n h0 (by decide)) (iN_n h1 (by decide)) (iN_n h2 (by decide))
    rw [tn_nI (by omega), tn_nI (by omega), tn_nI (by omega)] at K
    exact K
  · have K := op_cmp H (iN_n h0 (by decide)) (iN_n h2 (by decide)) (iN_n h3 (by decide)) (iN_n h4 (by decide)) (iN_n h1 (by decide))
    rw [tn_nI (show nu 0 < 2 ^ 31 by omega), tn_nI (show nu 1 < 2 ^ 31 by omega), tn_nI (show nu 2 < 2 ^ 31 by omega), tn_nI (show nu 3 < 2 ^ 31 by omega), tn_nI (show nu 4 < 2 ^ 31 by omega)] at K
    exact K
  · have K := op_out H (iN_n h0 (by decide)) (iN_n h1 (by decide))
    rw [tn_nI (by omega), tn_nI (by omega)] at K
    exact K
  · have K := op_inj H (iN_n h0 (by decide))
    rw [tn_nI (by omega)] at K
    exact K
  · have K := op_giv H (iN_n h0 (by decide)) (iN_n h1 (by decide)) (iN_n h2 (by decide))
    rw [tn_nI (show nu 0 < 2 ^ 31 by omega), tn_nI (show nu 1 < 2 ^ 31 by omega), tn_nI (show nu 2 < 2 ^ 31 by omega)] at K
    exact K
end ACT
