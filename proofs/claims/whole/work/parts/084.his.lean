/-! history: what is taken over -/
theorem mCpN_v {σ : MS} {f t : Nat} (hft : f ≠ t) : ∀ (n j : Nat), n ≤ 312 → mCpN σ f t n j = if 312 * t ≤ j ∧ j < 312 * t + n then σ (312 * f + (j - 312 * t)) else σ j
  | 0, j, _ => by rw [if_neg (by omega)]; rfl
  | n + 1, j, h => by
    show upd (mCpN σ f t n) (312 * t + n) (mCpN σ f t n (312 * f + n)) j = _
    by_cases e : j = 312 * t + n
    · rw [e, upd_s, mCpN_v hft n _ (by omega), if_neg (by omega), if_pos (by omega), Nat.add_sub_cancel_left]
    · rw [upd_o e, mCpN_v hft n _ (by omega)]
      by_cases c : 312 * t ≤ j ∧ j < 312 * t + n
      · rw [if_pos c, if_pos (by omega)]
      · rw [if_neg c, if_neg (by omega)]
theorem mCp_in {σ : MS} {f t j k : Nat} (hft : f ≠ t) (hj : j < 312) (hk : k = 312 * t + j) : mCp σ f t k = σ (312 * f + j) := by
  subst hk
  unfold mCp
  rw [mCpN_v hft 312 _ (Nat.le_refl 312), if_pos (by omega), Nat.add_sub_cancel_left]
theorem mCp_out {σ : MS} {f t k : Nat} (hft : f ≠ t) (hk : k < 312 * t ∨ 312 * t + 312 ≤ k) : mCp σ f t k = σ k := by
  unfold mCp
  rw [mCpN_v hft 312 _ (Nat.le_refl 312), if_neg (by omega)]
def HR (od ct : Nat) (π : Nat → NS) (σ : MS) : Prop := ∀ i : Nat, i < ct → Pic (312 * (i + 1)) (π ((od + i) % 5)) σ
def SR (ν : NS) (od ct : Nat) (π : Nat → NS) (σ : MS) : Prop := Pic 0 ν σ ∧ HR od ct π σ ∧ od < 5 ∧ ct ≤ 4
theorem RP_begin {ν : NS} {σ : MS} (H : Pic 0 ν σ) : RP σ ν (mCp σ 0 5) := by
  refine ⟨Pic_at (b := 0) H (fun j hj => ?_), fun j hj => mCp_out (by decide) (by omega)⟩
  rw [mCp_in (f := 0) (t := 5) (j := j) (by decide) hj (by omega)]
theorem updP_o {π : Nat → NS} {k j : Nat} {ν : NS} (h : j ≠ k) : updP π k ν j = π j := by unfold updP; rw [if_neg h]
theorem updP_e {π : Nat → NS} {k j : Nat} {ν : NS} (h : j = k) : updP π k ν j = ν := by unfold updP; rw [if_pos h]
/-- what was there before is still there -/
theorem HR_hold {od ct : Nat} {π : Nat → NS} {ν : NS} {σ : MS} (H : HR od ct π σ) (hct : ct ≤ 4) : HR od ct (updP π ((od + ct) % 5) ν) σ := by
  intro i hi
  rw [updP_o (by omega)]
  exact H i hi
theorem acc_0 {S : MS} {n j : Nat} (hn : n ≤ 4) (hj : j < 312) : mCp (mCp (mShf S n) 0 (nInc n)) 5 0 (0 + j) = S (1560 + j) := by
  have h1 : 1 ≤ nInc n ∧ nInc n ≤ 4 := by unfold nInc; split <;> omega
  rw [mCp_in (f := 5) (t := 0) (j := j) (by decide) hj (by omega), mCp_out (by omega) (by omega)]
  unfold mShf
  split
  · rw [mCp_out (by decide) (by omega), mCp_out (by decide) (by omega), mCp_out (by decide) (by omega)]
  · rfl
theorem SR_keep {ν ν' : NS} {od ct : Nat} {π : Nat → NS} {σ S : MS} (H : SR ν od ct π σ) (K : RP σ ν' S) : SR ν' (keepO od ct) (keepC ct) (updP π ((od + ct) % 5) ν) (mCp (mCp (mShf S ct) 0 (nInc ct)) 5 0) := by
  obtain ⟨h1, h2, h3, h4⟩ := H
  refine ⟨Pic_at (b := 1560) K.1 (fun j hj => acc_0 h4 hj), ?_, ?_, ?_⟩
  · by_cases c : ct < 4
    · have eo : keepO od ct = od := by unfold keepO; rw [if_pos c]
      have ec : keepC ct = ct + 1 := by unfold keepC; rw [if_pos c]
      have en : nInc ct = ct + 1 := by unfold nInc; rw [if_pos c]
      have es : mShf S ct = S := by unfold mShf; rw [if_neg (by omega)]
      rw [eo, ec, en, es]
      intro i hi
      by_cases e : i = ct
      · rw [updP_e (by rw [e])]
        refine Pic_at (b := 0) h1 (fun j hj => ?_)
        rw [mCp_out (by decide) (by omega), mCp_in (f := 0) (t := ct + 1) (j := j) (by omega) hj (by rw [e]), K.2 _ (by omega)]
      · rw [updP_o (by omega)]
        refine Pic_at (b := 312 * (i + 1)) (h2 i (by omega)) (fun j hj => ?_)
        rw [mCp_out (by decide) (by omega), mCp_out (by omega) (by omega), K.2 _ (by omega)]
    · have e4 : ct = 4 := by omega
      subst e4
      have es : mShf S 4 = mCp (mCp (mCp S 2 1) 3 2) 4 3 := rfl
      have en : nInc 4 = 4 := rfl
      have eo : keepO od 4 = (od + 1) % 5 := rfl
      have ec : keepC 4 = 4 := rfl
      rw [es, en, eo, ec]
      intro i hi
      have sh : ∀ k j : Nat, 1 ≤ k → k ≤ 3 → j < 312 → mCp (mCp (mCp S 2 1) 3 2) 4 3 (312 * k + j) = S (312 * (k + 1) + j) := by
        intro k j k1 k3 hj
        rcases (show k = 1 ∨ k = 2 ∨ k = 3 by omega) with e | e | e
        · subst e
          rw [mCp_out (by decide) (by omega), mCp_out (by decide) (by omega), mCp_in (f := 2) (t := 1) (j := j) (by decide) hj rfl]
        · subst e
          rw [mCp_out (by decide) (by omega), mCp_in (f := 3) (t := 2) (j := j) (by decide) hj rfl, mCp_out (by decide) (by omega)]
        · subst e
          rw [mCp_in (f := 4) (t := 3) (j := j) (by decide) hj rfl, mCp_out (by decide) (by omega), mCp_out (by decide) (by omega)]
      by_cases e : i = 3
      · rw [updP_e (by omega)]
        refine Pic_at (b := 0) h1 (fun j hj => ?_)
        rw [mCp_out (by decide) (by omega), mCp_in (f := 0) (t := 4) (j := j) (by decide) hj (by omega), mCp_out (by decide) (by omega), mCp_out (by decide) (by omega), mCp_out (by decide) (by omega), K.2 _ (by omega)]
      · rw [updP_o (by omega), show ((od + 1) % 5 + i) % 5 = (od + (i + 1)) % 5 from by omega]
        refine Pic_at (b := 312 * (i + 1 + 1)) (h2 (i + 1) (by omega)) (fun j hj => ?_)
        rw [mCp_out (by decide) (by omega), mCp_out (by decide) (by omega), sh (i + 1) j (by omega) (by omega) hj, K.2 _ (by omega)]
  · unfold keepO; split <;> omega
  · unfold keepC; split <;> omega
def ActR (σ : MS) (ν ν' : NS) (r a : Int32) (v : Bool) (R : Int32) (S : MS) : Prop := (v = true → OpR σ ν ν' r R S) ∧ (v = false → isErr r = true ∧ ν' = ν) ∧ r = a
theorem SR_below {ν : NS} {od ct : Nat} {π : Nat → NS} {σ S : MS} (H : SR ν od ct π σ) (h : ∀ j : Nat, j < 1560 → S j = σ j) : SR ν od ct π S := by
  obtain ⟨h1, h2, h3, h4⟩ := H
  refine ⟨Pic_at (b := 0) h1 (fun j hj => h _ (by omega)), fun i hi => ?_, h3, h4⟩
  exact Pic_at (b := 312 * (i + 1)) (h2 i hi) (fun j hj => h _ (by omega))
theorem SR_hold {ν : NS} {od ct : Nat} {π : Nat → NS} {σ : MS} (H : SR ν od ct π σ) : SR ν od ct (updP π ((od + ct) % 5) ν) σ := ⟨H.1, HR_hold H.2.1 H.2.2.2, H.2.2.1, H.2.2.2⟩
theorem act_done {ν ν' : NS} {od ct : Nat} {π : Nat → NS} {σ S : MS} {r a R : Int32} {v : Bool} (H : SR ν od ct π σ) (K : ActR σ ν ν' r a v R S) : SR ν' (setO r od ct) (setC r ct) (updP π ((od + ct) % 5) ν) (mAS v S ct R σ) ∧ setC r ct = mAN v ct R ∧ r = a := by
  obtain ⟨k1, k2, k3⟩ := K
  cases hv : v with
  | false =>
    obtain ⟨he, hn⟩ := k2 hv
    refine ⟨?_, ?_, k3⟩
    · unfold setO setC mAS
      rw [if_pos he, if_pos he, hn, if_neg (by decide)]
      exact SR_hold H
    · unfold setC mAN
      rw [if_pos he, if_neg (by decide)]
  | true =>
    obtain ⟨e, hp, hi⟩ := k1 hv
    cases he : isErr R with
    | false =>
      refine ⟨?_, ?_, k3⟩
      · unfold setO setC mAS mAcc
        rw [e, he, if_neg (by decide), if_neg (by decide), if_pos rfl, if_neg (by decide)]
        exact SR_keep H hp
      · unfold setC mAN nAcc
        rw [e, he, if_neg (by decide), if_pos rfl, if_neg (by decide)]
        rfl
    | true =>
      have hn := hi he
      refine ⟨?_, ?_, k3⟩
      · unfold setO setC mAS mAcc
        rw [e, he, if_pos rfl, if_pos rfl, if_pos rfl, if_pos rfl, hn]
        exact SR_below (SR_hold H) hp.2
      · unfold setC mAN nAcc
        rw [e, he, if_pos rfl, if_pos rfl, if_pos rfl]
/-- undo -/
theorem undo_done {ν : NS} {od ct : Nat} {π : Nat → NS} {σ : MS} (H : SR ν od ct π σ) : SR (if ct = 0 then ν else π ((od + (ct - 1)) % 5)) od (ct - 1) π (if ct = 0 then σ else mCp σ ct 0) := by
  obtain ⟨h1, h2, h3, h4⟩ := H
  by_cases c : ct = 0
  · rw [if_pos c, if_pos c]
    exact ⟨h1, fun i hi => h2 i (by omega), h3, by omega⟩
  · rw [if_neg c, if_neg c]
    refine ⟨?_, fun i hi => ?_, h3, by omega⟩
    · refine Pic_at (b := 312 * (ct - 1 + 1)) (h2 (ct - 1) (by omega)) (fun j hj => ?_)
      rw [mCp_in (f := ct) (t := 0) (j := j) c hj (by omega), show ct - 1 + 1 = ct from by omega]
    · refine Pic_at (b := 312 * (i + 1)) (h2 i (by omega)) (fun j hj => ?_)
      rw [mCp_out c (by omega)]
section ACTS
variable {σ : MS} {ν : NS}
theorem eF {p : Prop} (h : false = true) : p := by cases h
theorem eT {p : Prop} (h : true = false) : p := by cases h
theorem A_inj {x : Int32} (H : RP σ ν (mCp σ 0 5)) : ActR σ ν (s_inj ν x) (r_inj ν x) (if iN x 32 then mInjR (mCp σ 0 5) 1560 else -1) (iN x 32) (mInjR (mCp σ 0 5) 1560) (mInjS (mCp σ 0 5) 1560 (tn x)) := by
  by_cases hv : (iN x 32) = true
  · have hv2 := hv
    have h0 := hv2
    have K := op_inj H h0
    refine ⟨fun _ => K, fun q => absurd (hv.symm.trans q) (by decide), K.1.trans ?_⟩
    rw [h0]
    simp only [↓reduceIte, Bool.false_eq_true, bI_true, bI_false, Bool.true_and, Bool.and_true, Bool.and_false, Bool.false_and, Bool.not_true, Bool.not_false, Bool.or_true, Bool.true_or, Bool.or_false, Bool.false_or, Bool.and_self]
  · refine ⟨fun q => absurd q hv, fun _ => ?_, ?_⟩
    · unfold s_inj r_inj
      refine ⟨?_, ?_⟩
      · cases h0 : iN x 32 <;> first | (simp only [↓reduceIte, Bool.false_eq_true, bI_true, bI_false, Bool.true_and, Bool.and_true, Bool.and_false, Bool.false_and, Bool.not_true, Bool.not_false, Bool.or_true, Bool.true_or, Bool.or_false, Bool.false_or, Bool.and_self]; decide) | (exact absurd h0 hv)
      · cases h0 : iN x 32 <;> first | (simp only [↓reduceIte, Bool.false_eq_true, bI_true, bI_false, Bool.true_and, Bool.and_true, Bool.and_false, Bool.false_and, Bool.not_true, Bool.not_false, Bool.or_true, Bool.true_or, Bool.or_false, Bool.false_or, Bool.and_self]; done) | (exact absurd h0 hv)
    · unfold r_inj
      cases h0 : iN x 32 <;> first | (simp only [↓reduceIte, Bool.false_eq_true, bI_true, bI_false, Bool.true_and, Bool.and_true, Bool.and_false, Bool.false_and, Bool.not_true, Bool.not_false, Bool.or_true, Bool.true_or, Bool.or_false, Bool.false_or, Bool.and_self]; done) | (exact absurd h0 hv)
theorem A_scr {x : Int32} (H : RP σ ν (mCp σ 0 5)) : ActR σ ν (s_scr ν x) (r_scr ν x) (if iN x 8 then mScrC (mCp σ 0 5) 1560 (tn x) else -1) (iN x 8) (mScrC (mCp σ 0 5) 1560 (tn x)) (mScr (mCp σ 0 5) 1560 (tn x)) := by
  by_cases hv : (iN x 8) = true
  · have hv2 := hv
    have h0 := hv2
    have K := op_scr H h0
    refine ⟨fun _ => K, fun q => absurd (hv.symm.trans q) (by decide), K.1.trans ?_⟩
    rw [h0]
    simp only [↓reduceIte, Bool.false_eq_true, bI_true, bI_false, Bool.true_and, Bool.and_true, Bool.and_false, Bool.false_and, Bool.not_true, Bool.not_false, Bool.or_true, Bool.true_or, Bool.or_false, Bool.false_or, Bool.and_self]
  · refine ⟨fun q => absurd q hv, fun _ => ?_, ?_⟩
    · unfold s_scr r_scr
      refine ⟨?_, ?_⟩
      · cases h0 : iN x 8 <;> first | (simp only [↓reduceIte, Bool.false_eq_true, bI_true, bI_false, Bool.true_and, Bool.and_true, Bool.and_false, Bool.false_and, Bool.not_true, Bool.not_false, Bool.or_true, Bool.true_or, Bool.or_false, Bool.false_or, Bool.and_self]; decide) | (exact absurd h0 hv)
      · cases h0 : iN x 8 <;> first | (simp only [↓reduceIte, Bool.false_eq_true, bI_true, bI_false, Bool.true_and, Bool.and_true, Bool.and_false, Bool.false_and, Bool.not_true, Bool.not_false, Bool.or_true, Bool.true_or, Bool.or_false, Bool.false_or, Bool.and_self]; done) | (exact absurd h0 hv)
    · unfold r_scr
      cases h0 : iN x 8 <;> first | (simp only [↓reduceIte, Bool.false_eq_true, bI_true, bI_false, Bool.true_and, Bool.and_true, Bool.and_false, Bool.false_and, Bool.not_true, Bool.not_false, Bool.or_true, Bool.true_or, Bool.or_false, Bool.false_or, Bool.and_self]; done) | (exact absurd h0 hv)
theorem A_mod {t m : Int32} (H : RP σ ν (mCp σ 0 5)) : ActR σ ν (s_mod ν t m) (r_mod ν t m) (if iN t 4 then (if iN m 3 then mCp σ 0 5 (1560 + 248 + tn t) else -2) else -1) (iN t 4 && iN m 3) (mCp σ 0 5 (1560 + 248 + tn t)) (upd (mCp σ 0 5) (1560 + 248 + tn t) (nI (tn m))) := by
  by_cases hv : (iN t 4 && iN m 3) = true
  · have hv2 := hv
    simp only [Bool.and_eq_true] at hv2
    obtain ⟨h0, h1⟩ := hv2
    have K := op_mod H h0 h1
    refine ⟨fun _ => K, fun q => absurd (hv.symm.trans q) (by decide), K.1.trans ?_⟩
    rw [h0, h1]
    simp only [↓reduceIte, Bool.false_eq_true, bI_true, bI_false, Bool.true_and, Bool.and_true, Bool.and_false, Bool.false_and, Bool.not_true, Bool.not_false, Bool.or_true, Bool.true_or, Bool.or_false, Bool.false_or, Bool.and_self]
  · refine ⟨fun q => absurd q hv, fun _ => ?_, ?_⟩
    · unfold s_mod r_mod
      refine ⟨?_, ?_⟩
      · cases h0 : iN t 4 <;> cases h1 : iN m 3 <;> first | (simp only [↓reduceIte, Bool.false_eq_true, bI_true, bI_false, Bool.true_and, Bool.and_true, Bool.and_false, Bool.false_and, Bool.not_true, Bool.not_false, Bool.or_true, Bool.true_or, Bool.or_false, Bool.false_or, Bool.and_self]; decide) | (exact absurd (by rw [h0, h1]; rfl) hv)
      · cases h0 : iN t 4 <;> cases h1 : iN m 3 <;> first | (simp only [↓reduceIte, Bool.false_eq_true, bI_true, bI_false, Bool.true_and, Bool.and_true, Bool.and_false, Bool.false_and, Bool.not_true, Bool.not_false, Bool.or_true, Bool.true_or, Bool.or_false, Bool.false_or, Bool.and_self]; done) | (exact absurd (by rw [h0, h1]; rfl) hv)
    · unfold r_mod
      cases h0 : iN t 4 <;> cases h1 : iN m 3 <;> first | (simp only [↓reduceIte, Bool.false_eq_true, bI_true, bI_false, Bool.true_and, Bool.and_true, Bool.and_false, Bool.false_and, Bool.not_true, Bool.not_false, Bool.or_true, Bool.true_or, Bool.or_false, Bool.false_or, Bool.and_self]; done) | (exact absurd (by rw [h0, h1]; rfl) hv)
theorem A_res {t : Int32} (H : RP σ ν (mCp σ 0 5)) : ActR σ ν (s_res ν t) (r_res ν t) (if iN t 4 then sumI (resG (mCp σ 0 5) 1560 (tn t)) 4 else -1) (iN t 4) (sumI (resG (mCp σ 0 5) 1560 (tn t)) 4) (upd (resM (mCp σ 0 5) 1560 (tn t) 4) (1560 + 252 + tn t) (nI 0)) := by
  by_cases hv : (iN t 4) = true
  · have hv2 := hv
    have h0 := hv2
    have K := op_res H h0
    refine ⟨fun _ => K, fun q => absurd (hv.symm.trans q) (by decide), K.1.trans ?_⟩
    rw [h0]
    simp only [↓reduceIte, Bool.false_eq_true, bI_true, bI_false, Bool.true_and, Bool.and_true, Bool.and_false, Bool.false_and, Bool.not_true, Bool.not_false, Bool.or_true, Bool.true_or, Bool.or_false, Bool.false_or, Bool.and_self]
  · refine ⟨fun q => absurd q hv, fun _ => ?_, ?_⟩
    · unfold s_res r_res
      refine ⟨?_, ?_⟩
      · cases h0 : iN t 4 <;> first | (simp only [↓reduceIte, Bool.false_eq_true, bI_true, bI_false, Bool.true_and, Bool.and_true, Bool.and_false, Bool.false_and, Bool.not_true, Bool.not_false, Bool.or_true, Bool.true_or, Bool.or_false, Bool.false_or, Bool.and_self]; decide) | (exact absurd h0 hv)
      · cases h0 : iN t 4 <;> first | (simp only [↓reduceIte, Bool.false_eq_true, bI_true, bI_false, Bool.true_and, Bool.and_true, Bool.and_false, Bool.false_and, Bool.not_true, Bool.not_false, Bool.or_true, Bool.true_or, Bool.or_false, Bool.false_or, Bool.and_self]; done) | (exact absurd h0 hv)
    · unfold r_res
      cases h0 : iN t 4 <;> first | (simp only [↓reduceIte, Bool.false_eq_true, bI_true, bI_false, Bool.true_and, Bool.and_true, Bool.and_false, Bool.false_and, Bool.not_true, Bool.not_false, Bool.or_true, Bool.true_or, Bool.or_false, Bool.false_or, Bool.and_self]; done) | (exact absurd h0 hv)
theorem A_giv {t r x : Int32} (H : RP σ ν (mCp σ 0 5)) : ActR σ ν (s_giv ν t r x) (r_giv ν t r x) (if iN t 4 && iN r 4 then (if iN x 65536 then mSetR (mCp σ 0 5) 1560 (tn t) (tn r) else -2) else -1) (iN t 4 && (iN r 4 && iN x 65536)) (mSetR (mCp σ 0 5) 1560 (tn t) (tn r)) (mSetS (mCp σ 0 5) 1560 (tn t) (tn r) (nI (tn x))) := by
  by_cases hv : (iN t 4 && (iN r 4 && iN x 65536)) = true
  · have hv2 := hv
    simp only [Bool.and_eq_true] at hv2
    obtain ⟨h0, h1, h2⟩ := hv2
    have K := op_giv H h0 h1 h2
    refine ⟨fun _ => K, fun q => absurd (hv.symm.trans q) (by decide), K.1.trans ?_⟩
    rw [h0, h1, h2]
    simp only [↓reduceIte, Bool.false_eq_true, bI_true, bI_false, Bool.true_and, Bool.and_true, Bool.and_false, Bool.false_and, Bool.not_true, Bool.not_false, Bool.or_true, Bool.true_or, Bool.or_false, Bool.false_or, Bool.and_self]
  · refine ⟨fun q => absurd q hv, fun _ => ?_, ?_⟩
    · unfold s_giv r_giv
      refine ⟨?_, ?_⟩
      · cases h0 : iN t 4 <;> cases h1 : iN r 4 <;> cases h2 : iN x 65536 <;> first | (simp only [↓reduceIte, Bool.false_eq_true, bI_true, bI_false, Bool.true_and, Bool.and_true, Bool.and_false, Bool.false_and, Bool.not_true, Bool.not_false, Bool.or_true, Bool.true_or, Bool.or_false, Bool.false_or, Bool.and_self]; decide) | (exact absurd (by rw [h0, h1, h2]; rfl) hv)
      · cases h0 : iN t 4 <;> cases h1 : iN r 4 <;> cases h2 : iN x 65536 <;> first | (simp only [↓reduceIte, Bool.false_eq_true, bI_true, bI_false, Bool.true_and, Bool.and_true, Bool.and_false, Bool.false_and, Bool.not_true, Bool.not_false, Bool.or_true, Bool.true_or, Bool.or_false, Bool.false_or, Bool.and_self]; done) | (exact absurd (by rw [h0, h1, h2]; rfl) hv)
    · unfold r_giv
      cases h0 : iN t 4 <;> cases h1 : iN r 4 <;> cases h2 : iN x 65536 <;> first | (simp only [↓reduceIte, Bool.false_eq_true, bI_true, bI_false, Bool.true_and, Bool.and_true, Bool.and_false, Bool.false_and, Bool.not_true, Bool.not_false, Bool.or_true, Bool.true_or, Bool.or_false, Bool.false_or, Bool.and_self]; done) | (exact absurd (by rw [h0, h1, h2]; rfl) hv)
theorem A_ld {t r w : Int32} (H : RP σ ν (mCp σ 0 5)) : ActR σ ν (s_ld ν t r w) (r_ld ν t r w) (if iN t 4 && (iN r 4 && iN w 32) then mLdR (mCp σ 0 5) 1560 (tn t) (tn w) else -1) (iN t 4 && (iN r 4 && iN w 32)) (mLdR (mCp σ 0 5) 1560 (tn t) (tn w)) (mLdS (mCp σ 0 5) 1560 (tn t) (tn r) (tn w)) := by
  by_cases hv : (iN t 4 && (iN r 4 && iN w 32)) = true
  · have hv2 := hv
    simp only [Bool.and_eq_true] at hv2
    obtain ⟨h0, h1, h2⟩ := hv2
    have K := op_ld H h0 h1 h2
    refine ⟨fun _ => K, fun q => absurd (hv.symm.trans q) (by decide), K.1.trans ?_⟩
    rw [h0, h1, h2]
    simp only [↓reduceIte, Bool.false_eq_true, bI_true, bI_false, Bool.true_and, Bool.and_true, Bool.and_false, Bool.false_and, Bool.not_true, Bool.not_false, Bool.or_true, Bool.true_or, Bool.or_false, Bool.false_or, Bool.and_self]
  · refine ⟨fun q => absurd q hv, fun _ => ?_, ?_⟩
    · unfold s_ld r_ld
      refine ⟨?_, ?_⟩
      · cases h0 : iN t 4 <;> cases h1 : iN r 4 <;> cases h2 : iN w 32 <;> first | (simp only [↓reduceIte, Bool.false_eq_true, bI_true, bI_false, Bool.true_and, Bool.and_true, Bool.and_false, Bool.false_and, Bool.not_true, Bool.not_false, Bool.or_true, Bool.true_or, Bool.or_false, Bool.false_or, Bool.and_self]; decide) | (exact absurd (by rw [h0, h1, h2]; rfl) hv)
      · cases h0 : iN t 4 <;> cases h1 : iN r 4 <;> cases h2 : iN w 32 <;> first | (simp only [↓reduceIte, Bool.false_eq_true, bI_true, bI_false, Bool.true_and, Bool.and_true, Bool.and_false, Bool.false_and, Bool.not_true, Bool.not_false, Bool.or_true, Bool.true_or, Bool.or_false, Bool.false_or, Bool.and_self]; done) | (exact absurd (by rw [h0, h1, h2]; rfl) hv)
    · unfold r_ld
      cases h0 : iN t 4 <;> cases h1 : iN r 4 <;> cases h2 : iN w 32 <;> first | (simp only [↓reduceIte, Bool.false_eq_true, bI_true, bI_false, Bool.true_and, Bool.and_true, Bool.and_false, Bool.false_and, Bool.not_true, Bool.not_false, Bool.or_true, Bool.true_or, Bool.or_false, Bool.false_or, Bool.and_self]; done) | (exact absurd (by rw [h0, h1, h2]; rfl) hv)
theorem A_ldb {t r w q : Int32} (H : RP σ ν (mCp σ 0 5)) : ActR σ ν (s_ldb ν t r w q) (r_ldb ν t r w q) (if iN t 4 && (iN r 4 && iN w 32) then (if iN q 2 then mLbR (mCp σ 0 5) 1560 (tn t) (tn w) (tn q) else -2) else -1) (iN t 4 && (iN r 4 && (iN w 32 && iN q 2))) (mLbR (mCp σ 0 5) 1560 (tn t) (tn w) (tn q)) (mLbS (mCp σ 0 5) 1560 (tn t) (tn r) (tn w) (tn q)) := by
  by_cases hv : (iN t 4 && (iN r 4 && (iN w 32 && iN q 2))) = true
  · have hv2 := hv
    simp only [Bool.and_eq_true] at hv2
    obtain ⟨h0, h1, h2, h3⟩ := hv2
    have K := op_ldb H h0 h1 h2 h3
    refine ⟨fun _ => K, fun q => absurd (hv.symm.trans q) (by decide), K.1.trans ?_⟩
    rw [h0, h1, h2, h3]
    simp only [↓reduceIte, Bool.false_eq_true, bI_true, bI_false, Bool.true_and, Bool.and_true, Bool.and_false, Bool.false_and, Bool.not_true, Bool.not_false, Bool.or_true, Bool.true_or, Bool.or_false, Bool.false_or, Bool.and_self]
  · refine ⟨fun q => absurd q hv, fun _ => ?_, ?_⟩
    · unfold s_ldb r_ldb
      refine ⟨?_, ?_⟩
      · cases h0 : iN t 4 <;> cases h1 : iN r 4 <;> cases h2 : iN w 32 <;> cases h3 : iN q 2 <;> first | (simp only [↓reduceIte, Bool.false_eq_true, bI_true, bI_false, Bool.true_and, Bool.and_true, Bool.and_false, Bool.false_and, Bool.not_true, Bool.not_false, Bool.or_true, Bool.true_or, Bool.or_false, Bool.false_or, Bool.and_self]; decide) | (exact absurd (by rw [h0, h1, h2, h3]; rfl) hv)
      · cases h0 : iN t 4 <;> cases h1 : iN r 4 <;> cases h2 : iN w 32 <;> cases h3 : iN q 2 <;> first | (simp only [↓reduceIte, Bool.false_eq_true, bI_true, bI_false, Bool.true_and, Bool.and_true, Bool.and_false, Bool.false_and, Bool.not_true, Bool.not_false, Bool.or_true, Bool.true_or, Bool.or_false, Bool.false_or, Bool.and_self]; done) | (exact absurd (by rw [h0, h1, h2, h3]; rfl) hv)
    · unfold r_ldb
      cases h0 : iN t 4 <;> cases h1 : iN r 4 <;> cases h2 : iN w 32 <;> cases h3 : iN q 2 <;> first | (simp only [↓reduceIte, Bool.false_eq_true, bI_true, bI_false, Bool.true_and, Bool.and_true, Bool.and_false, Bool.false_and, Bool.not_true, Bool.not_false, Bool.or_true, Bool.true_or, Bool.or_false, Bool.false_or, Bool.and_self]; done) | (exact absurd (by rw [h0, h1, h2, h3]; rfl) hv)
theorem A_sto {t r w : Int32} (H : RP σ ν (mCp σ 0 5)) : ActR σ ν (s_sto ν t r w) (r_sto ν t r w) (if iN t 4 && (iN r 4 && iN w 32) then mStoR (mCp σ 0 5) 1560 (tn t) (tn r) (tn w) else -1) (iN t 4 && (iN r 4 && iN w 32)) (mStoR (mCp σ 0 5) 1560 (tn t) (tn r) (tn w)) (mStoS (mCp σ 0 5) 1560 (tn t) (tn r) (tn w)) := by
  by_cases hv : (iN t 4 && (iN r 4 && iN w 32)) = true
  · have hv2 := hv
    simp only [Bool.and_eq_true] at hv2
    obtain ⟨h0, h1, h2⟩ := hv2
    have K := op_sto H h0 h1 h2
    refine ⟨fun _ => K, fun q => absurd (hv.symm.trans q) (by decide), K.1.trans ?_⟩
    rw [h0, h1, h2]
    simp only [↓reduceIte, Bool.false_eq_true, bI_true, bI_false, Bool.true_and, Bool.and_true, Bool.and_false, Bool.false_and, Bool.not_true, Bool.not_false, Bool.or_true, Bool.true_or, Bool.or_false, Bool.false_or, Bool.and_self]
  · refine ⟨fun q => absurd q hv, fun _ => ?_, ?_⟩
    · unfold s_sto r_sto
      refine ⟨?_, ?_⟩
      · cases h0 : iN t 4 <;> cases h1 : iN r 4 <;> cases h2 : iN w 32 <;> first | (simp only [↓reduceIte, Bool.false_eq_true, bI_true, bI_false, Bool.true_and, Bool.and_true, Bool.and_false, Bool.false_and, Bool.not_true, Bool.not_false, Bool.or_true, Bool.true_or, Bool.or_false, Bool.false_or, Bool.and_self]; decide) | (exact absurd (by rw [h0, h1, h2]; rfl) hv)
      · cases h0 : iN t 4 <;> cases h1 : iN r 4 <;> cases h2 : iN w 32 <;> first | (simp only [↓reduceIte, Bool.false_eq_true, bI_true, bI_false, Bool.true_and, Bool.and_true, Bool.and_false, Bool.false_and, Bool.not_true, Bool.not_false, Bool.or_true, Bool.true_or, Bool.or_false, Bool.false_or, Bool.and_self]; done) | (exact absurd (by rw [h0, h1, h2]; rfl) hv)
    · unfold r_sto
      cases h0 : iN t 4 <;> cases h1 : iN r 4 <;> cases h2 : iN w 32 <;> first | (simp only [↓reduceIte, Bool.false_eq_true, bI_true, bI_false, Bool.true_and, Bool.and_true, Bool.and_false, Bool.false_and, Bool.not_true, Bool.not_false, Bool.or_true, Bool.true_or, Bool.or_false, Bool.false_or, Bool.and_self]; done) | (exact absurd (by rw [h0, h1, h2]; rfl) hv)
theorem A_stb {t r w q : Int32} (H : RP σ ν (mCp σ 0 5)) : ActR σ ν (s_stb ν t r w q) (r_stb ν t r w q) (if iN t 4 && (iN r 4 && iN w 32) then (if iN q 2 then mStbR (mCp σ 0 5) 1560 (tn t) (tn r) (tn w) (tn q) else -2) else -1) (iN t 4 && (iN r 4 && (iN w 32 && iN q 2))) (mStbR (mCp σ 0 5) 1560 (tn t) (tn r) (tn w) (tn q)) (mStbS (mCp σ 0 5) 1560 (tn t) (tn r) (tn w) (tn q)) := by
  by_cases hv : (iN t 4 && (iN r 4 && (iN w 32 && iN q 2))) = true
  · have hv2 := hv
    simp only [Bool.and_eq_true] at hv2
    obtain ⟨h0, h1, h2, h3⟩ := hv2
    have K := op_stb H h0 h1 h2 h3
    refine ⟨fun _ => K, fun q => absurd (hv.symm.trans q) (by decide), K.1.trans ?_⟩
    rw [h0, h1, h2, h3]
    simp only [↓reduceIte, Bool.false_eq_true, bI_true, bI_false, Bool.true_and, Bool.and_true, Bool.and_false, Bool.false_and, Bool.not_true, Bool.not_false, Bool.or_true, Bool.true_or, Bool.or_false, Bool.false_or, Bool.and_self]
  · refine ⟨fun q => absurd q hv, fun _ => ?_, ?_⟩
    · unfold s_stb r_stb
      refine ⟨?_, ?_⟩
      · cases h0 : iN t 4 <;> cases h1 : iN r 4 <;> cases h2 : iN w 32 <;> cases h3 : iN q 2 <;> first | (simp only [↓reduceIte, Bool.false_eq_true, bI_true, bI_false, Bool.true_and, Bool.and_true, Bool.and_false, Bool.false_and, Bool.not_true, Bool.not_false, Bool.or_true, Bool.true_or, Bool.or_false, Bool.false_or, Bool.and_self]; decide) | (exact absurd (by rw [h0, h1, h2, h3]; rfl) hv)
      · cases h0 : iN t 4 <;> cases h1 : iN r 4 <;> cases h2 : iN w 32 <;> cases h3 : iN q 2 <;> first | (simp only [↓reduceIte, Bool.false_eq_true, bI_true, bI_false, Bool.true_and, Bool.and_true, Bool.and_false, Bool.false_and, Bool.not_true, Bool.not_false, Bool.or_true, Bool.true_or, Bool.or_false, Bool.false_or, Bool.and_self]; done) | (exact absurd (by rw [h0, h1, h2, h3]; rfl) hv)
    · unfold r_stb
      cases h0 : iN t 4 <;> cases h1 : iN r 4 <;> cases h2 : iN w 32 <;> cases h3 : iN q 2 <;> first | (simp only [↓reduceIte, Bool.false_eq_true, bI_true, bI_false, Bool.true_and, Bool.and_true, Bool.and_false, Bool.false_and, Bool.not_true, Bool.not_false, Bool.or_true, Bool.true_or, Bool.or_false, Bool.false_or, Bool.and_self]; done) | (exact absurd (by rw [h0, h1, h2, h3]; rfl) hv)
theorem A_mov {t a c : Int32} (H : RP σ ν (mCp σ 0 5)) : ActR σ ν (s_mov ν t a c) (r_mov ν t a c) (if iN t 4 && (iN a 4 && iN c 4) then mMovR (mCp σ 0 5) 1560 (tn t) (tn c) else -1) (iN t 4 && (iN a 4 && iN c 4)) (mMovR (mCp σ 0 5) 1560 (tn t) (tn c)) (mMovS (mCp σ 0 5) 1560 (tn t) (tn a) (tn c)) := by
  by_cases hv : (iN t 4 && (iN a 4 && iN c 4)) = true
  · have hv2 := hv
    simp only [Bool.and_eq_true] at hv2
    obtain ⟨h0, h1, h2⟩ := hv2
    have K := op_mov H h0 h1 h2
    refine ⟨fun _ => K, fun q => absurd (hv.symm.trans q) (by decide), K.1.trans ?_⟩
    rw [h0, h1, h2]
    simp only [↓reduceIte, Bool.false_eq_true, bI_true, bI_false, Bool.true_and, Bool.and_true, Bool.and_false, Bool.false_and, Bool.not_true, Bool.not_false, Bool.or_true, Bool.true_or, Bool.or_false, Bool.false_or, Bool.and_self]
  · refine ⟨fun q => absurd q hv, fun _ => ?_, ?_⟩
    · unfold s_mov r_mov
      refine ⟨?_, ?_⟩
      · cases h0 : iN t 4 <;> cases h1 : iN a 4 <;> cases h2 : iN c 4 <;> first | (simp only [↓reduceIte, Bool.false_eq_true, bI_true, bI_false, Bool.true_and, Bool.and_true, Bool.and_false, Bool.false_and, Bool.not_true, Bool.not_false, Bool.or_true, Bool.true_or, Bool.or_false, Bool.false_or, Bool.and_self]; decide) | (exact absurd (by rw [h0, h1, h2]; rfl) hv)
      · cases h0 : iN t 4 <;> cases h1 : iN a 4 <;> cases h2 : iN c 4 <;> first | (simp only [↓reduceIte, Bool.false_eq_true, bI_true, bI_false, Bool.true_and, Bool.and_true, Bool.and_false, Bool.false_and, Bool.not_true, Bool.not_false, Bool.or_true, Bool.true_or, Bool.or_false, Bool.false_or, Bool.and_self]; done) | (exact absurd (by rw [h0, h1, h2]; rfl) hv)
    · unfold r_mov
      cases h0 : iN t 4 <;> cases h1 : iN a 4 <;> cases h2 : iN c 4 <;> first | (simp only [↓reduceIte, Bool.false_eq_true, bI_true, bI_false, Bool.true_and, Bool.and_true, Bool.and_false, Bool.false_and, Bool.not_true, Bool.not_false, Bool.or_true, Bool.true_or, Bool.or_false, Bool.false_or, Bool.and_self]; done) | (exact absurd (by rw [h0, h1, h2]; rfl) hv)
theorem A_cmp {t q k a c : Int32} (H : RP σ ν (mCp σ 0 5)) : ActR σ ν (s_cmp ν t q k a c) (r_cmp ν t q k a c) (if iN t 4 && (iN k 4 && (iN a 4 && iN c 4)) then (if iN q 4 then mCmpR (mCp σ 0 5) 1560 (tn t) (tn q) (tn a) (tn c) else -2) else -1) (iN t 4 && (iN k 4 && (iN a 4 && (iN c 4 && iN q 4)))) (mCmpR (mCp σ 0 5) 1560 (tn t) (tn q) (tn a) (tn c)) (mCmpS (mCp σ 0 5) 1560 (tn t) (tn q) (tn k) (tn a) (tn c)) := by
  by_cases hv : (iN t 4 && (iN k 4 && (iN a 4 && (iN c 4 && iN q 4)))) = true
  · have hv2 := hv
    simp only [Bool.and_eq_true] at hv2
    obtain ⟨h0, h1, h2, h3, h4⟩ := hv2
    have K := op_cmp H h0 h1 h2 h3 h4
    refine ⟨fun _ => K, fun q => absurd (hv.symm.trans q) (by decide), K.1.trans ?_⟩
    rw [h0, h1, h2, h3, h4]
    simp only [↓reduceIte, Bool.false_eq_true, bI_true, bI_false, Bool.true_and, Bool.and_true, Bool.and_false, Bool.false_and, Bool.not_true, Bool.not_false, Bool.or_true, Bool.true_or, Bool.or_false, Bool.false_or, Bool.and_self]
  · refine ⟨fun q => absurd q hv, fun _ => ?_, ?_⟩
    · unfold s_cmp r_cmp cmpOk
      refine ⟨?_, ?_⟩
      · cases h0 : iN t 4 <;> cases h1 : iN k 4 <;> cases h2 : iN a 4 <;> cases h3 : iN c 4 <;> cases h4 : iN q 4 <;> first | (simp only [↓reduceIte, Bool.false_eq_true, bI_true, bI_false, Bool.true_and, Bool.and_true, Bool.and_false, Bool.false_and, Bool.not_true, Bool.not_false, Bool.or_true, Bool.true_or, Bool.or_false, Bool.false_or, Bool.and_self]; decide) | (exact absurd (by rw [h0, h1, h2, h3, h4]; rfl) hv)
      · cases h0 : iN t 4 <;> cases h1 : iN k 4 <;> cases h2 : iN a 4 <;> cases h3 : iN c 4 <;> cases h4 : iN q 4 <;> first | (simp only [↓reduceIte, Bool.false_eq_true, bI_true, bI_false, Bool.true_and, Bool.and_true, Bool.and_false, Bool.false_and, Bool.not_true, Bool.not_false, Bool.or_true, Bool.true_or, Bool.or_false, Bool.false_or, Bool.and_self]; done) | (exact absurd (by rw [h0, h1, h2, h3, h4]; rfl) hv)
    · unfold r_cmp
      cases h0 : iN t 4 <;> cases h1 : iN k 4 <;> cases h2 : iN a 4 <;> cases h3 : iN c 4 <;> cases h4 : iN q 4 <;> first | (simp only [↓reduceIte, Bool.false_eq_true, bI_true, bI_false, Bool.true_and, Bool.and_true, Bool.and_false, Bool.false_and, Bool.not_true, Bool.not_false, Bool.or_true, Bool.true_or, Bool.or_false, Bool.false_or, Bool.and_self]; done) | (exact absurd (by rw [h0, h1, h2, h3, h4]; rfl) hv)
theorem A_lad {t k a : Int32} (H : RP σ ν (mCp σ 0 5)) : ActR σ ν (s_lad ν t k a) (r_lad ν t k a) (if iN t 4 && (iN k 4 && iN a 4) then mLaR (mCp σ 0 5) 1560 (tn t) (tn a) else -1) (iN t 4 && (iN k 4 && iN a 4)) (mLaR (mCp σ 0 5) 1560 (tn t) (tn a)) (mLaS (mCp σ 0 5) 1560 (tn t) (tn k) (tn a)) := by
  by_cases hv : (iN t 4 && (iN k 4 && iN a 4)) = true
  · have hv2 := hv
    simp only [Bool.and_eq_true] at hv2
    obtain ⟨h0, h1, h2⟩ := hv2
    have K := op_lad H h0 h1 h2
    refine ⟨fun _ => K, fun q => absurd (hv.symm.trans q) (by decide), K.1.trans ?_⟩
    rw [h0, h1, h2]
    simp only [↓reduceIte, Bool.false_eq_true, bI_true, bI_false, Bool.true_and, Bool.and_true, Bool.and_false, Bool.false_and, Bool.not_true, Bool.not_false, Bool.or_true, Bool.true_or, Bool.or_false, Bool.false_or, Bool.and_self]
  · refine ⟨fun q => absurd q hv, fun _ => ?_, ?_⟩
    · unfold s_lad r_lad
      refine ⟨?_, ?_⟩
      · cases h0 : iN t 4 <;> cases h1 : iN k 4 <;> cases h2 : iN a 4 <;> first | (simp only [↓reduceIte, Bool.false_eq_true, bI_true, bI_false, Bool.true_and, Bool.and_true, Bool.and_false, Bool.false_and, Bool.not_true, Bool.not_false, Bool.or_true, Bool.true_or, Bool.or_false, Bool.false_or, Bool.and_self]; decide) | (exact absurd (by rw [h0, h1, h2]; rfl) hv)
      · cases h0 : iN t 4 <;> cases h1 : iN k 4 <;> cases h2 : iN a 4 <;> first | (simp only [↓reduceIte, Bool.false_eq_true, bI_true, bI_false, Bool.true_and, Bool.and_true, Bool.and_false, Bool.false_and, Bool.not_true, Bool.not_false, Bool.or_true, Bool.true_or, Bool.or_false, Bool.false_or, Bool.and_self]; done) | (exact absurd (by rw [h0, h1, h2]; rfl) hv)
    · unfold r_lad
      cases h0 : iN t 4 <;> cases h1 : iN k 4 <;> cases h2 : iN a 4 <;> first | (simp only [↓reduceIte, Bool.false_eq_true, bI_true, bI_false, Bool.true_and, Bool.and_true, Bool.and_false, Bool.false_and, Bool.not_true, Bool.not_false, Bool.or_true, Bool.true_or, Bool.or_false, Bool.false_or, Bool.and_self]; done) | (exact absurd (by rw [h0, h1, h2]; rfl) hv)
theorem A_out {t a : Int32} (H : RP σ ν (mCp σ 0 5)) : ActR σ ν (s_out ν t a) (r_out ν t a) (if iN t 4 && iN a 4 then mOuR (mCp σ 0 5) 1560 (tn t) (tn a) else -1) (iN t 4 && iN a 4) (mOuR (mCp σ 0 5) 1560 (tn t) (tn a)) (mOuS (mCp σ 0 5) 1560 (tn t) (tn a)) := by
  by_cases hv : (iN t 4 && iN a 4) = true
  · have hv2 := hv
    simp only [Bool.and_eq_true] at hv2
    obtain ⟨h0, h1⟩ := hv2
    have K := op_out H h0 h1
    refine ⟨fun _ => K, fun q => absurd (hv.symm.trans q) (by decide), K.1.trans ?_⟩
    rw [h0, h1]
    simp only [↓reduceIte, Bool.false_eq_true, bI_true, bI_false, Bool.true_and, Bool.and_true, Bool.and_false, Bool.false_and, Bool.not_true, Bool.not_false, Bool.or_true, Bool.true_or, Bool.or_false, Bool.false_or, Bool.and_self]
  · refine ⟨fun q => absurd q hv, fun _ => ?_, ?_⟩
    · unfold s_out r_out
      refine ⟨?_, ?_⟩
      · cases h0 : iN t 4 <;> cases h1 : iN a 4 <;> first | (simp only [↓reduceIte, Bool.false_eq_true, bI_true, bI_false, Bool.true_and, Bool.and_true, Bool.and_false, Bool.false_and, Bool.not_true, Bool.not_false, Bool.or_true, Bool.true_or, Bool.or_false, Bool.false_or, Bool.and_self]; decide) | (exact absurd (by rw [h0, h1]; rfl) hv)
      · cases h0 : iN t 4 <;> cases h1 : iN a 4 <;> first | (simp only [↓reduceIte, Bool.false_eq_true, bI_true, bI_false, Bool.true_and, Bool.and_true, Bool.and_false, Bool.false_and, Bool.not_true, Bool.not_false, Bool.or_true, Bool.true_or, Bool.or_false, Bool.false_or, Bool.and_self]; done) | (exact absurd (by rw [h0, h1]; rfl) hv)
    · unfold r_out
      cases h0 : iN t 4 <;> cases h1 : iN a 4 <;> first | (simp only [↓reduceIte, Bool.false_eq_true, bI_true, bI_false, Bool.true_and, Bool.and_true, Bool.and_false, Bool.false_and, Bool.not_true, Bool.not_false, Bool.or_true, Bool.true_or, Bool.or_false, Bool.false_or, Bool.and_self]; done) | (exact absurd (by rw [h0, h1]; rfl) hv)
theorem A_mir {x : Int32} {u : Bool} (H : RP σ ν (mCp σ 0 5)) : ActR σ ν (s_mir ν x u) (r_mir ν x u) (if iN x 8 then sumI (fun k => mMirS (mCp σ 0 5) 1560 (tn x) u (1560 + 240 + k)) 8 else -1) (iN x 8) (sumI (fun k => mMirS (mCp σ 0 5) 1560 (tn x) u (1560 + 240 + k)) 8) (mMirS (mCp σ 0 5) 1560 (tn x) u) := by
  by_cases hv : (iN x 8) = true
  · have hv2 := hv
    have h0 := hv2
    have K := op_mir (u := u) H h0
    refine ⟨fun _ => K, fun q => absurd (hv.symm.trans q) (by decide), K.1.trans ?_⟩
    rw [h0]
    simp only [↓reduceIte, Bool.false_eq_true, bI_true, bI_false, Bool.true_and, Bool.and_true, Bool.and_false, Bool.false_and, Bool.not_true, Bool.not_false, Bool.or_true, Bool.true_or, Bool.or_false, Bool.false_or, Bool.and_self]
  · refine ⟨fun q => absurd q hv, fun _ => ?_, ?_⟩
    · unfold s_mir r_mir
      refine ⟨?_, ?_⟩
      · cases h0 : iN x 8 <;> first | (simp only [↓reduceIte, Bool.false_eq_true, bI_true, bI_false, Bool.true_and, Bool.and_true, Bool.and_false, Bool.false_and, Bool.not_true, Bool.not_false, Bool.or_true, Bool.true_or, Bool.or_false, Bool.false_or, Bool.and_self]; decide) | (exact absurd h0 hv)
      · cases h0 : iN x 8 <;> first | (simp only [↓reduceIte, Bool.false_eq_true, bI_true, bI_false, Bool.true_and, Bool.and_true, Bool.and_false, Bool.false_and, Bool.not_true, Bool.not_false, Bool.or_true, Bool.true_or, Bool.or_false, Bool.false_or, Bool.and_self]; done) | (exact absurd h0 hv)
    · unfold r_mir
      cases h0 : iN x 8 <;> first | (simp only [↓reduceIte, Bool.false_eq_true, bI_true, bI_false, Bool.true_and, Bool.and_true, Bool.and_false, Bool.false_and, Bool.not_true, Bool.not_false, Bool.or_true, Bool.true_or, Bool.or_false, Bool.false_or, Bool.and_self]; done) | (exact absurd h0 hv)
theorem A_fil {x c y : Int32} (H : RP σ ν (mCp σ 0 5)) : ActR σ ν (s_fil ν x c y) (r_fil ν x c y) (if iN x 32 then (if iB c && iN y 65536 then (if tn x + tn c ≤ 32 then sumI (filC (mCp σ 0 5) (tn x) (nI (tn y))) (tn c) else -1) else -2) else -1) (filOkM x c y) (sumI (filC (mCp σ 0 5) (tn x) (nI (tn y))) (tn c)) (filM (mCp σ 0 5) (tn x) (nI (tn y)) (tn c)) := by
  by_cases hv : filOkM x c y = true
  · have K := op_fil H hv
    refine ⟨fun _ => K, fun q => absurd (hv.symm.trans q) (by decide), K.1.trans ?_⟩
    unfold filOkM at hv
    simp only [Bool.and_eq_true, decide_eq_true_eq] at hv
    obtain ⟨h1, h2, h3, h4⟩ := hv
    rw [h1, h2, h3, if_pos h4]
    simp only [↓reduceIte, Bool.false_eq_true, bI_true, bI_false, Bool.true_and, Bool.and_true, Bool.and_false, Bool.false_and, Bool.not_true, Bool.not_false, Bool.or_true, Bool.true_or, Bool.or_false, Bool.false_or, Bool.and_self]
  · have key : isErr (r_fil ν x c y) = true ∧ s_fil ν x c y = ν ∧ r_fil ν x c y = (if iN x 32 then (if iB c && iN y 65536 then (if tn x + tn c ≤ 32 then sumI (filC (mCp σ 0 5) (tn x) (nI (tn y))) (tn c) else -1) else -2) else -1) := by
      unfold r_fil s_fil filOk
      unfold filOkM at hv
      cases h1 : iN x 32 with
      | false => exact (by refine ⟨?_, ?_, ?_⟩ <;> simp only [↓reduceIte, Bool.false_eq_true, bI_true, bI_false, Bool.true_and, Bool.and_true, Bool.and_false, Bool.false_and, Bool.not_true, Bool.not_false, Bool.or_true, Bool.true_or, Bool.or_false, Bool.false_or, Bool.and_self] <;> decide)
      | true =>
        cases h2 : iB c with
        | false => exact (by refine ⟨?_, ?_, ?_⟩ <;> simp only [↓reduceIte, Bool.false_eq_true, bI_true, bI_false, Bool.true_and, Bool.and_true, Bool.and_false, Bool.false_and, Bool.not_true, Bool.not_false, Bool.or_true, Bool.true_or, Bool.or_false, Bool.false_or, Bool.and_self] <;> decide)
        | true =>
          cases h3 : iN y 65536 with
          | false => exact (by refine ⟨?_, ?_, ?_⟩ <;> simp only [↓reduceIte, Bool.false_eq_true, bI_true, bI_false, Bool.true_and, Bool.and_true, Bool.and_false, Bool.false_and, Bool.not_true, Bool.not_false, Bool.or_true, Bool.true_or, Bool.or_false, Bool.false_or, Bool.and_self] <;> decide)
          | true =>
            have hl : ¬ tn x + tn c ≤ 32 := fun z => hv (by rw [h1, h2, h3, decide_eq_true z]; rfl)
            have a2 := iB_lt h2
            rw [last_w (iN_lt h1 (by decide)) ⟨a2.2.1, a2.2.2⟩, decide_eq_false hl, if_neg hl]
            exact (by refine ⟨?_, ?_, ?_⟩ <;> simp only [↓reduceIte, Bool.false_eq_true, bI_true, bI_false, Bool.true_and, Bool.and_true, Bool.and_false, Bool.false_and, Bool.not_true, Bool.not_false, Bool.or_true, Bool.true_or, Bool.or_false, Bool.false_or, Bool.and_self] <;> decide)
    exact ⟨fun q => absurd q hv, fun _ => ⟨key.1, key.2.1⟩, key.2.2⟩
theorem A_cpy {x y c : Int32} {β : NS} {ρ : MS} (H : RP σ ν (mCp σ 0 5)) : ActR σ ν (s_cpy ν β x y c) (r_cpy ν β x y c) (if iN x 32 && iN y 32 then (if iB c then (if tn x + tn c ≤ 32 ∧ tn y + tn c ≤ 32 then sumI (cpyC (fetM (mCp σ 0 5) (tn x) (tn c)) (redM (mCp σ 0 5) ρ (tn x) (tn c)) (tn y)) (tn c) else -1) else -2) else -1) (cpOkM x y c) (sumI (cpyC (fetM (mCp σ 0 5) (tn x) (tn c)) (redM (mCp σ 0 5) ρ (tn x) (tn c)) (tn y)) (tn c)) (putM (fetM (mCp σ 0 5) (tn x) (tn c)) (redM (mCp σ 0 5) ρ (tn x) (tn c)) (tn y) (tn c)) := by
  by_cases hv : cpOkM x y c = true
  · have K := op_cpy (β := β) (ρ := ρ) H hv
    refine ⟨fun _ => K, fun q => absurd (hv.symm.trans q) (by decide), K.1.trans ?_⟩
    unfold cpOkM at hv
    simp only [Bool.and_eq_true, decide_eq_true_eq] at hv
    obtain ⟨h1, h2, h3, h4, h5⟩ := hv
    rw [h1, h2, h3]
    simp only [↓reduceIte, Bool.false_eq_true, bI_true, bI_false, Bool.true_and, Bool.and_true, Bool.and_false, Bool.false_and, Bool.not_true, Bool.not_false, Bool.or_true, Bool.true_or, Bool.or_false, Bool.false_or, Bool.and_self]
    exact (if_pos ⟨h4, h5⟩).symm
  · have key : isErr (r_cpy ν β x y c) = true ∧ s_cpy ν β x y c = ν ∧ r_cpy ν β x y c = (if iN x 32 && iN y 32 then (if iB c then (if tn x + tn c ≤ 32 ∧ tn y + tn c ≤ 32 then sumI (cpyC (fetM (mCp σ 0 5) (tn x) (tn c)) (redM (mCp σ 0 5) ρ (tn x) (tn c)) (tn y)) (tn c) else -1) else -2) else -1) := by
      unfold r_cpy
      have es : cpOk x y c = false → s_cpy ν β x y c = ν := fun q => by unfold s_cpy; rw [q, if_neg (by decide)]
      unfold cpOkM at hv
      unfold cpOk at es
      cases h1 : iN x 32 with
      | false => exact ⟨by simp only [↓reduceIte, Bool.false_eq_true, bI_true, bI_false, Bool.true_and, Bool.and_true, Bool.and_false, Bool.false_and, Bool.not_true, Bool.not_false, Bool.or_true, Bool.true_or, Bool.or_false, Bool.false_or, Bool.and_self]; decide, es (by rw [h1]; rfl), by simp only [↓reduceIte, Bool.false_eq_true, bI_true, bI_false, Bool.true_and, Bool.and_true, Bool.and_false, Bool.false_and, Bool.not_true, Bool.not_false, Bool.or_true, Bool.true_or, Bool.or_false, Bool.false_or, Bool.and_self]⟩
      | true =>
        cases h2 : iN y 32 with
        | false => exact ⟨by simp only [↓reduceIte, Bool.false_eq_true, bI_true, bI_false, Bool.true_and, Bool.and_true, Bool.and_false, Bool.false_and, Bool.not_true, Bool.not_false, Bool.or_true, Bool.true_or, Bool.or_false, Bool.false_or, Bool.and_self]; decide, es (by rw [h1, h2]; rfl), by simp only [↓reduceIte, Bool.false_eq_true, bI_true, bI_false, Bool.true_and, Bool.and_true, Bool.and_false, Bool.false_and, Bool.not_true, Bool.not_false, Bool.or_true, Bool.true_or, Bool.or_false, Bool.false_or, Bool.and_self]⟩
        | true =>
          cases h3 : iB c with
          | false => exact ⟨by simp only [↓reduceIte, Bool.false_eq_true, bI_true, bI_false, Bool.true_and, Bool.and_true, Bool.and_false, Bool.false_and, Bool.not_true, Bool.not_false, Bool.or_true, Bool.true_or, Bool.or_false, Bool.false_or, Bool.and_self]; decide, es (by rw [h1, h2, h3]; rfl), by simp only [↓reduceIte, Bool.false_eq_true, bI_true, bI_false, Bool.true_and, Bool.and_true, Bool.and_false, Bool.false_and, Bool.not_true, Bool.not_false, Bool.or_true, Bool.true_or, Bool.or_false, Bool.false_or, Bool.and_self]⟩
          | true =>
            have a2 := iB_lt h3
            have l1 := last_w (iN_lt h1 (by decide)) ⟨a2.2.1, a2.2.2⟩
            have l2 := last_w (iN_lt h2 (by decide)) ⟨a2.2.1, a2.2.2⟩
            have hl : ¬ (tn x + tn c ≤ 32 ∧ tn y + tn c ≤ 32) := fun z => hv (by rw [h1, h2, h3, decide_eq_true z.1, decide_eq_true z.2]; rfl)
            have hb : (iN (nI (tn x + tn c - 1)) 32 && iN (nI (tn y + tn c - 1)) 32) = false := by
              rw [l1, l2]
              by_cases q1 : tn x + tn c ≤ 32
              · rw [decide_eq_true q1, decide_eq_false (fun q2 => hl ⟨q1, q2⟩)]; rfl
              · rw [decide_eq_false q1]; rfl
            rw [hb, if_neg hl]
            refine ⟨by simp only [↓reduceIte, Bool.false_eq_true, bI_true, bI_false, Bool.true_and, Bool.and_true, Bool.and_false, Bool.false_and, Bool.not_true, Bool.not_false, Bool.or_true, Bool.true_or, Bool.or_false, Bool.false_or, Bool.and_self]; decide, es ?_, by simp only [↓reduceIte, Bool.false_eq_true, bI_true, bI_false, Bool.true_and, Bool.and_true, Bool.and_false, Bool.false_and, Bool.not_true, Bool.not_false, Bool.or_true, Bool.true_or, Bool.or_false, Bool.false_or, Bool.and_self]⟩
            rw [h1, h2, h3, hb]
            rfl
    exact ⟨fun q => absurd q hv, fun _ => ⟨key.1, key.2.1⟩, key.2.2⟩
end ACTS
