/-! the questions -/
section QRY
variable {ν : NS} {σ : MS} {w t r k : Nat}
theorem P_w (H : Pic 0 ν σ) (hw : w < 32) : σ (wdt 0 w) = ν 0 w ∧ σ (wdt 0 w + 1) = ν 1 w ∧ WH (ν 0 w) 65535 ∧ mrk (ν 1 w) (ν 2 w) (σ (wdt 0 w + 2)) := H.1 w hw
theorem P_c (H : Pic 0 ν σ) (hw : w < 32) : σ (cpt 0 w) = ν 3 w ∧ σ (cpt 0 w + 1) = ν 4 w ∧ WH (ν 3 w) 65535 ∧ mrk (ν 4 w) (ν 5 w) (σ (cpt 0 w + 2)) := H.2.1 w hw
theorem P_r (H : Pic 0 ν σ) (hk : k < 16) : σ (0 + 192 + 3 * k) = ν 6 k ∧ σ (0 + 192 + 3 * k + 1) = ν 7 k ∧ WH (ν 6 k) 65535 ∧ mrk (ν 7 k) (ν 8 k) (σ (0 + 192 + 3 * k + 2)) := H.2.2.1 k hk
theorem P_mi (H : Pic 0 ν σ) (hw : w < 32) : mMi σ 0 w = bz (ν 9 (w / 4)) := by
  unfold mMi m1
  rw [H.2.2.2.1.1 (w / 4) (by omega)]
  cases bz (ν 9 (w / 4)) <;> first | rfl | decide
theorem P_ch (H : Pic 0 ν σ) (hw : w < 32) : mCH σ 0 w = canH ν w := by
  unfold mCH canH
  rw [(P_w H hw).2.1, P_mi H hw, (P_c H hw).2.1]
theorem P_in (H : Pic 0 ν σ) : σ 256 = ν 15 0 ∧ WH (ν 15 0) 20 := H.2.2.2.2.1
theorem P_lg (H : Pic 0 ν σ) : σ 277 = ν 14 0 ∧ WH (ν 14 0) 8 := H.2.2.2.2.2.2.1
theorem mark_h {o h h' : Int32} (H : mrk o h h') : (if ps o then h' else -6) = h := by
  cases q : ps o
  · rw [if_neg (by decide)]; exact (H.2 q).symm
  · rw [if_pos rfl]; exact (H.1 q).1
theorem mark_o {o : Int32} : (if ps o then o else -6) = o := by
  cases q : ps o
  · rw [if_neg (by decide)]; exact (ps_f q).symm
  · rw [if_pos rfl]
theorem q_value {w : Int32} (H : Pic 0 ν σ) : (if iN w 32 then ν 0 (tn w) else -1) = (if iN w 32 then σ (wdt 0 (tn w)) else -1) := by
  by_cases h : iN w 32 = true
  · rw [if_pos h, if_pos h, (P_w H (iN_lt h (by decide))).1]
  · rw [if_neg h, if_neg h]
theorem q_origin {w : Int32} (H : Pic 0 ν σ) : (if iN w 32 then ν 1 (tn w) else -1) = (if iN w 32 then (if ps (σ (wdt 0 (tn w) + 1)) then σ (wdt 0 (tn w) + 1) else -6) else -1) := by
  by_cases h : iN w 32 = true
  · rw [if_pos h, if_pos h, (P_w H (iN_lt h (by decide))).2.1, mark_o]
  · rw [if_neg h, if_neg h]
theorem q_hops {w : Int32} (H : Pic 0 ν σ) : (if iN w 32 then ν 2 (tn w) else -1) = (if iN w 32 then (if ps (σ (wdt 0 (tn w) + 1)) then σ (wdt 0 (tn w) + 2) else -6) else -1) := by
  by_cases h : iN w 32 = true
  · have c := P_w H (iN_lt h (by decide))
    rw [if_pos h, if_pos h, c.2.1, mark_h c.2.2.2]
  · rw [if_neg h, if_neg h]
theorem q_mirrorValue {w : Int32} (H : Pic 0 ν σ) : (if iN w 32 then (if bz (ν 9 (tn w / 4)) then ν 3 (tn w) else -6) else -1) = (if iN w 32 then (if mMi σ 0 (tn w) then σ (cpt 0 (tn w)) else -6) else -1) := by
  by_cases h : iN w 32 = true
  · have hw := iN_lt h (by decide)
    rw [if_pos h, if_pos h, P_mi H hw, (P_c H hw).1]
  · rw [if_neg h, if_neg h]
theorem q_mirrorOrigin {w : Int32} (H : Pic 0 ν σ) : (if iN w 32 then (if bz (ν 9 (tn w / 4)) then ν 4 (tn w) else -6) else -1) = (if iN w 32 then (if mMi σ 0 (tn w) then (if ps (σ (cpt 0 (tn w) + 1)) then σ (cpt 0 (tn w) + 1) else -6) else -6) else -1) := by
  by_cases h : iN w 32 = true
  · have hw := iN_lt h (by decide)
    rw [if_pos h, if_pos h, P_mi H hw, (P_c H hw).2.1, mark_o]
  · rw [if_neg h, if_neg h]
theorem q_register {t r : Int32} (H : Pic 0 ν σ) : (if iN t 4 && iN r 4 then ν 6 (tn t * 4 + tn r) else -1) = (if iN t 4 && iN r 4 then σ (rgt 0 (tn t) (tn r)) else -1) := by
  by_cases h : (iN t 4 && iN r 4) = true
  · rw [if_pos h, if_pos h, rgt_eq]
    rw [Bool.and_eq_true] at h
    have a1 := iN_lt h.1 (by decide)
    have a2 := iN_lt h.2 (by decide)
    exact (P_r H (by omega)).1.symm
  · rw [if_neg h, if_neg h]
theorem q_registerOrigin {t r : Int32} (H : Pic 0 ν σ) : (if iN t 4 && iN r 4 then ν 7 (tn t * 4 + tn r) else -1) = (if iN t 4 && iN r 4 then (if ps (σ (rgt 0 (tn t) (tn r) + 1)) then σ (rgt 0 (tn t) (tn r) + 1) else -6) else -1) := by
  by_cases h : (iN t 4 && iN r 4) = true
  · rw [if_pos h, if_pos h, rgt_eq]
    rw [Bool.and_eq_true] at h
    have a1 := iN_lt h.1 (by decide)
    have a2 := iN_lt h.2 (by decide)
    rw [(P_r H (show tn t * 4 + tn r < 16 by omega)).2.1, mark_o]
  · rw [if_neg h, if_neg h]
theorem q_registerHops {t r : Int32} (H : Pic 0 ν σ) : (if iN t 4 && iN r 4 then ν 8 (tn t * 4 + tn r) else -1) = (if iN t 4 && iN r 4 then (if ps (σ (rgt 0 (tn t) (tn r) + 1)) then σ (rgt 0 (tn t) (tn r) + 2) else -6) else -1) := by
  by_cases h : (iN t 4 && iN r 4) = true
  · rw [if_pos h, if_pos h, rgt_eq]
    rw [Bool.and_eq_true] at h
    have a1 := iN_lt h.1 (by decide)
    have a2 := iN_lt h.2 (by decide)
    have c := P_r H (show tn t * 4 + tn r < 16 by omega)
    rw [c.2.1, mark_h c.2.2.2]
  · rw [if_neg h, if_neg h]
theorem q_mode {t : Int32} (H : Pic 0 ν σ) : (if iN t 4 then ν 10 (tn t) else -1) = (if iN t 4 then σ (248 + tn t) else -1) := by
  by_cases h : iN t 4 = true
  · rw [if_pos h, if_pos h]
    exact (H.2.2.2.1.2.1 (tn t) (iN_lt h (by decide))).1.symm
  · rw [if_neg h, if_neg h]
theorem q_stopped {t : Int32} (H : Pic 0 ν σ) : (if iN t 4 then bI (bz (ν 11 (tn t))) else -1) = (if iN t 4 then σ (252 + tn t) else -1) := by
  by_cases h : iN t 4 = true
  · rw [if_pos h, if_pos h]
    exact (H.2.2.2.1.2.2 (tn t) (iN_lt h (by decide))).symm
  · rw [if_neg h, if_neg h]
theorem q_injections (H : Pic 0 ν σ) : ν 15 0 = σ 256 := (P_in H).1.symm
theorem q_faults (H : Pic 0 ν σ) : ν 14 1 = σ 310 := H.2.2.2.2.2.2.2.2.1.symm
theorem q_healed (H : Pic 0 ν σ) : ν 15 1 = σ 311 := H.2.2.2.2.2.2.2.2.2.symm
theorem q_source {x : Int32} (H : Pic 0 ν σ) : (if iN x (tn (ν 15 0)) then ν 12 (tn x) else -1) = (if iN x (tn (σ 256)) then σ (257 + tn x) else -1) := by
  have c := P_in H
  have c2 := c.2.2
  rw [c.1]
  by_cases h : iN x (tn (ν 15 0)) = true
  · rw [if_pos h, if_pos h]
    have h3 := iN_lt h (by omega)
    exact (H.2.2.2.2.2.1 (tn x) (by omega)).symm
  · rw [if_neg h, if_neg h]
theorem q_log {x y : Int32} (H : Pic 0 ν σ) : (if x < 0 then -2 else if iN y 4 then (if iN x (tn (ν 14 0)) then ν 13 (tn x * 4 + tn y) else -6) else -2) = (if x < 0 then -2 else if iN y 4 then (if iN x (tn (σ 277)) then σ (278 + 4 * tn x + tn y) else -6) else -2) := by
  have c := P_lg H
  have c2 := c.2.2
  rw [c.1]
  by_cases h0 : x < 0
  · rw [if_pos h0, if_pos h0]
  · rw [if_neg h0, if_neg h0]
    by_cases h1 : iN y 4 = true
    · rw [if_pos h1, if_pos h1]
      by_cases h : iN x (tn (ν 14 0)) = true
      · rw [if_pos h, if_pos h]
        have h3 := iN_lt h (by omega)
        have h4 := iN_lt h1 (by decide)
        have h5 := H.2.2.2.2.2.2.2.1 (tn x * 4 + tn y) (by omega)
        rw [show 278 + 4 * tn x + tn y = 0 + 278 + (tn x * 4 + tn y) from by omega, h5]
      · rw [if_neg h, if_neg h]
    · rw [if_neg h1, if_neg h1]
theorem pw_eq {i m : Nat} (H : Pic 0 ν σ) (h : i + m ≤ 32) : sumI (pwM σ i) m = nI (cntP (ν 1) i m) :=
  sumI_c (fun k => ps (ν 1 (i + k))) _ m (fun k hk => by
    show bI (ps (σ (wdt 0 (i + k) + 1))) = _
    rw [(P_w H (show i + k < 32 by omega)).2.1])
theorem he_eq {i m : Nat} (H : Pic 0 ν σ) (h : i + m ≤ 32) : sumI (heM σ i) m = nI (cntH ν i m) :=
  sumI_c (fun k => canH ν (i + k)) _ m (fun k hk => by
    show bI (mCH σ 0 (i + k)) = _
    rw [P_ch H (show i + k < 32 by omega)])
theorem q_poisoned {x : Int32} (H : Pic 0 ν σ) : (if iN x 8 then nI (cntP (ν 1) (tn x * 4) ((tn x + 1) * 4 - tn x * 4)) else -1) = (if iN x 8 then sumI (pwM σ (4 * tn x)) (4 * tn x + 4 - 4 * tn x) else -1) := by
  by_cases h : iN x 8 = true
  · have hw := iN_lt h (by decide)
    rw [if_pos h, if_pos h, pw_eq H (by omega), Nat.mul_comm 4 (tn x), show (tn x + 1) * 4 - tn x * 4 = tn x * 4 + 4 - tn x * 4 from by omega]
  · rw [if_neg h, if_neg h]
theorem cnt_add (p : Nat → Bool) (a : Nat) : ∀ b : Nat, cnt p (a + b) = cnt p a + cnt (fun k => p (a + k)) b
  | 0 => rfl
  | b + 1 => by
    show (if p (a + b) then cnt p (a + b) + 1 else cnt p (a + b)) = cnt p a + (if p (a + b) then cnt (fun k => p (a + k)) b + 1 else cnt (fun k => p (a + k)) b)
    rw [cnt_add p a b]
    split <;> omega
theorem cnt_0 (p : Nat → Bool) : ∀ b : Nat, (∀ k, k < b → p k = false) → cnt p b = 0
  | 0, _ => rfl
  | b + 1, h => by
    rw [cnt_s, h b (by omega), if_neg (by decide)]
    exact cnt_0 p b (fun k hk => h k (by omega))
theorem cr_eq {x : Int32} (H : Pic 0 ν σ) : sumI (crG σ x) 80 = nI (carr ν x) := by
  have e : sumI (crG σ x) 80 = nI (cnt (fun k => crM σ x (3 * k)) 80) := sumI_c _ _ 80 (fun k _ => rfl)
  rw [e]
  refine congrArg nI ?_
  rw [show (80 : Nat) = 32 + (32 + 16) from rfl, cnt_add, cnt_add, cnt_0 (fun k => crM σ x (3 * (32 + k))) 32 (fun k hk => by
    unfold crM
    rw [decide_eq_false (show ¬ 3 * (32 + k) < 96 by omega), decide_eq_false (show ¬ 192 ≤ 3 * (32 + k) by omega)]
    exact Bool.and_false _), Nat.zero_add]
  unfold carr cntE
  rw [cnt_eq (fun k => crM σ x (3 * k)) (fun k => decide (ν 1 k = x)) 32 (fun k hk => by
      unfold crM
      rw [decide_eq_true (show 3 * k < 96 by omega), Bool.true_or, Bool.and_true]
      have c := (P_w H hk).2.1
      unfold wdt at c
      rw [Nat.zero_add] at c
      rw [c]), cnt_eq (fun k => crM σ x (3 * (32 + (32 + k)))) (fun k => decide (ν 7 k = x)) 16 (fun k hk => by
      unfold crM
      rw [decide_eq_true (show 192 ≤ 3 * (32 + (32 + k)) by omega), Bool.or_true, Bool.and_true]
      have c := (P_r H hk).2.1
      rw [show 3 * (32 + (32 + k)) + 1 = 0 + 192 + 3 * k + 1 from by omega, c])]
theorem q_carriers {x : Int32} (H : Pic 0 ν σ) : (if iN x (tn (ν 15 0)) then nI (carr ν x) else -1) = (if iN x (tn (σ 256)) then sumI (crG σ x) 80 else -1) := by
  rw [(P_in H).1, cr_eq H]
theorem mh_m (o h : Nat → Int32) (x : Int32) (m : Nat) : mh o h x (m + 1) = if o m = x then (if mh o h x m < h m then h m else mh o h x m) else mh o h x m := rfl
theorem fa_m (σ : MS) (x : Int32) (k : Nat) : faM σ x (k + 1) = if crM σ x (3 * k) then (if faM σ x k < σ (3 * k + 2) then σ (3 * k + 2) else faM σ x k) else faM σ x k := rfl
theorem fa_1 {x : Int32} (H : Pic 0 ν σ) (hx : ps x = true) : ∀ n : Nat, n ≤ 32 → faM σ x n = mh (ν 1) (ν 2) x n
  | 0, _ => rfl
  | n + 1, h => by
    rw [fa_m, mh_m, fa_1 H hx n (by omega)]
    have c := P_w H (show n < 32 by omega)
    unfold wdt at c
    rw [Nat.zero_add] at c
    unfold crM
    rw [decide_eq_true (show 3 * n < 96 by omega), Bool.true_or, Bool.and_true, c.2.1]
    by_cases q : ν 1 n = x
    · rw [if_pos (decide_eq_true q), if_pos q, (c.2.2.2.1 (by rw [q]; exact hx)).1]
    · rw [if_neg (by rw [decide_eq_false q]; decide), if_neg q]
theorem fa_2 {x : Int32} : ∀ n : Nat, n ≤ 32 → faM σ x (32 + n) = faM σ x 32
  | 0, _ => rfl
  | n + 1, h => by
    show faM σ x (32 + n + 1) = _
    rw [fa_m]
    have e : crM σ x (3 * (32 + n)) = false := by
      unfold crM
      rw [decide_eq_false (show ¬ 3 * (32 + n) < 96 by omega), decide_eq_false (show ¬ 192 ≤ 3 * (32 + n) by omega)]
      exact Bool.and_false _
    rw [e, if_neg (by decide)]
    exact fa_2 n (by omega)
def mx2 (a b : Int32) : Int32 := if a < b then b else a
theorem mx2_a (a b c : Int32) : mx2 (mx2 a b) c = mx2 a (mx2 b c) := by
  unfold mx2
  by_cases h1 : a < b
  · rw [if_pos h1]
    by_cases h2 : b < c
    · rw [if_pos h2, if_pos (Int32.lt_trans h1 h2)]
    · rw [if_neg h2, if_pos h1]
  · rw [if_neg h1]
    by_cases h2 : b < c
    · rw [if_pos h2]
    · rw [if_neg h2, if_neg h1, if_neg (fun z => h2 (Int32.lt_of_le_of_lt (Int32.not_lt.mp h1) z))]
theorem fa_3 {x a : Int32} (H : Pic 0 ν σ) (hx : ps x = true) (ha : faM σ x 64 = a) (h6 : mx2 a (-6) = a) : ∀ n : Nat, n ≤ 16 → faM σ x (64 + n) = mx2 a (mh (ν 7) (ν 8) x n)
  | 0, _ => by rw [show mh (ν 7) (ν 8) x 0 = -6 from rfl, h6]; exact ha
  | n + 1, h => by
    show faM σ x (64 + n + 1) = _
    rw [fa_m, mh_m, fa_3 H hx ha h6 n (by omega)]
    have c := P_r H (show n < 16 by omega)
    unfold crM
    rw [decide_eq_true (show 192 ≤ 3 * (64 + n) by omega), Bool.or_true, Bool.and_true, show 3 * (64 + n) + 1 = 0 + 192 + 3 * n + 1 from by omega, show 3 * (64 + n) + 2 = 0 + 192 + 3 * n + 2 from by omega, c.2.1]
    by_cases q : ν 7 n = x
    · rw [if_pos (decide_eq_true q), if_pos q, (c.2.2.2.1 (by rw [q]; exact hx)).1]
      exact mx2_a a (mh (ν 7) (ν 8) x n) (ν 8 n)
    · rw [if_neg (by rw [decide_eq_false q]; decide), if_neg q]
theorem mh_6 {o h : Nat → Int32} {x : Int32} : ∀ n : Nat, -6 ≤ mh o h x n
  | 0 => Int32.le_refl _
  | n + 1 => by
    rw [mh_m]
    split
    · split
      · rename_i q
        exact Int32.le_of_lt (Int32.lt_of_le_of_lt (mh_6 n) q)
      · exact mh_6 n
    · exact mh_6 n
theorem q_farthest {x : Int32} (H : Pic 0 ν σ) : (if iN x (tn (ν 15 0)) then (if mh (ν 1) (ν 2) x 32 < mh (ν 7) (ν 8) x 16 then mh (ν 7) (ν 8) x 16 else mh (ν 1) (ν 2) x 32) else -1) = (if iN x (tn (σ 256)) then faM σ x 80 else -1) := by
  rw [(P_in H).1]
  by_cases h : iN x (tn (ν 15 0)) = true
  · rw [if_pos h, if_pos h]
    have hx : ps x = true := by
      cases q : ps x with
      | true => rfl
      | false =>
        have h0 := (iN_iff.mp h).1
        rw [ps_f q] at h0
        exact absurd (by decide) h0
    have e1 : faM σ x 64 = mh (ν 1) (ν 2) x 32 := (fa_2 32 (Nat.le_refl 32)).trans (fa_1 H hx 32 (Nat.le_refl 32))
    have e2 := fa_3 H hx e1 (by unfold mx2; rw [if_neg (Int32.not_lt.mpr (mh_6 32))]) 16 (Nat.le_refl 16)
    exact e2.symm
  · rw [if_neg h, if_neg h]
theorem wiM_eq {f g : Nat → Int32} : ∀ n : Nat, (∀ k, k < n → f k = g k) → wiM f n = wiM g n
  | 0, _ => rfl
  | n + 1, h => by
    unfold wiM
    rw [wiM_eq n (fun k hk => h k (by omega)), h n (by omega)]
theorem q_widest (H : Pic 0 ν σ) : (wiM (fun k => nI (carr ν (nI k))) (tn (ν 15 0))).1 = (wiM (fun k => sumI (crG σ (nI k)) 80) (tn (σ 256))).1 := by
  rw [(P_in H).1]
  exact congrArg Prod.fst (wiM_eq _ (fun k _ => (cr_eq H).symm))
theorem q_bestScrub (H : Pic 0 ν σ) : (wiM (fun k => nI (cntH ν (k * 4) ((k + 1) * 4 - k * 4))) 8).1 = (wiM (fun k => sumI (heM σ (4 * k)) (4 * k + 4 - 4 * k)) 8).1 := by
  refine congrArg Prod.fst (wiM_eq 8 (fun k hk => ?_))
  show nI (cntH ν (k * 4) ((k + 1) * 4 - k * 4)) = sumI (heM σ (4 * k)) (4 * k + 4 - 4 * k)
  rw [he_eq H (by omega), Nat.mul_comm 4 k, show (k + 1) * 4 - k * 4 = k * 4 + 4 - k * 4 from by omega]
theorem q_poisonedIfScrubbed (H : Pic 0 ν σ) : nI (cntP (ν 1) 0 (32 - 0)) - nI (cntH ν 0 (32 - 0)) = sumI (pwM σ 0) (32 - 0) - sumI (heM σ 0) (32 - 0) := by
  rw [pw_eq H (by omega), he_eq H (by omega)]
theorem q_carriersWithout {x w : Int32} (H : Pic 0 ν σ) : (if iN x (tn (ν 15 0)) && iN w 32 then nI (carr ν x) - (if ν 1 (tn w) = x then nI 1 else nI 0) else -1) = (if iN x (tn (σ 256)) && iN w 32 then sumI (crG σ x) 80 - (if σ (wdt 0 (tn w) + 1) = x then nI 1 else nI 0) else -1) := by
  rw [(P_in H).1, cr_eq H]
  by_cases h : (iN x (tn (ν 15 0)) && iN w 32) = true
  · rw [if_pos h, if_pos h]
    rw [Bool.and_eq_true] at h
    rw [(P_w H (iN_lt h.2 (by decide))).2.1]
  · rw [if_neg h, if_neg h]
theorem q_poisonShare (H : Pic 0 ν σ) : shr (cntP (ν 1) 0 (32 - 0)) = shr (cnt (fun k => ps (σ (wdt 0 (0 + k) + 1))) (32 - 0)) := by
  refine congrArg shr ?_
  unfold cntP
  exact cnt_eq _ _ _ (fun k hk => by
    show ps (ν 1 (0 + k)) = ps (σ (wdt 0 (0 + k) + 1))
    rw [(P_w H (show 0 + k < 32 by omega)).2.1])
theorem or_0 (a : Int32) : a ||| nI 0 = a := by
  apply Int32.toBitVec_inj.1
  show a.toBitVec ||| BitVec.ofNat 32 0 = a.toBitVec
  exact BitVec.or_zero
theorem or_2 (a b : Int32) : (a ||| b) ||| b = a ||| b := by
  apply Int32.toBitVec_inj.1
  show (a.toBitVec ||| b.toBitVec) ||| b.toBitVec = a.toBitVec ||| b.toBitVec
  rw [BitVec.or_assoc, BitVec.or_self]
theorem ar_t (M B : Int32) (s p0 p1 p2 p3 : Bool) : (((M ||| (if !s && p0 then B else nI 0)) ||| (if !s && p1 then B else nI 0)) ||| (if !s && p2 then B else nI 0)) ||| (if !s && p3 then B else nI 0) = if !s && (p0 || p1 || p2 || p3) then M ||| B else M := by
  cases s <;> cases p0 <;> cases p1 <;> cases p2 <;> cases p3 <;> simp only [↓reduceIte, Bool.false_eq_true, bI_true, bI_false, Bool.true_and, Bool.and_true, Bool.and_false, Bool.false_and, Bool.not_true, Bool.not_false, Bool.or_true, Bool.true_or, Bool.or_false, Bool.false_or, Bool.and_self, or_0, or_2]
theorem cnt_4 (p : Nat → Bool) : cnt p 4 = (fun f : Bool → Nat → Nat => f (p 3) (f (p 2) (f (p 1) (f (p 0) 0)))) (fun b n => if b then n + 1 else n) := rfl
theorem cnt_pos4 (p : Nat → Bool) : decide (0 < cnt p 4) = (p 0 || p 1 || p 2 || p 3) := by
  rw [cnt_4]
  cases p 0 <;> cases p 1 <;> cases p 2 <;> cases p 3 <;> rfl
theorem arG_eq (H : Pic 0 ν σ) {t j : Nat} (ht : t < 4) (hj : j < 4) (hk : k = t * 4 + j) : arG σ k = (!bz (ν 11 t) && ps (ν 7 (t * 4 + j))) := by
  subst hk
  have h1 := H.2.2.2.1.2.2 t ht
  have h2 := (P_r H (show t * 4 + j < 16 by omega)).2.1
  unfold arG
  rw [show (t * 4 + j) / 4 = t from by omega, show (t * 4 + j) % 4 = j from by omega, rgt_eq, h2, show 252 + t = 0 + 252 + t from by omega, h1]
  cases bz (ν 11 t) <;> first | rfl | (refine congrArg (· && _) ?_; decide)
theorem ar_s (H : Pic 0 ν σ) {t : Nat} (ht : t < 4) (e : arM σ (t * 4) = arC ν t) : arM σ ((t + 1) * 4) = arC ν (t + 1) := by
  rw [show (t + 1) * 4 = t * 4 + 1 + 1 + 1 + 1 from by omega]
  show (((arM σ (t * 4) ||| (if arG σ (t * 4) then nI 1 <<< (nI (t * 4 / 4) &&& 31) else nI 0)) ||| (if arG σ (t * 4 + 1) then nI 1 <<< (nI ((t * 4 + 1) / 4) &&& 31) else nI 0)) ||| (if arG σ (t * 4 + 1 + 1) then nI 1 <<< (nI ((t * 4 + 1 + 1) / 4) &&& 31) else nI 0)) ||| (if arG σ (t * 4 + 1 + 1 + 1) then nI 1 <<< (nI ((t * 4 + 1 + 1 + 1) / 4) &&& 31) else nI 0) = (if !bz (ν 11 t) && decide (0 < cntP (ν 7) (t * 4 + 0) (t * 4 + 4 - (t * 4 + 0))) then arC ν t ||| (nI 1 <<< (nI t &&& 31)) else arC ν t)
  rw [e, arG_eq (j := 0) H ht (by omega) (by omega), arG_eq (j := 1) H ht (by omega) (by omega), arG_eq (j := 2) H ht (by omega) (by omega), arG_eq (j := 3) H ht (by omega) (by omega), show t * 4 / 4 = t from by omega, show (t * 4 + 1) / 4 = t from by omega, show (t * 4 + 1 + 1) / 4 = t from by omega, show (t * 4 + 1 + 1 + 1) / 4 = t from by omega, ar_t, show t * 4 + 4 - (t * 4 + 0) = 4 from by omega]
  unfold cntP
  rw [cnt_pos4]
theorem q_atRisk (H : Pic 0 ν σ) : arC ν 4 = arM σ 16 := ((ar_s H (t := 3) (by decide) (ar_s H (t := 2) (by decide) (ar_s H (t := 1) (by decide) (ar_s H (t := 0) (by decide) rfl))))).symm
end QRY
