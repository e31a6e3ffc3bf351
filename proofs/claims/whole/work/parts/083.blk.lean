/-! the actions over several words -/
section BLK
variable {τ : MS} {ν : NS} {σ : MS}
theorem sumI_c (p : Nat → Bool) (g : Nat → Int32) : ∀ m : Nat, (∀ i, i < m → g i = bI (p i)) → sumI g m = nI (cnt p m)
  | 0, _ => rfl
  | m + 1, h => by
    show sumI g m + g m = _
    rw [sumI_c p g m (fun i hi => h i (by omega)), h m (by omega), cnt_s]
    cases q : p m
    · rw [if_neg (by decide)]; exact nI_add (cnt p m) 0
    · rw [if_pos rfl]; exact nI_add (cnt p m) 1
theorem cnt_eq (p q : Nat → Bool) : ∀ m : Nat, (∀ i, i < m → p i = q i) → cnt p m = cnt q m
  | 0, _ => rfl
  | m + 1, h => by
    rw [cnt_s, cnt_s, cnt_eq p q m (fun i hi => h i (by omega)), h m (by omega)]
theorem iB_lt {c : Int32} (h : iB c = true) : c = nI (tn c) ∧ 1 ≤ tn c ∧ tn c ≤ 16 := iB_eq h
/-- the last of some words is one -/
theorem last_w {x c : Int32} (hx : tn x < 32) (hc : 1 ≤ tn c ∧ tn c ≤ 16) : iN (nI (tn x + tn c - 1)) 32 = decide (tn x + tn c ≤ 32) := by
  rw [iN_nI (by omega) (by decide)]
  by_cases h : tn x + tn c ≤ 32
  · rw [decide_eq_true h]; exact decide_eq_true (by omega)
  · rw [decide_eq_false h]; exact decide_eq_false (by omega)
theorem fil_n {w : Nat} {v : Nat} (hv : v < 65536) (H : RP τ ν σ) : ∀ n : Nat, w + n ≤ 32 → RP τ (filN ν w (nI v) n) (filM σ w (nI v) n)
  | 0, _ => H
  | n + 1, h => RP_upd (RP_W (fil_n hv H n (by omega)) (by omega) (WH_n (by omega) (by decide)) mrk_no) (by omega)
theorem fil_1 {w v : Nat} : ∀ (n i : Nat), n ≤ i → filN ν w (nI v) n 1 (w + i) = ν 1 (w + i)
  | 0, _, _ => rfl
  | n + 1, i, h => by
    have e : filN ν w (nI v) (n + 1) 1 (w + i) = upd (filN ν w (nI v) n 1) (w + n) (-6) (w + i) := by
      show c_upd _ _ 1 _ = _
      unfold c_upd; split <;> rfl
    rw [e, upd_o (by omega)]
    exact fil_1 n i (by omega)
theorem op_fil {x c y : Int32} (H : RP τ ν σ) (hv : filOkM x c y = true) : OpR τ ν (s_fil ν x c y) (r_fil ν x c y) (sumI (filC σ (tn x) (nI (tn y))) (tn c)) (filM σ (tn x) (nI (tn y)) (tn c)) := by
  unfold filOkM at hv
  simp only [Bool.and_eq_true, decide_eq_true_eq] at hv
  obtain ⟨hx, hc, hy, hl⟩ := hv
  have a1 := iN_lt hx (by decide)
  have a2 := iB_lt hc
  have a3 := iN_lt hy (by decide)
  have hlast : iN (nI (tn x + tn c - 1)) 32 = true := by rw [last_w a1 ⟨a2.2.1, a2.2.2⟩]; exact decide_eq_true hl
  have e1 : sumI (filC σ (tn x) (nI (tn y))) (tn c) = nI (cntP (ν 1) (tn x) (tn x + tn c - tn x)) := by
    rw [Nat.add_sub_cancel_left]
    refine sumI_c (fun k => ps (ν 1 (tn x + k))) _ (tn c) (fun i hi => ?_)
    unfold filC
    rw [(RP_w (fil_n a3 H i (by omega)) (show tn x + i < 32 by omega)).2.1, fil_1 i i (Nat.le_refl i)]
  unfold OpR s_fil r_fil filOk
  rw [hx, hc, hy, hlast, e1]
  refine ⟨?_, ?_, ?_⟩ <;> (try simp only [↓reduceIte, Bool.false_eq_true, bI_true, bI_false, Bool.true_and, Bool.and_true, Bool.and_false, Bool.false_and, Bool.not_true, Bool.not_false, Bool.or_true, Bool.true_or, Bool.or_false, Bool.false_or, Bool.and_self])
  · exact fil_n a3 H (tn c) hl
  refine fun q => absurd q ?_
  rw [nErrN (by have := cnt_le (fun k => ps (ν 1 (tn x + k))) (tn x + tn c - tn x); unfold cntP; omega)]
  decide
theorem fet_n {f : Nat} (H : RP τ ν σ) : ∀ n : Nat, f + n ≤ 32 → RP τ (fetN ν f n) (fetM σ f n)
  | 0, _ => H
  | n + 1, h => RP_fetch (fet_n H n (by omega)) (by omega)
theorem fet_n2 {f : Nat} (H : RP τ ν σ) (n i : Nat) (hi : i < n) (h : f + n ≤ 32) : RP τ (fetN ν f (i + 1)) (fetM σ f (i + 1)) := fet_n H (i + 1) (by omega)
theorem upd_e {f : Nat → Int32} {k j : Nat} {v : Int32} (h : j = k) : upd f k v j = v := by rw [h, upd_s]
theorem red_n {f : Nat} {β : NS} {ρ : MS} (H : RP τ ν σ) : ∀ n : Nat, f + n ≤ 32 → ∀ i, i < n → redM σ ρ f n (3 * i) = blN ν β f n 0 i ∧ redM σ ρ f n (3 * i + 1) = blN ν β f n 1 i ∧ WH (blN ν β f n 0 i) 65535 ∧ mrk (blN ν β f n 1 i) (blN ν β f n 2 i) (redM σ ρ f n (3 * i + 2))
  | 0, _, i, hi => absurd hi (by omega)
  | n + 1, h, i, hi => by
    have c := RP_w (fet_n H (n + 1) h) (show f + n < 32 by omega)
    by_cases e : i = n
    · subst e
      have r0 : redM σ ρ f (i + 1) (3 * i) = fetM σ f (i + 1) (wdt 1560 (f + i)) := by
        show upd (upd (upd _ _ _) _ _) _ _ _ = _
        rw [upd_o (by omega), upd_o (by omega), upd_e (by omega)]; rfl
      have r1 : redM σ ρ f (i + 1) (3 * i + 1) = fetM σ f (i + 1) (wdt 1560 (f + i) + 1) := by
        show upd (upd (upd _ _ _) _ _) _ _ _ = _
        rw [upd_o (by omega), upd_e (by omega)]
      have r2 : redM σ ρ f (i + 1) (3 * i + 2) = fetM σ f (i + 1) (wdt 1560 (f + i) + 2) := by
        show upd (upd (upd _ _ _) _ _) _ _ _ = _
        rw [upd_e (by omega)]
      have b0 : blN ν β f (i + 1) 0 i = fetN ν f (i + 1) 0 (f + i) := upd_s
      have b1 : blN ν β f (i + 1) 1 i = fetN ν f (i + 1) 1 (f + i) := upd_s
      have b2 : blN ν β f (i + 1) 2 i = fetN ν f (i + 1) 2 (f + i) := upd_s
      rw [r0, r1, r2, b0, b1, b2]
      exact c
    · have r : ∀ j, j < 3 * n → redM σ ρ f (n + 1) j = redM σ ρ f n j := by
        intro j hj
        show upd (upd (upd _ _ _) _ _) _ _ _ = _
        rw [upd_o (by omega), upd_o (by omega), upd_o (by omega)]
      have b0 : blN ν β f (n + 1) 0 i = blN ν β f n 0 i := upd_o e
      have b1 : blN ν β f (n + 1) 1 i = blN ν β f n 1 i := upd_o e
      have b2 : blN ν β f (n + 1) 2 i = blN ν β f n 2 i := upd_o e
      rw [r _ (by omega), r _ (by omega), r _ (by omega), b0, b1, b2]
      exact red_n H n (by omega) i (by omega)
theorem put_n {t N : Nat} {β : NS} {ρ : MS} (hr : ∀ i, i < N → ρ (3 * i) = β 0 i ∧ ρ (3 * i + 1) = β 1 i ∧ WH (β 0 i) 65535 ∧ mrk (β 1 i) (β 2 i) (ρ (3 * i + 2))) (H : RP τ ν σ) : ∀ n : Nat, n ≤ N → t + n ≤ 32 → RP τ (putN ν β t n) (putM σ ρ t n)
  | 0, _, _ => H
  | n + 1, h1, h2 => by
    have c := hr n (by omega)
    show RP τ (c_put (putN ν β t n) (t + n) (β 0 n) (β 1 n) (β 2 n)) (mWr (lay (putM σ ρ t n) (wdt 1560 (t + n)) (ρ (3 * n)) (ρ (3 * n + 1)) (mor (ρ (3 * n + 2)))) 1560 (t + n))
    rw [c.1, c.2.1]
    exact RP_put (put_n hr H n (by omega) (by omega)) (by omega) c.2.2.1 c.2.2.2
theorem put_1 {t : Nat} {β : NS} : ∀ (n i : Nat), i < n → putN ν β t n 1 (t + i) = β 1 i
  | 0, _, h => absurd h (by omega)
  | n + 1, i, h => by
    have e : putN ν β t (n + 1) 1 (t + i) = upd (putN ν β t n 1) (t + n) (β 1 n) (t + i) := by
      show c_upd _ _ 1 _ = _
      unfold c_upd; split <;> rfl
    rw [e]
    by_cases q : i = n
    · rw [upd_e (by omega), q]
    · rw [upd_o (by omega)]
      exact put_1 n i (by omega)
theorem op_cpy {x y c : Int32} {β : NS} {ρ : MS} (H : RP τ ν σ) (hv : cpOkM x y c = true) : OpR τ ν (s_cpy ν β x y c) (r_cpy ν β x y c) (sumI (cpyC (fetM σ (tn x) (tn c)) (redM σ ρ (tn x) (tn c)) (tn y)) (tn c)) (putM (fetM σ (tn x) (tn c)) (redM σ ρ (tn x) (tn c)) (tn y) (tn c)) := by
  unfold cpOkM at hv
  simp only [Bool.and_eq_true, decide_eq_true_eq] at hv
  obtain ⟨hx, hy, hc, l1, l2⟩ := hv
  have a1 := iN_lt hx (by decide)
  have a2 := iN_lt hy (by decide)
  have a3 := iB_lt hc
  have z1 : iN (nI (tn x + tn c - 1)) 32 = true := by rw [last_w a1 ⟨a3.2.1, a3.2.2⟩]; exact decide_eq_true l1
  have z2 : iN (nI (tn y + tn c - 1)) 32 = true := by rw [last_w a2 ⟨a3.2.1, a3.2.2⟩]; exact decide_eq_true l2
  have K := fet_n (f := tn x) H (tn c) l1
  have hr := red_n (f := tn x) (β := β) (ρ := ρ) H (tn c) l1
  have L : ∀ n : Nat, n ≤ tn c → RP τ (putN (fetN ν (tn x) (tn c)) (blN ν β (tn x) (tn c)) (tn y) n) (putM (fetM σ (tn x) (tn c)) (redM σ ρ (tn x) (tn c)) (tn y) n) := fun n hn => put_n hr K n hn (by omega)
  have e0 : s_cpy ν β x y c = putN (fetN ν (tn x) (tn c)) (blN ν β (tn x) (tn c)) (tn y) (tn c) := by
    unfold s_cpy cpOk
    rw [hx, hy, hc, z1, z2]
    rfl
  have e1 : sumI (cpyC (fetM σ (tn x) (tn c)) (redM σ ρ (tn x) (tn c)) (tn y)) (tn c) = nI (cntP (s_cpy ν β x y c 1) (tn y) (tn y + tn c - tn y)) := by
    rw [Nat.add_sub_cancel_left, e0]
    refine sumI_c (fun k => ps (putN (fetN ν (tn x) (tn c)) (blN ν β (tn x) (tn c)) (tn y) (tn c) 1 (tn y + k))) _ (tn c) (fun i hi => ?_)
    unfold cpyC
    rw [(RP_w (L (i + 1) (by omega)) (show tn y + i < 32 by omega)).2.1, put_1 (i + 1) i (by omega)]
    show _ = bI (ps (putN (fetN ν (tn x) (tn c)) (blN ν β (tn x) (tn c)) (tn y) (tn c) 1 (tn y + i)))
    rw [put_1 (tn c) i hi]
  unfold OpR r_cpy
  rw [hx, hy, hc, z1, z2, e1]
  refine ⟨?_, ?_, ?_⟩ <;> (try simp only [↓reduceIte, Bool.false_eq_true, bI_true, bI_false, Bool.true_and, Bool.and_true, Bool.and_false, Bool.false_and, Bool.not_true, Bool.not_false, Bool.or_true, Bool.true_or, Bool.or_false, Bool.false_or, Bool.and_self])
  · rw [e0]; exact L (tn c) (Nat.le_refl _)
  refine fun q => absurd q ?_
  rw [nErrN (by have := cnt_le (fun k => ps (s_cpy ν β x y c 1 (tn y + k))) (tn y + tn c - tn y); unfold cntP; omega)]
  decide
theorem mul4 (p k : Nat) : p * 4 + k = 4 * p + k := by omega
theorem upd9 {μ : NS} {w : Nat} : c_upd μ w 9 = μ 9 := by
  unfold c_upd; split <;> rfl
theorem op_mir {x : Int32} {u : Bool} (H : RP τ ν σ) (hx : iN x 8 = true) : OpR τ ν (s_mir ν x u) (r_mir ν x u) (sumI (fun k => mMirS σ 1560 (tn x) u (1560 + 240 + k)) 8) (mMirS σ 1560 (tn x) u) := by
  have a1 := iN_lt hx (by decide)
  have K : RP τ (mirS ν (tn x) u) (mMirS σ 1560 (tn x) u) := by
    unfold mirS mMirS
    rw [mul4, mul4, mul4, mul4]
    exact RP_upd (RP_upd (RP_upd (RP_upd (RP_mir H a1) (by omega)) (by omega)) (by omega)) (by omega)
  have e1 : sumI (fun k => mMirS σ 1560 (tn x) u (1560 + 240 + k)) 8 = nI (cntB (mirS ν (tn x) u 9) 8) :=
    sumI_c (fun k => bz (mirS ν (tn x) u 9 k)) _ 8 (fun i hi => K.1.2.2.2.1.1 i hi)
  unfold OpR s_mir r_mir
  rw [hx, e1, if_pos rfl, if_pos rfl]
  refine ⟨rfl, K, fun q => absurd q ?_⟩
  rw [nErrN (by have := cntB_le (mirS ν (tn x) u 9) 8; omega)]
  decide
theorem heal_1 {μ : NS} {w : Nat} : c_fetch μ w 15 1 = μ 15 1 + bI (canH μ w) := by
  unfold c_fetch
  cases canH μ w
  · rw [if_neg (by decide), show bI false = (0 : Int32) from nI_0, Int32.add_zero]
  · rw [if_pos rfl]; rfl
theorem add_cancel (a b : Int32) : a + b - a = b := by rw [Int32.add_comm, Int32.add_sub_cancel]
theorem op_scr {x : Int32} (H : RP τ ν σ) (hx : iN x 8 = true) : OpR τ ν (s_scr ν x) (r_scr ν x) (mScrC σ 1560 (tn x)) (mScr σ 1560 (tn x)) := by
  have a1 := iN_lt hx (by decide)
  have K1 := RP_fetch H (show 4 * tn x < 32 by omega)
  have K2 := RP_fetch K1 (show 4 * tn x + 1 < 32 by omega)
  have K3 := RP_fetch K2 (show 4 * tn x + 1 + 1 < 32 by omega)
  have K4 := RP_fetch K3 (show 4 * tn x + 1 + 1 + 1 < 32 by omega)
  have e0 : scrS ν (tn x) = c_fetch (c_fetch (c_fetch (c_fetch ν (4 * tn x)) (4 * tn x + 1)) (4 * tn x + 1 + 1)) (4 * tn x + 1 + 1 + 1) := by
    unfold scrS
    rw [mul4, mul4, mul4, mul4]
    rfl
  have e1 : scrS ν (tn x) 15 1 - ν 15 1 = mScrC σ 1560 (tn x) ∧ ∃ k, k ≤ 4 ∧ mScrC σ 1560 (tn x) = nI k := by
    unfold mScrC
    rw [e0, heal_1, heal_1, heal_1, heal_1, RP_ch H (show 4 * tn x < 32 by omega), RP_ch K1 (show 4 * tn x + 1 < 32 by omega), RP_ch K2 (show 4 * tn x + 1 + 1 < 32 by omega), RP_ch K3 (show 4 * tn x + 1 + 1 + 1 < 32 by omega)]
    generalize canH ν (4 * tn x) = b1
    generalize canH (c_fetch ν (4 * tn x)) (4 * tn x + 1) = b2
    generalize canH (c_fetch (c_fetch ν (4 * tn x)) (4 * tn x + 1)) (4 * tn x + 1 + 1) = b3
    generalize canH (c_fetch (c_fetch (c_fetch ν (4 * tn x)) (4 * tn x + 1)) (4 * tn x + 1 + 1)) (4 * tn x + 1 + 1 + 1) = b4
    rw [Int32.add_assoc, Int32.add_assoc, Int32.add_assoc, add_cancel]
    refine ⟨?_, ?_⟩
    · cases b1 <;> cases b2 <;> cases b3 <;> cases b4 <;> first | rfl | decide
    · cases b1 <;> cases b2 <;> cases b3 <;> cases b4 <;> first | exact ⟨0, by decide, by decide⟩ | exact ⟨1, by decide, by decide⟩ | exact ⟨2, by decide, by decide⟩ | exact ⟨3, by decide, by decide⟩ | exact ⟨4, by decide, by decide⟩
  unfold OpR s_scr r_scr
  rw [hx, if_pos rfl, if_pos rfl]
  refine ⟨e1.1, ?_, fun q => absurd q ?_⟩
  · rw [e0]; exact K4
  · obtain ⟨k, hk, e⟩ := e1.2
    rw [e, nErrN (by omega)]
    decide
theorem op_mod {t m : Int32} (H : RP τ ν σ) (ht : iN t 4 = true) (hm : iN m 3 = true) : OpR τ ν (s_mod ν t m) (r_mod ν t m) (σ (1560 + 248 + tn t)) (upd σ (1560 + 248 + tn t) (nI (tn m))) := by
  have a1 := iN_lt ht (by decide)
  have a2 := iN_lt hm (by decide)
  have c := RP_md H a1
  unfold OpR s_mod r_mod
  rw [ht, hm, c.1]
  refine ⟨?_, ?_, ?_⟩ <;> (try simp only [↓reduceIte, Bool.false_eq_true, bI_true, bI_false, Bool.true_and, Bool.and_true, Bool.and_false, Bool.false_and, Bool.not_true, Bool.not_false, Bool.or_true, Bool.true_or, Bool.or_false, Bool.false_or, Bool.and_self])
  · exact RP_mod H a1 (by omega)
  · exact fun q => absurd q (by rw [nErr c.2 (by decide)]; decide)
theorem res_n4 {t : Nat} (H : RP τ ν σ) (ht : t < 4) : ∀ n : Nat, n ≤ 4 → ∃ μ : NS, RP τ μ (resM σ 1560 t n) ∧ (∀ i, n ≤ i → i < 4 → μ 7 (t * 4 + i) = ν 7 (t * 4 + i)) ∧ (n = 4 → up2 μ 11 (upd (ν 11) t (bI false)) = resS ν t) ∧ μ 11 = ν 11 ∧ (n = 0 → μ = ν) ∧ (n = 1 → μ = c_cleanR ν (t * 4 + 0) (nI 0)) ∧ (n = 2 → μ = c_cleanR (c_cleanR ν (t * 4 + 0) (nI 0)) (t * 4 + 1) (nI 0)) ∧ (n = 3 → μ = c_cleanR (c_cleanR (c_cleanR ν (t * 4 + 0) (nI 0)) (t * 4 + 1) (nI 0)) (t * 4 + 2) (nI 0))
  | 0, _ => ⟨ν, H, fun _ _ _ => rfl, fun h => absurd h (by omega), rfl, fun _ => rfl, fun h => absurd h (by omega), fun h => absurd h (by omega), fun h => absurd h (by omega)⟩
  | n + 1, h => by
    obtain ⟨μ, h1, h2, h3, h4, h5, h6, h7, h8⟩ := res_n4 H ht n (by omega)
    refine ⟨c_cleanR μ (t * 4 + n) (nI 0), ?_, fun i hi hi4 => ?_, fun e => ?_, h4, fun e => absurd e (by omega), fun e => ?_, fun e => ?_, fun e => ?_⟩
    · show RP τ _ (lay (resM σ 1560 t n) (rgt 1560 t n) (nI 0) (-6) (nI 0))
      rw [rgt_eq]
      exact RP_cleanR h1 (by omega) (WH_0 (by decide))
    · show upd (μ 7) (t * 4 + n) (-6) (t * 4 + i) = _
      rw [upd_o (by omega)]
      exact h2 i (by omega) hi4
    · rw [h8 (by omega), show n = 3 from by omega]; rfl
    · rw [h5 (by omega), show n = 0 from by omega]
    · rw [h6 (by omega), show n = 1 from by omega]
    · rw [h7 (by omega), show n = 2 from by omega]
theorem op_res {t : Int32} (H : RP τ ν σ) (ht : iN t 4 = true) : OpR τ ν (s_res ν t) (r_res ν t) (sumI (resG σ 1560 (tn t)) 4) (upd (resM σ 1560 (tn t) 4) (1560 + 252 + tn t) (nI 0)) := by
  have a1 := iN_lt ht (by decide)
  have e1 : sumI (resG σ 1560 (tn t)) 4 = nI (cntP (ν 7) (tn t * 4 + 0) (tn t * 4 + 4 - (tn t * 4 + 0))) := by
    rw [show tn t * 4 + 4 - (tn t * 4 + 0) = 4 from by omega]
    refine sumI_c (fun k => ps (ν 7 (tn t * 4 + 0 + k))) _ 4 (fun i hi => ?_)
    obtain ⟨μ, h1, h2, -⟩ := res_n4 H a1 i (by omega)
    unfold resG
    rw [rgt_eq, (RP_r h1 (show tn t * 4 + i < 16 by omega)).2.1, h2 i (Nat.le_refl i) hi]
    rfl
  obtain ⟨μ, h1, -, h3, h4, -⟩ := res_n4 H a1 4 (by omega)
  unfold OpR s_res r_res
  rw [ht, e1, if_pos rfl, if_pos rfl]
  refine ⟨rfl, ?_, fun q => absurd q ?_⟩
  · rw [← h3 rfl, ← h4]
    exact RP_stop (u := false) h1 a1
  · rw [nErrN (by have := cnt_le (fun k => ps (ν 7 (tn t * 4 + 0 + k))) (tn t * 4 + 4 - (tn t * 4 + 0)); unfold cntP; omega)]
    decide
end BLK
