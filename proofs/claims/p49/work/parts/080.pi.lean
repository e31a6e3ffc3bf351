/-! the property's own theory: what the class's state ν always is -/
theorem WH_n {k n : Nat} (h : k ≤ n) (hn : n < 2 ^ 31) : WH (nI k) n := ⟨by rw [tn_nI (by omega)], by rw [tn_nI (by omega)]; exact h⟩
theorem WH_0 {n : Nat} (hn : n < 2 ^ 31) : WH (nI 0) n := WH_n (Nat.zero_le n) hn
theorem iN_n {k n : Nat} (h : k < n) (hn : n < 2 ^ 31) : iN (nI k) n = true := by rw [iN_nI (by omega) hn]; exact decide_eq_true h
def rm8 (x : Int32) : Int32 := x - x / nI 256 * nI 256
def mby (x : Int32) (p : Nat) : Int32 := if p = 0 then rm8 x else x / nI 256
def mbv (x y : Int32) (p : Nat) : Int32 := if p = 0 then x / nI 256 * nI 256 + rm8 y else nI 256 * rm8 y + rm8 x
theorem nI_and {a k : Nat} (h : a < 2 ^ 31) (hk : k ≤ 31) (m : Int32) (hm : m.toBitVec.toNat = 2 ^ k - 1) : nI a &&& m = nI (a % 2 ^ k) := pk_andN (by omega) k hm
theorem byt_0 {x : Nat} (h : x < 65536) : byt (nI x) 0 = nI (x % 256) := by
  unfold byt
  have e : (nI (8 * 0) &&& 31 : Int32) = 0 := by decide
  rw [e, pk_shrN (by omega) 0 0 (by decide)]
  exact (pk_andN (k := 8) (by omega) (by decide)).trans (congrArg nI (by omega))
theorem byt_1 {x : Nat} (h : x < 65536) : byt (nI x) 1 = nI (x / 256) := by
  unfold byt
  have e : (nI (8 * 1) &&& 31 : Int32) = 8 := by decide
  rw [e, pk_shrN (by omega) 8 8 (by decide)]
  exact (pk_andN (k := 8) (by omega) (by decide)).trans (congrArg nI (by omega))
theorem rm8_n {x : Nat} (h : x < 65536) : rm8 (nI x) = nI (x % 256) := by
  unfold rm8
  rw [pk_rem (by omega) (by decide) (by decide)]
theorem nI_or (a b : Nat) : nI a ||| nI b = nI (a ||| b) := by
  apply Int32.toBitVec_inj.1
  show BitVec.ofNat 32 a ||| BitVec.ofNat 32 b = BitVec.ofNat 32 (a ||| b)
  apply BitVec.eq_of_getLsbD_eq
  intro i hi
  simp [hi]
theorem nI_an (a b : Nat) : nI a &&& nI b = nI (a &&& b) := by
  apply Int32.toBitVec_inj.1
  show BitVec.ofNat 32 a &&& BitVec.ofNat 32 b = BitVec.ofNat 32 (a &&& b)
  apply BitVec.eq_of_getLsbD_eq
  intro i hi
  simp [hi]
theorem or_lo {a b : Nat} (hb : b < 256) : (256 * a) ||| b = 256 * a + b := by
  have h := Nat.two_pow_add_eq_or_of_lt (i := 8) (show b < 2 ^ 8 by omega) a
  rw [show (2 : Nat) ^ 8 = 256 from rfl] at h
  exact h.symm
theorem and_hi {x : Nat} (h : x < 65536) : x &&& 65280 = 256 * (x / 256) := by
  have e : 65280 = 255 * 2 ^ 8 := by decide
  apply Nat.eq_of_testBit_eq
  intro i
  rw [Nat.testBit_and, show 256 * (x / 256) = (x / 2 ^ 8) * 2 ^ 8 from by omega, Nat.testBit_mul_two_pow, Nat.testBit_div_two_pow, e, Nat.testBit_mul_two_pow]
  by_cases c : 8 ≤ i
  · rw [show i - 8 + 8 = i from by omega, decide_eq_true c, Bool.true_and, Bool.true_and, show (255 : Nat) = 2 ^ 8 - 1 from rfl, Nat.testBit_two_pow_sub_one]
    by_cases d : i - 8 < 8
    · rw [decide_eq_true d, Bool.and_true]
    · rw [decide_eq_false d, Bool.and_false, Nat.testBit_lt_two_pow (show x < 2 ^ i from Nat.lt_of_lt_of_le h (by rw [show (65536 : Nat) = 2 ^ 16 from rfl]; exact Nat.pow_le_pow_right (by decide) (by omega)))]
  · rw [decide_eq_false c, Bool.false_and, Bool.false_and, Bool.and_false]
theorem byP_n {x y p : Nat} (hx : x < 65536) (hy : y < 65536) (hp : p < 2) : byP (nI x) (nI y) p = mbv (nI x) (nI y) p ∧ WH (mbv (nI x) (nI y) p) 65535 := by
  unfold byP mbv
  rw [byt_0 hy, rm8_n hy, rm8_n hx, pk_div (by omega) (by decide) (by decide)]
  rcases (show p = 0 ∨ p = 1 by omega) with e | e
  · subst e
    rw [if_pos rfl]
    have e1 : (nI 255 <<< (nI (8 * (1 - 0)) &&& 31) : Int32) = nI 65280 := by decide
    have e2 : (nI (8 * 0) &&& 31 : Int32) = 0 := by decide
    rw [e1, e2, pk_shlN 0 0 (by decide) (by omega), nI_an, nI_or, and_hi hx, show y % 256 * 2 ^ 0 = y % 256 from by omega, or_lo (by omega), pk_mul, nI_add]
    exact ⟨congrArg nI (by omega), WH_n (by omega) (by decide)⟩
  · subst e
    rw [if_neg (by decide)]
    have e1 : (nI 255 <<< (nI (8 * (1 - 1)) &&& 31) : Int32) = nI 255 := by decide
    have e2 : (nI (8 * 1) &&& 31 : Int32) = 8 := by decide
    rw [e1, e2, pk_shlN 8 8 (by decide) (by omega), pk_andN (k := 8) (by omega) (by decide), nI_or, Nat.or_comm, show y % 256 * 2 ^ 8 = 256 * (y % 256) from by omega, or_lo (show x % 2 ^ 8 < 256 by omega), pk_mul, nI_add]
    exact ⟨congrArg nI (by omega), WH_n (by omega) (by decide)⟩
theorem and_16 (x : Int32) : x &&& nI 65535 = nI (x.toBitVec.toNat % 65536) := pk_and x 16 (by decide)
theorem nI_n6 {n : Nat} (h : n < 2 ^ 31) : nI n ≠ -6 := by
  intro q
  have := congrArg Int32.toInt q
  rw [nI_toInt h] at this
  have e : (-6 : Int32).toInt = -6 := by decide
  omega
theorem ps_n {j : Nat} (h : j < 2 ^ 31) : ps (nI j) = true := by
  unfold ps
  rw [decide_eq_false (nI_n6 h)]
  rfl
theorem ps_6 : ps (-6) = false := by decide
theorem byt_W {x p : Nat} (h : x < 65536) (hp : p < 2) : WH (byt (nI x) p) 65535 := by
  rcases (show p = 0 ∨ p = 1 by omega) with e | e
  · subst e; rw [byt_0 h]; exact WH_n (by omega) (by decide)
  · subst e; rw [byt_1 h]; exact WH_n (by omega) (by decide)
theorem byP_W {x y p : Nat} (hx : x < 65536) (hy : y < 65536) (hp : p < 2) : WH (byP (nI x) (nI y) p) 65535 := by
  have h := byP_n hx hy hp
  rw [h.1]; exact h.2
theorem calq_W {q x y : Nat} (hx : x < 65536) (hy : y < 65536) : WH (calq q (nI x) (nI y)) 65535 := by
  unfold calq
  split
  · rw [and_16]; exact WH_n (by omega) (by decide)
  · split
    · rw [and_16]; exact WH_n (by omega) (by decide)
    · split
      · rw [nx_xor]; exact WH_n (Nat.le_of_lt_succ (Nat.xor_lt_two_pow (n := 16) hx hy)) (by decide)
      · rw [and_16]; exact WH_n (by omega) (by decide)
/-- a mark: none, or an origin below n with at most 99 hops; with 0 hops z holds of the origin -/
def mk (n : Nat) (z : Nat → Prop) (o h : Int32) : Prop := (o = -6 ∧ h = -6) ∨ ∃ j i : Nat, o = nI j ∧ h = nI i ∧ j < n ∧ i ≤ 99 ∧ (i = 0 → z j)
theorem mk_no {n : Nat} {z : Nat → Prop} : mk n z (-6) (-6) := Or.inl ⟨rfl, rfl⟩
theorem mk_mono {n n' : Nat} {z z' : Nat → Prop} {o h : Int32} (hn : n ≤ n') (hz : ∀ j, j < n → z j → z' j) (H : mk n z o h) : mk n' z' o h := by
  rcases H with H | ⟨j, i, e1, e2, h1, h2, h3⟩
  · exact Or.inl H
  · exact Or.inr ⟨j, i, e1, e2, by omega, h2, fun q => hz j h1 (h3 q)⟩
theorem mk_hp {n : Nat} {z z' : Nat → Prop} {o h : Int32} (hn : n ≤ 20) (H : mk n z o h) : mk n z' o (hp o h) := by
  rcases H with ⟨e1, e2⟩ | ⟨j, i, e1, e2, h1, h2, -⟩
  · subst e1
    refine Or.inl ⟨rfl, ?_⟩
    unfold hp
    rw [ps_6, if_neg Bool.false_ne_true]
  · subst e1; subst e2
    right
    unfold hp
    rw [ps_n (by omega), if_pos rfl, nI_add]
    by_cases c : i < 99
    · rw [if_neg (fun q => absurd ((nI_ltI (by decide) (by omega)).mp q) (by omega))]
      exact ⟨j, i + 1, rfl, rfl, h1, by omega, fun q => absurd q (by omega)⟩
    · rw [if_pos ((nI_ltI (by decide) (by omega)).mpr (by omega))]
      exact ⟨j, 99, rfl, rfl, h1, by omega, fun q => absurd q (by decide)⟩
def setW (ν : NS) (w : Nat) (v o h : Int32) : NS := up2 (up2 (up2 ν 0 (upd (ν 0) w v)) 1 (upd (ν 1) w o)) 2 (upd (ν 2) w h)
def setS (ν : NS) (w : Nat) (v o h : Int32) : NS := up2 (up2 (up2 ν 3 (upd (ν 3) w v)) 4 (upd (ν 4) w o)) 5 (upd (ν 5) w h)
def setR (ν : NS) (w : Nat) (v o h : Int32) : NS := up2 (up2 (up2 ν 6 (upd (ν 6) w v)) 7 (upd (ν 7) w o)) 8 (upd (ν 8) w h)
def PI (ν : NS) : Prop := (WH (ν 15 0) 20 ∧ WH (ν 14 0) 8) ∧ (∀ k : Nat, k < 32 → WH (ν 0 k) 65535 ∧ mk (tn (ν 15 0)) (fun j => ν 12 j = nI k) (ν 1 k) (ν 2 k)) ∧ (∀ k : Nat, k < 32 → WH (ν 3 k) 65535 ∧ mk (tn (ν 15 0)) (fun j => ν 12 j = nI k) (ν 4 k) (ν 5 k)) ∧ (∀ k : Nat, k < 16 → WH (ν 6 k) 65535 ∧ mk (tn (ν 15 0)) (fun _ => False) (ν 7 k) (ν 8 k)) ∧ (∀ t : Nat, t < 4 → WH (ν 10 t) 2)
theorem PI.hi {ν : NS} (H : PI ν) : WH (ν 15 0) 20 := H.1.1
theorem PI.hh {ν : NS} (H : PI ν) : WH (ν 14 0) 8 := H.1.2
theorem PI.w {ν : NS} {k : Nat} (H : PI ν) (hk : k < 32) : WH (ν 0 k) 65535 ∧ mk (tn (ν 15 0)) (fun j => ν 12 j = nI k) (ν 1 k) (ν 2 k) := H.2.1 k hk
theorem PI.s {ν : NS} {k : Nat} (H : PI ν) (hk : k < 32) : WH (ν 3 k) 65535 ∧ mk (tn (ν 15 0)) (fun j => ν 12 j = nI k) (ν 4 k) (ν 5 k) := H.2.2.1 k hk
theorem PI.r {ν : NS} {k : Nat} (H : PI ν) (hk : k < 16) : WH (ν 6 k) 65535 ∧ mk (tn (ν 15 0)) (fun _ => False) (ν 7 k) (ν 8 k) := H.2.2.2.1 k hk
theorem PI.m {ν : NS} {t : Nat} (H : PI ν) (ht : t < 4) : WH (ν 10 t) 2 := H.2.2.2.2 t ht
section PIS
variable {ν : NS} {w k t j : Nat} {v o h x : Int32}
theorem PI_W (H : PI ν) (hv : WH v 65535) (hm : mk (tn (ν 15 0)) (fun j => ν 12 j = nI w) o h) : PI (setW ν w v o h) := by
  refine ⟨H.1, fun k hk => ?_, H.2.2.1, H.2.2.2.1, H.2.2.2.2⟩
  show WH (upd (ν 0) w v k) 65535 ∧ mk (tn (ν 15 0)) (fun j => ν 12 j = nI k) (upd (ν 1) w o k) (upd (ν 2) w h k)
  by_cases e : k = w
  · rw [e, upd_s, upd_s, upd_s]; exact ⟨hv, hm⟩
  · rw [upd_o e, upd_o e, upd_o e]; exact H.w hk
theorem PI_S (H : PI ν) (hv : WH v 65535) (hm : mk (tn (ν 15 0)) (fun j => ν 12 j = nI w) o h) : PI (setS ν w v o h) := by
  refine ⟨H.1, H.2.1, fun k hk => ?_, H.2.2.2.1, H.2.2.2.2⟩
  show WH (upd (ν 3) w v k) 65535 ∧ mk (tn (ν 15 0)) (fun j => ν 12 j = nI k) (upd (ν 4) w o k) (upd (ν 5) w h k)
  by_cases e : k = w
  · rw [e, upd_s, upd_s, upd_s]; exact ⟨hv, hm⟩
  · rw [upd_o e, upd_o e, upd_o e]; exact H.s hk
theorem PI_R (H : PI ν) (hv : WH v 65535) (hm : mk (tn (ν 15 0)) (fun _ => False) o h) : PI (setR ν w v o h) := by
  refine ⟨H.1, H.2.1, H.2.2.1, fun k hk => ?_, H.2.2.2.2⟩
  show WH (upd (ν 6) w v k) 65535 ∧ mk (tn (ν 15 0)) (fun _ => False) (upd (ν 7) w o k) (upd (ν 8) w h k)
  by_cases e : k = w
  · rw [e, upd_s, upd_s, upd_s]; exact ⟨hv, hm⟩
  · rw [upd_o e, upd_o e, upd_o e]; exact H.r hk
/-- a word's value alone -/
theorem PI_V (H : PI ν) (hv : WH v 65535) : PI (up2 ν 0 (upd (ν 0) w v)) := by
  refine ⟨H.1, fun k hk => ?_, H.2.2.1, H.2.2.2.1, H.2.2.2.2⟩
  show WH (upd (ν 0) w v k) 65535 ∧ mk (tn (ν 15 0)) (fun j => ν 12 j = nI k) (ν 1 k) (ν 2 k)
  by_cases e : k = w
  · rw [e, upd_s]; rw [e] at hk; exact ⟨hv, (H.w hk).2⟩
  · rw [upd_o e]; exact H.w hk
theorem PI_heal (H : PI ν) : PI (up2 ν 15 (upd (ν 15) 1 x)) := ⟨H.1, H.2.1, H.2.2.1, H.2.2.2.1, H.2.2.2.2⟩
theorem PI_9 {f : Nat → Int32} (H : PI ν) : PI (up2 ν 9 f) := ⟨H.1, H.2.1, H.2.2.1, H.2.2.2.1, H.2.2.2.2⟩
theorem PI_11 {f : Nat → Int32} (H : PI ν) : PI (up2 ν 11 f) := ⟨H.1, H.2.1, H.2.2.1, H.2.2.2.1, H.2.2.2.2⟩
theorem PI_10 {m : Nat} (H : PI ν) (hm : m ≤ 2) : PI (up2 ν 10 (upd (ν 10) t (nI m))) := by
  refine ⟨H.1, H.2.1, H.2.2.1, H.2.2.2.1, fun u hu => ?_⟩
  show WH (upd (ν 10) t (nI m) u) 2
  by_cases e : u = t
  · rw [e, upd_s]; exact WH_n hm (by decide)
  · rw [upd_o e]; exact H.m hu
theorem PI_log {r : Nat} (H : PI ν) : PI (c_log ν t r k) := by
  refine ⟨⟨H.1.1, ?_⟩, H.2.1, H.2.2.1, H.2.2.2.1, H.2.2.2.2⟩
  show WH (nI (min (tn (ν 14 0) + 1) 8)) 8
  exact WH_n (by omega) (by decide)
theorem PI_fetch (H : PI ν) (hw : w < 32) : PI (c_fetch ν w) := by
  unfold c_fetch; split
  · exact PI_heal (PI_W H (H.s hw).1 (H.s hw).2)
  · exact H
theorem PI_upd (H : PI ν) (hw : w < 32) : PI (c_upd ν w) := by
  unfold c_upd; split
  · exact PI_S H (H.w hw).1 (H.w hw).2
  · exact H
theorem PI_put {z : Nat → Prop} {so sh : Int32} (H : PI ν) (hw : w < 32) (hx : WH x 65535) (hm : mk (tn (ν 15 0)) z so sh) : PI (c_put ν w x so sh) :=
  PI_upd (PI_W H hx (mk_hp H.hi.2 hm)) hw
theorem PI_take1 (H : PI ν) (hw : w < 32) : PI (c_take1 ν k w) := PI_R H (H.w hw).1 (mk_hp H.hi.2 (H.w hw).2)
theorem PI_take (H : PI ν) (hw : w < 32) : PI (c_take ν k w) := PI_take1 (PI_fetch H hw) hw
theorem PI_clean (H : PI ν) (hx : WH x 65535) : PI (c_clean ν w x) := PI_W H hx mk_no
theorem PI_cleanR (H : PI ν) (hx : WH x 65535) : PI (c_cleanR ν k x) := PI_R H hx mk_no
theorem PI_clp (H : PI ν) : PI (c_clp ν k) := by
  unfold c_clp; split
  · exact PI_cleanR H (WH_0 (by decide))
  · exact H
theorem PI_flt {r a b : Nat} (H : PI ν) : PI (u_flt ν t r a b) := by
  unfold u_flt; split
  · exact PI_clp (PI_clp (PI_log H))
  · split
    · exact PI_11 (PI_log H)
    · exact PI_log H
theorem PI_use {a b : Nat} (H : PI ν) : PI (u_st ν t a b) := by
  unfold u_st; split
  · exact PI_flt H
  · split
    · exact PI_flt H
    · exact H
theorem PI_mov (H : PI ν) (hj : j < 16) : PI (movS ν k j) := PI_R H (H.r hj).1 (mk_hp H.hi.2 (H.r hj).2)
theorem PI_sto (H : PI ν) (hk : k < 16) (hw : w < 32) : PI (stoS ν k w) := PI_put H hw (H.r hk).1 (H.r hk).2
theorem ldp_eq {μ : NS} {k w : Nat} {x : Int32} : up2 (c_take1 μ k w) 6 (upd (c_take1 μ k w 6) k x) = setR μ k x (μ 1 w) (hp (μ 1 w) (μ 2 w)) := by
  funext c
  by_cases e6 : c = 6
  · subst e6
    show upd (upd (μ 6) k (μ 0 w)) k x = upd (μ 6) k x
    funext j
    by_cases f : j = k
    · rw [f, upd_s, upd_s]
    · rw [upd_o f, upd_o f, upd_o f]
  · by_cases e7 : c = 7
    · subst e7; rfl
    · by_cases e8 : c = 8
      · subst e8; rfl
      · unfold setR c_take1 up2
        simp only [if_neg e6, if_neg e7, if_neg e8]
theorem PI_ldp {p : Nat} (H : PI ν) (hw : w < 32) (hp2 : p < 2) : PI (ldpS ν k w p) ∧ WH (byt (c_fetch ν w 0 w) p) 65535 := by
  have K := PI_fetch H hw
  have c := K.w hw
  have hb : WH (byt (c_fetch ν w 0 w) p) 65535 := by
    obtain ⟨e1, e2⟩ := c.1
    rw [e1]; exact byt_W (by omega) hp2
  refine ⟨?_, hb⟩
  show PI (up2 (c_take1 (c_fetch ν w) k w) 6 (upd (c_take1 (c_fetch ν w) k w 6) k (byt (c_fetch ν w 0 w) p)))
  rw [ldp_eq]
  exact PI_R K hb (mk_hp K.hi.2 c.2)
theorem PI_stb2 {p : Nat} (H : PI ν) (hk : k < 16) (hw : w < 32) (hp2 : p < 2) : PI (stbS2 ν k w p) := by
  have hb : WH (byP (ν 0 w) (ν 6 k) p) 65535 := by
    obtain ⟨e1, e2⟩ := (H.w hw).1
    obtain ⟨e3, e4⟩ := (H.r hk).1
    rw [e1, e3]; exact byP_W (by omega) (by omega) hp2
  unfold stbS2; split
  · exact PI_W H hb (mk_hp H.hi.2 (H.r hk).2)
  · exact PI_V H hb
theorem PI_stb {p : Nat} (H : PI ν) (hk : k < 16) (hw : w < 32) (hp2 : p < 2) : PI (stbS ν k w p) := PI_upd (PI_stb2 (PI_fetch H hw) hk hw hp2) hw
theorem PI_inj (H : PI ν) (hw : w < 32) (hn : tn (ν 15 0) < 20) : PI (c_inj ν w) := by
  have hm : ∀ (k : Nat) (o h : Int32), mk (tn (ν 15 0)) (fun j => ν 12 j = nI k) o h → mk (tn (nI (tn (ν 15 0) + 1))) (fun j => upd (ν 12) (tn (ν 15 0)) (nI w) j = nI k) o h := by
    intro k o h hk
    rw [tn_nI (by omega)]
    refine mk_mono (by omega) (fun j hj e => ?_) hk
    rw [upd_o (by omega)]; exact e
  refine ⟨⟨?_, H.1.2⟩, fun k hk => ?_, fun k hk => ?_, fun k hk => ?_, H.2.2.2.2⟩
  · show WH (nI (tn (ν 15 0) + 1)) 20
    exact WH_n (by omega) (by decide)
  · show WH (ν 0 k) 65535 ∧ mk (tn (nI (tn (ν 15 0) + 1))) (fun j => upd (ν 12) (tn (ν 15 0)) (nI w) j = nI k) (upd (ν 1) w (nI (tn (ν 15 0))) k) (upd (ν 2) w (nI 0) k)
    refine ⟨(H.w hk).1, ?_⟩
    by_cases e : k = w
    · rw [e, upd_s, upd_s, tn_nI (by omega)]
      exact Or.inr ⟨tn (ν 15 0), 0, rfl, rfl, by omega, by omega, fun _ => upd_s⟩
    · rw [upd_o e, upd_o e]; exact hm _ _ _ (H.w hk).2
  · show WH (ν 3 k) 65535 ∧ mk (tn (nI (tn (ν 15 0) + 1))) (fun j => upd (ν 12) (tn (ν 15 0)) (nI w) j = nI k) (ν 4 k) (ν 5 k)
    exact ⟨(H.s hk).1, hm _ _ _ (H.s hk).2⟩
  · show WH (ν 6 k) 65535 ∧ mk (tn (nI (tn (ν 15 0) + 1))) (fun _ => False) (ν 7 k) (ν 8 k)
    rw [tn_nI (by omega)]
    exact ⟨(H.r hk).1, mk_mono (by omega) (fun _ _ q => q) (H.r hk).2⟩
/-! what stays -/
theorem n_fetch : c_fetch ν w 15 0 = ν 15 0 := by unfold c_fetch; split <;> rfl
theorem n_upd : c_upd ν w 15 0 = ν 15 0 := by unfold c_upd; split <;> rfl
theorem n_put {so sh : Int32} : c_put ν w x so sh 15 0 = ν 15 0 := n_upd
theorem l_fetch : c_fetch ν w 14 = ν 14 := by unfold c_fetch; split <;> rfl
theorem l_upd : c_upd ν w 14 = ν 14 := by unfold c_upd; split <;> rfl
theorem l_put {so sh : Int32} : c_put ν w x so sh 14 = ν 14 := l_upd
theorem l_take : c_take ν k w 14 = ν 14 := l_fetch
theorem l_clp : c_clp ν k 14 = ν 14 := by unfold c_clp; split <;> rfl
theorem l_flt {r a b : Nat} : u_flt ν t r a b 14 1 = ν 14 1 + nI 1 := by
  unfold u_flt; split
  · rw [l_clp, l_clp]; rfl
  · split <;> rfl
theorem l_use {a b : Nat} : u_st ν t a b 14 1 = ν 14 1 ∨ u_st ν t a b 14 1 = ν 14 1 + nI 1 := by
  unfold u_st; split
  · exact Or.inr l_flt
  · split
    · exact Or.inr l_flt
    · exact Or.inl rfl
theorem l_stb2 {p : Nat} : stbS2 ν k w p 14 = ν 14 := by unfold stbS2; split <;> rfl
theorem l_stb {p : Nat} : stbS ν k w p 14 = ν 14 := by
  show c_upd (stbS2 (c_fetch ν w) k w p) w 14 = ν 14
  rw [l_upd, l_stb2, l_fetch]
theorem PI_fetN {f : Nat} (H : PI ν) : ∀ n : Nat, f + n ≤ 32 → PI (fetN ν f n)
  | 0, _ => H
  | n + 1, h => PI_fetch (PI_fetN H n (by omega)) (by omega)
theorem n_fetN {f : Nat} : ∀ n : Nat, fetN ν f n 15 0 = ν 15 0
  | 0 => rfl
  | n + 1 => n_fetch.trans (n_fetN n)
theorem l_fetN {f : Nat} : ∀ n : Nat, fetN ν f n 14 = ν 14
  | 0 => rfl
  | n + 1 => l_fetch.trans (l_fetN n)
theorem bl_v {f : Nat} {β : NS} : ∀ m i : Nat, i < m → blN ν β f m 0 i = fetN ν f (i + 1) 0 (f + i) ∧ blN ν β f m 1 i = fetN ν f (i + 1) 1 (f + i) ∧ blN ν β f m 2 i = fetN ν f (i + 1) 2 (f + i)
  | 0, _, h => absurd h (by omega)
  | m + 1, i, h => by
    show upd (blN ν β f m 0) m (fetN ν f (m + 1) 0 (f + m)) i = _ ∧ upd (blN ν β f m 1) m (fetN ν f (m + 1) 1 (f + m)) i = _ ∧ upd (blN ν β f m 2) m (fetN ν f (m + 1) 2 (f + m)) i = _
    by_cases e : i = m
    · rw [e, upd_s, upd_s, upd_s]; exact ⟨rfl, rfl, rfl⟩
    · rw [upd_o e, upd_o e, upd_o e]
      exact bl_v m i (by omega)
theorem PI_putN {t N n0 : Nat} {β : NS} (hb : ∀ i, i < N → WH (β 0 i) 65535 ∧ ∃ z, mk n0 z (β 1 i) (β 2 i)) : ∀ n : Nat, n ≤ N → t + n ≤ 32 → PI ν → tn (ν 15 0) = n0 → PI (putN ν β t n) ∧ tn (putN ν β t n 15 0) = n0
  | 0, _, _, H, h => ⟨H, h⟩
  | n + 1, h1, h2, H, h => by
    obtain ⟨K, e⟩ := PI_putN (t := t) hb n (by omega) (by omega) H h
    obtain ⟨c1, z, c2⟩ := hb n (by omega)
    refine ⟨PI_put (z := z) K (by omega) c1 (by rw [e]; exact c2), ?_⟩
    show tn (c_put (putN ν β t n) (t + n) (β 0 n) (β 1 n) (β 2 n) 15 0) = n0
    rw [n_put]; exact e
theorem l_putN {t : Nat} {β : NS} : ∀ n : Nat, putN ν β t n 14 = ν 14
  | 0 => rfl
  | n + 1 => l_put.trans (l_putN n)
theorem putN_c {t : Nat} {β γ : NS} : ∀ n : Nat, (∀ i, i < n → β 0 i = γ 0 i ∧ β 1 i = γ 1 i ∧ β 2 i = γ 2 i) → putN ν β t n = putN ν γ t n
  | 0, _ => rfl
  | n + 1, h => by
    obtain ⟨h1, h2, h3⟩ := h n (by omega)
    show c_put (putN ν β t n) (t + n) (β 0 n) (β 1 n) (β 2 n) = c_put (putN ν γ t n) (t + n) (γ 0 n) (γ 1 n) (γ 2 n)
    rw [putN_c n (fun i hi => h i (by omega)), h1, h2, h3]
/-- the scratch block doesn't matter -/
theorem cpy_b {x y c : Int32} {β γ : NS} : s_cpy ν β x y c = s_cpy ν γ x y c := by
  unfold s_cpy
  rw [putN_c (β := blN ν β (tn x) (tn c)) (γ := blN ν γ (tn x) (tn c)) (tn c) (fun i hi => by
    have a := bl_v (ν := ν) (f := tn x) (β := β) (tn c) i hi
    have b := bl_v (ν := ν) (f := tn x) (β := γ) (tn c) i hi
    rw [a.1, a.2.1, a.2.2, b.1, b.2.1, b.2.2]
    exact ⟨rfl, rfl, rfl⟩)]
theorem cpy_r {x y c : Int32} {β γ : NS} : r_cpy ν β x y c = r_cpy ν γ x y c := by
  unfold r_cpy
  rw [cpy_b (β := β) (γ := γ)]
theorem PI_filN {w0 v0 : Nat} (H : PI ν) (hv : v0 < 65536) : ∀ n : Nat, w0 + n ≤ 32 → PI (filN ν w0 (nI v0) n)
  | 0, _ => H
  | n + 1, h => PI_upd (PI_clean (PI_filN H hv n (by omega)) (WH_n (by omega) (by decide))) (by omega)
theorem l_filN {w0 : Nat} : ∀ n : Nat, filN ν w0 x n 14 = ν 14
  | 0 => rfl
  | n + 1 => l_upd.trans (l_filN n)
end PIS
