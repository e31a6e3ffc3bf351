/-! the two readers -/
section RDR
variable {ch : Nat → Nat} {len : Nat}
theorem isd_eq {p : Nat} : isd ch len p = innN (sg ch len p) 48 57 := by
  unfold isd innN
  by_cases h : p < len
  · rw [sg_p h, decide_eq_true h, Bool.true_and]
  · rw [sg_n (by omega), decide_eq_false h, Bool.false_and]; rfl
theorem dOk_eq {p : Nat} : dOk ch len p = innN (sg ch len p) 48 51 := by
  unfold dOk isd innN
  by_cases h : p < len
  · rw [sg_p h, decide_eq_true h, Bool.true_and]
    by_cases h1 : 48 ≤ ch p
    · rw [decide_eq_true h1, Bool.true_and, Bool.true_and]
      by_cases h2 : ch p ≤ 51
      · rw [decide_eq_true h2, decide_eq_true (show ch p ≤ 57 by omega), decide_eq_true (show ch p - 48 < 4 by omega)]; rfl
      · rw [decide_eq_false h2, decide_eq_false (show ¬ ch p - 48 < 4 by omega), Bool.and_false]
    · rw [decide_eq_false h1]; rfl
  · rw [sg_n (by omega), decide_eq_false h, Bool.false_and, Bool.false_and]; rfl
theorem sOk_eq {c p : Nat} (hc : c ≠ 0) : sOk ch len c p = decide (sg ch len p = c) := by
  unfold sOk
  by_cases h : p < len
  · rw [sg_p h, decide_eq_true h, Bool.true_and]
  · rw [sg_n (by omega), decide_eq_false h, Bool.false_and, decide_eq_false (fun z => hc z.symm)]
theorem nl_eq {g : Nat} : ∀ (m m' p v : Nat), len ≤ p + m → len ≤ p + m' → nlp ch len g m p v = nlM ch len g m' p v
  | 0, m', p, v, h1, h2 => by
    rw [nlM_stop (fun z => by have := innN_t z.2.1; rw [sg_n (by omega)] at this; omega) m']; rfl
  | m + 1, 0, p, v, h1, h2 => by
    rw [nlp_stop (fun z => by have := (isd_t z.1).1; omega) (m + 1)]; rfl
  | m + 1, m' + 1, p, v, h1, h2 => by
    show (if isd ch len p = true ∧ v ≠ 0 ∧ v * 10 + (ch p - 48) ≤ g then nlp ch len g m (p + 1) (v * 10 + (ch p - 48)) else (p, v)) = (if 0 < v ∧ innN (sg ch len p) 48 57 = true ∧ 10 * v + sg ch len p - 48 ≤ g then nlM ch len g m' (p + 1) (10 * v + sg ch len p - 48) else (p, v))
    by_cases hd : isd ch len p = true
    · have hp := isd_t hd
      have hd2 : innN (sg ch len p) 48 57 = true := by rw [← isd_eq]; exact hd
      by_cases c : v ≠ 0 ∧ v * 10 + (ch p - 48) ≤ g
      · rw [if_pos ⟨hd, c⟩, if_pos ⟨by omega, hd2, by rw [sg_p hp.1]; omega⟩, sg_p hp.1, show 10 * v + ch p - 48 = v * 10 + (ch p - 48) from by omega]
        exact nl_eq m m' (p + 1) _ (by omega) (by omega)
      · rw [if_neg (fun z => c z.2), if_neg (fun z => c ⟨by omega, by have := z.2.2; rw [sg_p hp.1] at this; omega⟩)]
    · rw [if_neg (fun z => hd z.1), if_neg (fun z => hd (by rw [isd_eq]; exact z.2.1))]
/-- the places that are read are the text's -/
theorem dgR_len : ∀ (m k p : Nat) (nu : Nat → Nat), p ≤ len → (dgR ch len m k p nu).2.1 ≤ len
  | 0, _, _, _, h => h
  | m + 1, k, p, nu, h => by
    unfold dgR; split
    · rename_i c
      have h1 := innN_t c
      have h2 : p < len := sg_in (ch := ch) (by omega)
      exact dgR_len m (k + 1) (p + 1) _ (by omega)
    · exact h
theorem nlM_len {g : Nat} : ∀ (m p v : Nat), p ≤ len → (nlM ch len g m p v).1 ≤ len
  | 0, _, _, h => h
  | m + 1, p, v, h => by
    unfold nlM; split
    · rename_i c
      have h1 := innN_t c.2.1
      have h2 : p < len := sg_in (ch := ch) (by omega)
      exact nlM_len m (p + 1) _ (by omega)
    · exact h
theorem nuR_len {g p : Nat} (h : p ≤ len) : (nuR ch len g p).1 ≤ len := by
  unfold nuR; split
  · rename_i c
    have h1 := innN_t c
    have h2 : p < len := sg_in (ch := ch) (by omega)
    exact nlM_len 91 _ _ (by omega)
  · exact h
theorem tkP_len {c p : Nat} (hc : 0 < c) (h : p ≤ len) : tkP ch len c p ≤ len := by
  unfold tkP; split
  · rename_i e
    have : p < len := sg_in (ch := ch) (by omega)
    omega
  · exact h
theorem mLS_len {c g p : Nat} {nu : Nat → Nat} (hc : 0 < c) (h : p ≤ len) : (mLS ch len c g p nu).2.1 ≤ len := by
  unfold mLS; split
  · split
    · exact nuR_len (tkP_len hc (dgR_len 2 0 p nu h))
    · exact tkP_len hc (dgR_len 2 0 p nu h)
  · exact dgR_len 2 0 p nu h
theorem mOp_len {p : Nat} {nu : Nat → Nat} (h : p ≤ len) : (mOp ch len p nu).2.1 ≤ len := by
  by_cases hp : p < len
  · unfold mOp
    rcases mOpA_cases ch len (sg ch len p) p nu with ⟨-, e⟩ | ⟨-, e⟩ | ⟨-, e⟩ | ⟨-, e⟩ | ⟨-, e⟩ | ⟨-, e⟩ | ⟨-, e⟩ | e <;> rw [e]
    · exact mLS_len (by omega) (by omega)
    · exact mLS_len (by omega) (by omega)
    · exact dgR_len _ _ _ _ (by omega)
    · exact dgR_len _ _ _ _ (by omega)
    · exact dgR_len _ _ _ _ (by omega)
    · exact nuR_len (by omega)
    · exact mLS_len (by omega) (by omega)
    · exact h
  · rw [mOp_sg (sg_n (by omega))]; exact h
/-- the numbers that stood there before don't matter -/
theorem dgR_ind : ∀ (m k k' p : Nat) (nu nu' : Nat → Nat), (dgR ch len m k p nu).1 = (dgR ch len m k' p nu').1 ∧ (dgR ch len m k p nu).2.1 = (dgR ch len m k' p nu').2.1
  | 0, _, _, _, _, _ => ⟨rfl, rfl⟩
  | m + 1, k, k', p, nu, nu' => by
    unfold dgR; split
    · exact dgR_ind m (k + 1) (k' + 1) (p + 1) _ _
    · exact ⟨rfl, rfl⟩
theorem mLS_ind {c g p : Nat} {nu nu' : Nat → Nat} : (mLS ch len c g p nu).1 = (mLS ch len c g p nu').1 ∧ (mLS ch len c g p nu).2.1 = (mLS ch len c g p nu').2.1 := by
  have h := dgR_ind (ch := ch) (len := len) 2 0 0 p nu nu'
  unfold mLS
  rw [h.1, h.2]
  split
  · split
    · exact ⟨rfl, rfl⟩
    · exact ⟨rfl, rfl⟩
  · exact ⟨rfl, h.2⟩
theorem mOp_ind {p : Nat} {nu nu' : Nat → Nat} : (mOp ch len p nu).1 = (mOp ch len p nu').1 ∧ (mOp ch len p nu).2.1 = (mOp ch len p nu').2.1 := by
  unfold mOp mOpA
  split
  · exact mLS_ind
  · split
    · exact dgR_ind _ _ _ _ _ _
    · split
      · exact dgR_ind _ _ _ _ _ _
      · split
        · exact dgR_ind _ _ _ _ _ _
        · split
          · exact ⟨rfl, rfl⟩
          · split
            · exact mLS_ind
            · exact ⟨rfl, rfl⟩
/-- digits, one after the other -/
theorem rIts_d : ∀ (m : Nat) (cs : List Nat) (p pc : Nat) (pt : Nat → Nat), pc + m ≤ 5 → rIts ch len (List.replicate m 100 ++ cs) (p, pt, pc) = if (dgR ch len m pc p pt).1 = true then rIts ch len cs ((dgR ch len m pc p pt).2.1, (dgR ch len m pc p pt).2.2, pc + m) else (false, (dgR ch len m pc p pt).2.1, (dgR ch len m pc p pt).2.2, (rIts ch len (List.replicate m 100 ++ cs) (p, pt, pc)).2.2.2)
  | 0, cs, p, pc, pt, _ => by
    show rIts ch len cs (p, pt, pc) = if true = true then rIts ch len cs (p, pt, pc) else _
    rw [if_pos rfl]
  | m + 1, cs, p, pc, pt, h => by
    show (if dOk ch len p = true then rIts ch len (List.replicate m 100 ++ cs) (rD ch len (p, pt, pc)) else (false, rD ch len (p, pt, pc))) = _
    cases c : dOk ch len p with
    | true =>
      have c2 : innN (sg ch len p) 48 51 = true := by rw [← dOk_eq]; exact c
      have e1 : rD ch len (p, pt, pc) = (p + 1, updN pt pc (sg ch len p - 48), pc + 1) := by
        have hp := isd_t (by unfold dOk at c; rw [Bool.and_eq_true] at c; exact c.1 : isd ch len p = true)
        unfold rD addQ ptA pcA
        rw [if_pos c]
        show (p + 1, (if pc < 5 then updN pt pc (ch p - 48) else pt), (if pc < 5 then pc + 1 else pc)) = _
        rw [if_pos (by omega), if_pos (by omega), sg_p hp.1]
      have e2 : dgR ch len (m + 1) pc p pt = dgR ch len m (pc + 1) (p + 1) (updN pt pc (sg ch len p - 48)) := by
        show (if innN (sg ch len p) 48 51 = true then _ else _) = _
        rw [if_pos c2]
      have e3 : rIts ch len (List.replicate (m + 1) 100 ++ cs) (p, pt, pc) = rIts ch len (List.replicate m 100 ++ cs) (p + 1, updN pt pc (sg ch len p - 48), pc + 1) := by
        show (if dOk ch len p = true then rIts ch len (List.replicate m 100 ++ cs) (rD ch len (p, pt, pc)) else (false, rD ch len (p, pt, pc))) = _
        rw [if_pos c, e1]
      have K := rIts_d m cs (p + 1) (pc + 1) (updN pt pc (sg ch len p - 48)) (by omega)
      rw [if_pos rfl, e1, e2, e3, show pc + (m + 1) = pc + 1 + m from by omega]
      exact K
    | false =>
      have c2 : ¬ innN (sg ch len p) 48 51 = true := by rw [← dOk_eq, c]; decide
      have e1 : rD ch len (p, pt, pc) = (p, pt, pc) := by
        unfold rD
        rw [if_neg (by show ¬ dOk ch len p = true; rw [c]; decide)]
      have e2 : dgR ch len (m + 1) pc p pt = (false, p, pt) := by
        show (if innN (sg ch len p) 48 51 = true then _ else _) = _
        rw [if_neg c2]
      have e3 : rIts ch len (List.replicate (m + 1) 100 ++ cs) (p, pt, pc) = (false, p, pt, pc) := by
        show (if dOk ch len p = true then rIts ch len (List.replicate m 100 ++ cs) (rD ch len (p, pt, pc)) else (false, rD ch len (p, pt, pc))) = _
        rw [if_neg (by rw [c]; decide), e1]
      rw [if_neg (by decide), e1, e2, e3]
      exact (if_neg Bool.false_ne_true).symm
/-- a number at the end -/
theorem rIts_n {c g p pc : Nat} {pt : Nat → Nat} (hl : len ≤ 90) (hp : p ≤ len) (hpc : pc < 5) (hq : itQ ch len c (p, pt, pc) = rN ch len g (p, pt, pc)) (ho : itOk ch len c p = isd ch len p) : (rIts ch len [c] (p, pt, pc)).1 = nuOk ch len p ∧ (rIts ch len [c] (p, pt, pc)).2.1 = (nuR ch len g p).1 ∧ (rIts ch len [c] (p, pt, pc)).2.2.1 = (if nuOk ch len p then updN pt pc (nuR ch len g p).2 else pt) := by
  have e : rIts ch len [c] (p, pt, pc) = (isd ch len p, rN ch len g (p, pt, pc)) := by
    show (if itOk ch len c p = true then (true, itQ ch len c (p, pt, pc)) else (false, itQ ch len c (p, pt, pc))) = _
    rw [ho, hq]
    cases isd ch len p <;> rfl
  rw [e]
  have en : nuOk ch len p = isd ch len p := by unfold nuOk; rw [isd_eq]
  unfold rN nuR
  show isd ch len p = nuOk ch len p ∧ (if isd ch len p = true then addQ (p, pt, pc) (nlp ch len g 90 (p + 1) (ch p - 48)).1 (nlp ch len g 90 (p + 1) (ch p - 48)).2 else (p, pt, pc)).1 = _ ∧ (if isd ch len p = true then addQ (p, pt, pc) (nlp ch len g 90 (p + 1) (ch p - 48)).1 (nlp ch len g 90 (p + 1) (ch p - 48)).2 else (p, pt, pc)).2.1 = _
  rw [en]
  refine ⟨rfl, ?_⟩
  cases c1 : isd ch len p with
  | false =>
    rw [if_neg (by decide), if_neg (by decide), if_neg (by decide)]
    exact ⟨rfl, rfl⟩
  | true =>
    have hp2 := (isd_t c1).1
    rw [if_pos rfl, if_pos rfl, if_pos rfl, sg_p hp2, nl_eq (g := g) 90 91 (p + 1) (ch p - 48) (by omega) (by omega)]
    unfold addQ ptA
    refine ⟨rfl, ?_⟩
    show (if pc < 5 then updN pt pc (nlM ch len g 91 (p + 1) (ch p - 48)).2 else pt) = _
    rw [if_pos hpc]
/-- two digits, a sign and a number -/
theorem rIts_ls {c n g p : Nat} {pt : Nat → Nat} (hl : len ≤ 90) (hp : p ≤ len) (hc : c ≠ 0) (hq : ∀ q : Q4, itQ ch len n q = rN ch len g q) (ho : ∀ p : Nat, itOk ch len n p = isd ch len p) (hs : ∀ q : Q4, itQ ch len c q = rS ch len c q) (hs2 : ∀ p : Nat, itOk ch len c p = sOk ch len c p) : (rIts ch len [100, 100, c, n] (p, pt, 0)).1 = (mLS ch len c g p pt).1 ∧ (rIts ch len [100, 100, c, n] (p, pt, 0)).2.1 = (mLS ch len c g p pt).2.1 ∧ (rIts ch len [100, 100, c, n] (p, pt, 0)).2.2.1 = (mLS ch len c g p pt).2.2 := by
  have K := rIts_d (ch := ch) (len := len) 2 [c, n] p 0 pt (by omega)
  have K : rIts ch len [100, 100, c, n] (p, pt, 0) = if (dgR ch len 2 0 p pt).1 = true then rIts ch len [c, n] ((dgR ch len 2 0 p pt).2.1, (dgR ch len 2 0 p pt).2.2, 2) else (false, (dgR ch len 2 0 p pt).2.1, (dgR ch len 2 0 p pt).2.2, (rIts ch len [100, 100, c, n] (p, pt, 0)).2.2.2) := K
  unfold mLS
  have hd := dgR_len (ch := ch) 2 0 p pt hp
  cases h1 : (dgR ch len 2 0 p pt).1 with
  | false =>
    rw [h1, if_neg (by decide)] at K
    rw [K, if_neg (by decide)]
    exact ⟨rfl, rfl, rfl⟩
  | true =>
    rw [h1, if_pos rfl] at K
    rw [K, if_pos rfl]
    have e : rIts ch len [c, n] ((dgR ch len 2 0 p pt).2.1, (dgR ch len 2 0 p pt).2.2, 2) = if sOk ch len c (dgR ch len 2 0 p pt).2.1 = true then rIts ch len [n] (rS ch len c ((dgR ch len 2 0 p pt).2.1, (dgR ch len 2 0 p pt).2.2, 2)) else (false, rS ch len c ((dgR ch len 2 0 p pt).2.1, (dgR ch len 2 0 p pt).2.2, 2)) := by
      show (if itOk ch len c (dgR ch len 2 0 p pt).2.1 = true then rIts ch len [n] (itQ ch len c ((dgR ch len 2 0 p pt).2.1, (dgR ch len 2 0 p pt).2.2, 2)) else (false, itQ ch len c ((dgR ch len 2 0 p pt).2.1, (dgR ch len 2 0 p pt).2.2, 2))) = _
      rw [hs2, hs]
    rw [e]
    unfold rS tkP
    show (if sOk ch len c (dgR ch len 2 0 p pt).2.1 = true then rIts ch len [n] (if sOk ch len c (dgR ch len 2 0 p pt).2.1 = true then ((dgR ch len 2 0 p pt).2.1 + 1, (dgR ch len 2 0 p pt).2.2, 2) else ((dgR ch len 2 0 p pt).2.1, (dgR ch len 2 0 p pt).2.2, 2)) else (false, (if sOk ch len c (dgR ch len 2 0 p pt).2.1 = true then ((dgR ch len 2 0 p pt).2.1 + 1, (dgR ch len 2 0 p pt).2.2, 2) else ((dgR ch len 2 0 p pt).2.1, (dgR ch len 2 0 p pt).2.2, 2)))).1 = _ ∧ (if sOk ch len c (dgR ch len 2 0 p pt).2.1 = true then rIts ch len [n] (if sOk ch len c (dgR ch len 2 0 p pt).2.1 = true then ((dgR ch len 2 0 p pt).2.1 + 1, (dgR ch len 2 0 p pt).2.2, 2) else ((dgR ch len 2 0 p pt).2.1, (dgR ch len 2 0 p pt).2.2, 2)) else (false, (if sOk ch len c (dgR ch len 2 0 p pt).2.1 = true then ((dgR ch len 2 0 p pt).2.1 + 1, (dgR ch len 2 0 p pt).2.2, 2) else ((dgR ch len 2 0 p pt).2.1, (dgR ch len 2 0 p pt).2.2, 2)))).2.1 = _ ∧ (if sOk ch len c (dgR ch len 2 0 p pt).2.1 = true then rIts ch len [n] (if sOk ch len c (dgR ch len 2 0 p pt).2.1 = true then ((dgR ch len 2 0 p pt).2.1 + 1, (dgR ch len 2 0 p pt).2.2, 2) else ((dgR ch len 2 0 p pt).2.1, (dgR ch len 2 0 p pt).2.2, 2)) else (false, (if sOk ch len c (dgR ch len 2 0 p pt).2.1 = true then ((dgR ch len 2 0 p pt).2.1 + 1, (dgR ch len 2 0 p pt).2.2, 2) else ((dgR ch len 2 0 p pt).2.1, (dgR ch len 2 0 p pt).2.2, 2)))).2.2.1 = _
    rw [sOk_eq hc]
    by_cases h2 : sg ch len (dgR ch len 2 0 p pt).2.1 = c
    · have hlt : (dgR ch len 2 0 p pt).2.1 < len := sg_in (ch := ch) (by omega)
      simp only [decide_eq_true h2, if_pos h2, ↓reduceIte]
      exact rIts_n (c := n) (g := g) hl (by omega) (by decide) (hq _) (ho _)
    · refine ⟨?_, ?_, ?_⟩ <;> simp only [decide_eq_false h2, if_neg h2, Bool.false_eq_true, ↓reduceIte]
theorem rIts_ds {m p : Nat} {pt : Nat → Nat} {cs : List Nat} (hm : m ≤ 5) (h0 : cs = List.replicate m 100 ++ []) : (rIts ch len cs (p, pt, 0)).1 = (dgR ch len m 0 p pt).1 ∧ (rIts ch len cs (p, pt, 0)).2.1 = (dgR ch len m 0 p pt).2.1 ∧ (rIts ch len cs (p, pt, 0)).2.2.1 = (dgR ch len m 0 p pt).2.2 := by
  have K := rIts_d (ch := ch) (len := len) m [] p 0 pt (by omega)
  rw [← h0] at K
  cases h1 : (dgR ch len m 0 p pt).1 with
  | false =>
    rw [h1, if_neg (by decide)] at K
    rw [K]
    exact ⟨rfl, rfl, rfl⟩
  | true =>
    rw [h1, if_pos rfl] at K
    rw [K]
    exact ⟨rfl, rfl, rfl⟩
theorem ne_ls {c g p : Nat} {nu : Nat → Nat} {F : Prop} (e : mLS ch len c g (p + 1) nu = (false, p, nu)) : F := by
  have h := mLS_ge (ch := ch) (len := len) (c := c) (g := g) (p := p + 1) (nu := nu)
  rw [e] at h
  exact absurd h (Nat.not_succ_le_self p)
theorem ne_dg {m p : Nat} {nu : Nat → Nat} {F : Prop} (e : dgR ch len m 0 (p + 1) nu = (false, p, nu)) : F := by
  have h := dgR_ge (ch := ch) (len := len) m 0 (p + 1) nu
  rw [e] at h
  exact absurd h (Nat.not_succ_le_self p)
theorem ne_nu {p : Nat} {nu : Nat → Nat} {F : Prop} (e : mNu ch len 0 31 (p + 1) nu = (false, p, nu)) : F := by
  have h := nuR_ge (ch := ch) (len := len) (g := 31) (p := p + 1)
  have h2 : (mNu ch len 0 31 (p + 1) nu).2.1 = (nuR ch len 31 (p + 1)).1 := rfl
  rw [← h2, e] at h
  exact absurd h (Nat.not_succ_le_self p)
theorem rO_mOp {p pc : Nat} {pt : Nat → Nat} (hl : len ≤ 90) (hp : p ≤ len) : (rO ch len (p, pt, pc)).1 = (mOp ch len p pt).1 ∧ (rO ch len (p, pt, pc)).2.1 = (mOp ch len p pt).2.1 ∧ (rO ch len (p, pt, pc)).2.2.1 = (mOp ch len p pt).2.2 := by
  have hlt : sg ch len p ≠ 0 → p < len := fun h => sg_in (ch := ch) (by omega)
  have hx : ∃ x, x = sg ch len p := ⟨_, rfl⟩
  obtain ⟨x, hx⟩ := hx
  have hm : mOp ch len p pt = mOpA ch len x p pt := by unfold mOp; rw [hx]
  rw [hm]
  rcases mOpA_cases ch len x p pt with ⟨e1, e⟩ | ⟨e1, e⟩ | ⟨e1, e⟩ | ⟨e1, e⟩ | ⟨e1, e⟩ | ⟨e1, e⟩ | ⟨e1, e⟩ | e
  · rw [e, rO_at (q := (p, pt, pc)) (x := x) (i := 0) (cs := [100, 100, 44, 119]) hx.symm (by rw [e1]; rfl) (by decide) (by decide)]
    exact rIts_ls (g := 31) hl (by have := hlt (by omega); show p + 1 ≤ len; omega) (by decide) (fun _ => itQ_w) (fun _ => itOk_w) (fun _ => itQ_c) (fun _ => itOk_c)
  · rw [e, rO_at (q := (p, pt, pc)) (x := x) (i := 0) (cs := [100, 100, 44, 119]) hx.symm (by rw [e1]; rfl) (by decide) (by decide)]
    exact rIts_ls (g := 31) hl (by have := hlt (by omega); show p + 1 ≤ len; omega) (by decide) (fun _ => itQ_w) (fun _ => itOk_w) (fun _ => itQ_c) (fun _ => itOk_c)
  · rw [e, rO_at (q := (p, pt, pc)) (x := x) (i := 1) (cs := [100, 100, 100]) hx.symm (by rw [e1]; rfl) (by decide) (by decide)]
    exact rIts_ds (m := 3) (by decide) rfl
  · rw [e, rO_at (q := (p, pt, pc)) (x := x) (i := 2) (cs := [100, 100, 100, 100, 100]) hx.symm (by rw [e1]; rfl) (by decide) (by decide)]
    exact rIts_ds (m := 5) (by decide) rfl
  · rw [e, rO_at (q := (p, pt, pc)) (x := x) (i := 3) (cs := [100, 100]) hx.symm (by rw [e1]; rfl) (by decide) (by decide)]
    exact rIts_ds (m := 2) (by decide) rfl
  · rw [e, rO_at (q := (p, pt, pc)) (x := x) (i := 4) (cs := [119]) hx.symm (by rw [e1]; rfl) (by decide) (by decide)]
    exact rIts_n (c := 119) (g := 31) hl (by have := hlt (by omega); show p + 1 ≤ len; omega) (by decide) itQ_w itOk_w
  · rw [e, rO_at (q := (p, pt, pc)) (x := x) (i := 5) (cs := [100, 100, 61, 110]) hx.symm (by rw [e1]; rfl) (by decide) (by decide)]
    exact rIts_ls (g := 65535) hl (by have := hlt (by omega); show p + 1 ≤ len; omega) (by decide) (fun _ => itQ_n) (fun _ => itOk_n) (fun _ => itQ_e) (fun _ => itOk_e)
  · by_cases hs : shi x = 6
    · rw [e, rO_no (q := (p, pt, pc)) (x := x) hx.symm hs]
      exact ⟨rfl, rfl, rfl⟩
    · exfalso
      unfold shi at hs
      unfold mOpA at e
      by_cases z : x = 76 ∨ x = 83
      · rw [if_pos z] at e
        exact ne_ls e
      · rw [if_neg z] at e hs
        by_cases z2 : x = 77
        · rw [if_pos z2] at e; exact ne_dg e
        · rw [if_neg z2] at e hs
          by_cases z3 : x = 65
          · rw [if_pos z3] at e; exact ne_dg e
          · rw [if_neg z3] at e hs
            by_cases z4 : x = 79
            · rw [if_pos z4] at e; exact ne_dg e
            · rw [if_neg z4] at e hs
              by_cases z5 : x = 73
              · rw [if_pos z5] at e; exact ne_nu e
              · rw [if_neg z5] at e hs
                by_cases z6 : x = 86
                · rw [if_pos z6] at e; exact ne_ls e
                · rw [if_neg z6] at hs; exact hs rfl
end RDR
