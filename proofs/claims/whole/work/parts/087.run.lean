/-! the text's fault, its run, and what would be -/
section RUN
variable {ch : Nat → Nat} {len : Nat}
theorem fault_eq (hl : len ≤ 90) : ∀ (m p kd le pc : Nat) (pt nu : Nat → Nat), p ≤ len → len ≤ p + m → (fF ch len m kd (p, pt, pc)).1 = (if (ixT ch len (m + 1) p le nu).1 = true then -6 else nI (ixT ch len (m + 1) p le nu).2.1)
  | 0, p, kd, le, pc, pt, nu, h1, h2 => by
    have e : ixT ch len (0 + 1) p le nu = (false, p, sg ch len p, nu) := by
      show (if (mOp ch len p nu).1 = true then _ else _) = _
      rw [mOp_sg (sg_n (by omega)), if_neg Bool.false_ne_true]
    rw [e, if_neg Bool.false_ne_true]
    rfl
  | m + 1, p, kd, le, pc, pt, nu, h1, h2 => by
    obtain ⟨k1, k2, k3⟩ := rO_mOp (ch := ch) (p := p) (pc := pc) (pt := pt) hl h1
    obtain ⟨i1, i2⟩ := mOp_ind (ch := ch) (len := len) (p := p) (nu := pt) (nu' := nu)
    have hlen := mOp_len (ch := ch) (nu := nu) h1
    show (if (rO ch len (p, pt, pc)).1 = true then (if len ≤ (rO ch len (p, pt, pc)).2.1 then (-6, sg ch len p, (rO ch len (p, pt, pc)).2) else if sOk ch len 59 (rO ch len (p, pt, pc)).2.1 = true then fF ch len m (sg ch len p) (rS ch len 59 (rO ch len (p, pt, pc)).2) else (nI (rS ch len 59 (rO ch len (p, pt, pc)).2).1, sg ch len p, rS ch len 59 (rO ch len (p, pt, pc)).2)) else (nI (rO ch len (p, pt, pc)).2.1, sg ch len p, (rO ch len (p, pt, pc)).2)).1 = _
    have e : ixT ch len (m + 1 + 1) p le nu = (if (mOp ch len p nu).1 = true then (if (mOp ch len p nu).2.1 = len then (true, (mOp ch len p nu).2.1, sg ch len p, (mOp ch len p nu).2.2) else if sg ch len (mOp ch len p nu).2.1 = 59 then ixT ch len (m + 1) ((mOp ch len p nu).2.1 + 1) (sg ch len p) (mOp ch len p nu).2.2 else (false, (mOp ch len p nu).2.1, sg ch len p, (mOp ch len p nu).2.2)) else (false, (mOp ch len p nu).2.1, sg ch len p, (mOp ch len p nu).2.2)) := rfl
    rw [e, k1, k2, i1, i2, sOk_eq (by decide)]
    by_cases c1 : (mOp ch len p nu).1 = true
    · have hge := mOp_ge c1
      rw [if_pos c1, if_pos c1]
      by_cases c2 : (mOp ch len p nu).2.1 = len
      · rw [if_pos (by omega), if_pos c2, if_pos rfl]
      · rw [if_neg (by omega), if_neg c2]
        by_cases c3 : sg ch len (mOp ch len p nu).2.1 = 59
        · have hlt : (mOp ch len p nu).2.1 < len := sg_in (ch := ch) (by omega)
          rw [if_pos (decide_eq_true c3), if_pos c3]
          have er : rS ch len 59 (rO ch len (p, pt, pc)).2 = ((mOp ch len p nu).2.1 + 1, (rO ch len (p, pt, pc)).2.2.1, (rO ch len (p, pt, pc)).2.2.2) := by
            unfold rS
            rw [sOk_eq (by decide), k2, i2, decide_eq_true c3, if_pos rfl]
          rw [er]
          exact fault_eq hl m _ _ _ _ _ _ (by omega) (by omega)
        · rw [if_neg (by rw [decide_eq_false c3]; decide), if_neg c3, if_neg Bool.false_ne_true]
          have er : (rS ch len 59 (rO ch len (p, pt, pc)).2).1 = (mOp ch len p nu).2.1 := by
            unfold rS
            rw [sOk_eq (by decide), k2, i2, decide_eq_false c3, if_neg Bool.false_ne_true, k2, i2]
          show nI (rS ch len 59 (rO ch len (p, pt, pc)).2).1 = _
          rw [er]
    · rw [if_neg c1, if_neg c1, if_neg Bool.false_ne_true]
theorem q_fault {kd le : Nat} {q : Q4} {nu : Nat → Nat} (hl : len ≤ 90) : (fF ch len 90 kd (0, q.2)).1 = (if (ixT ch len 91 0 le nu).1 then -6 else nI (ixT ch len 91 0 le nu).2.1) :=
  fault_eq hl 90 0 kd le q.2.2 q.2.1 nu (Nat.zero_le len) (by omega)
/-- from here on the text is whole -/
def good (ch : Nat → Nat) (len p : Nat) : Prop := ∃ (m le : Nat) (nu : Nat → Nat), (ixT ch len m p le nu).1 = true
theorem good_go {p : Nat} (h : good ch len p) (nu : Nat → Nat) : (mOp ch len p nu).1 = true ∧ ((mOp ch len p nu).2.1 = len ∨ (sg ch len (mOp ch len p nu).2.1 = 59 ∧ good ch len ((mOp ch len p nu).2.1 + 1))) := by
  obtain ⟨m, le, nu', h⟩ := h
  cases m with
  | zero => exact absurd h Bool.false_ne_true
  | succ m =>
    obtain ⟨i1, i2⟩ := mOp_ind (ch := ch) (len := len) (p := p) (nu := nu) (nu' := nu')
    rw [i1, i2]
    have e : ixT ch len (m + 1) p le nu' = (if (mOp ch len p nu').1 = true then (if (mOp ch len p nu').2.1 = len then (true, (mOp ch len p nu').2.1, sg ch len p, (mOp ch len p nu').2.2) else if sg ch len (mOp ch len p nu').2.1 = 59 then ixT ch len m ((mOp ch len p nu').2.1 + 1) (sg ch len p) (mOp ch len p nu').2.2 else (false, (mOp ch len p nu').2.1, sg ch len p, (mOp ch len p nu').2.2)) else (false, (mOp ch len p nu').2.1, sg ch len p, (mOp ch len p nu').2.2)) := rfl
    rw [e] at h
    by_cases c1 : (mOp ch len p nu').1 = true
    · refine ⟨c1, ?_⟩
      rw [if_pos c1] at h
      by_cases c2 : (mOp ch len p nu').2.1 = len
      · exact Or.inl c2
      · rw [if_neg c2] at h
        by_cases c3 : sg ch len (mOp ch len p nu').2.1 = 59
        · rw [if_pos c3] at h
          exact Or.inr ⟨c3, m, _, _, h⟩
        · rw [if_neg c3] at h
          exact absurd h Bool.false_ne_true
    · rw [if_neg c1] at h
      exact absurd h Bool.false_ne_true
/-- how many numbers a letter needs -/
def usd (le : Nat) : Nat := if le = 65 then 5 else if le = 79 then 2 else if le = 73 then 1 else 3
theorem dgR_ag : ∀ (m k p : Nat) (nu nu' : Nat → Nat), (dgR ch len m k p nu).1 = true → ∀ j, (j < k → nu j = nu' j) → j < k + m → (dgR ch len m k p nu).2.2 j = (dgR ch len m k p nu').2.2 j
  | 0, k, p, nu, nu', _, j, h1, h2 => h1 (by omega)
  | m + 1, k, p, nu, nu', h, j, h1, h2 => by
    unfold dgR at h ⊢
    split at h
    · rename_i c
      rw [if_pos c, if_pos c]
      refine dgR_ag m (k + 1) (p + 1) _ _ h j (fun hj => ?_) (by omega)
      unfold updN
      by_cases e : j = k
      · rw [if_pos e, if_pos e]
      · rw [if_neg e, if_neg e]; exact h1 (by omega)
    · cases h
theorem mLS_ag {c g p : Nat} {nu nu' : Nat → Nat} (h : (mLS ch len c g p nu).1 = true) : ∀ j, j < 3 → (mLS ch len c g p nu).2.2 j = (mLS ch len c g p nu').2.2 j := by
  intro j hj
  obtain ⟨i1, i2⟩ := dgR_ind (ch := ch) (len := len) 2 0 0 p nu nu'
  unfold mLS at h ⊢
  rw [← i1, ← i2]
  by_cases c1 : (dgR ch len 2 0 p nu).1 = true
  · rw [if_pos c1] at h ⊢
    rw [if_pos c1]
    by_cases c2 : sg ch len (dgR ch len 2 0 p nu).2.1 = c
    · rw [if_pos c2] at h ⊢
      rw [if_pos c2]
      have h3 : nuOk ch len (tkP ch len c (dgR ch len 2 0 p nu).2.1) = true := h
      show (if nuOk ch len (tkP ch len c (dgR ch len 2 0 p nu).2.1) = true then updN _ 2 _ else _) j = (if nuOk ch len (tkP ch len c (dgR ch len 2 0 p nu).2.1) = true then updN _ 2 _ else _) j
      rw [if_pos h3, if_pos h3]
      unfold updN
      by_cases e : j = 2
      · rw [if_pos e, if_pos e]
      · rw [if_neg e, if_neg e]
        exact dgR_ag 2 0 p nu nu' c1 j (fun z => absurd z (by omega)) (by omega)
    · rw [if_neg c2] at h
      exact absurd h Bool.false_ne_true
  · rw [if_neg c1] at h
    exact absurd h Bool.false_ne_true
theorem mOp_ag {p : Nat} {nu nu' : Nat → Nat} (h : (mOp ch len p nu).1 = true) : ∀ j, j < usd (sg ch len p) → (mOp ch len p nu).2.2 j = (mOp ch len p nu').2.2 j := by
  unfold mOp mOpA at h ⊢
  unfold usd
  by_cases z : sg ch len p = 76 ∨ sg ch len p = 83
  · rw [if_pos z] at h
    rw [if_pos z, if_pos z, if_neg (by omega), if_neg (by omega), if_neg (by omega)]
    exact mLS_ag h
  · rw [if_neg z] at h
    rw [if_neg z, if_neg z]
    by_cases z2 : sg ch len p = 77
    · rw [if_pos z2] at h
      rw [if_pos z2, if_pos z2, if_neg (by omega), if_neg (by omega), if_neg (by omega)]
      exact fun j hj => dgR_ag 3 0 _ nu nu' h j (fun z => absurd z (by omega)) (by omega)
    · rw [if_neg z2] at h
      rw [if_neg z2, if_neg z2]
      by_cases z3 : sg ch len p = 65
      · rw [if_pos z3] at h
        rw [if_pos z3, if_pos z3, if_pos z3]
        exact fun j hj => dgR_ag 5 0 _ nu nu' h j (fun z => absurd z (by omega)) (by omega)
      · rw [if_neg z3] at h
        rw [if_neg z3, if_neg z3, if_neg z3]
        by_cases z4 : sg ch len p = 79
        · rw [if_pos z4] at h
          rw [if_pos z4, if_pos z4, if_pos z4]
          exact fun j hj => dgR_ag 2 0 _ nu nu' h j (fun z => absurd z (by omega)) (by omega)
        · rw [if_neg z4] at h
          rw [if_neg z4, if_neg z4, if_neg z4]
          by_cases z5 : sg ch len p = 73
          · rw [if_pos z5] at h
            rw [if_pos z5, if_pos z5, if_pos z5]
            intro j hj
            have h3 : nuOk ch len (p + 1) = true := h
            show (if nuOk ch len (p + 1) = true then updN nu 0 _ else nu) j = (if nuOk ch len (p + 1) = true then updN nu' 0 _ else nu') j
            rw [if_pos h3, if_pos h3, show j = 0 from by omega]
            rfl
          · rw [if_neg z5] at h
            rw [if_neg z5, if_neg z5, if_neg z5]
            by_cases z6 : sg ch len p = 86
            · rw [if_pos z6] at h
              rw [if_pos z6, if_pos z6]
              exact mLS_ag h
            · rw [if_neg z6] at h
              exact absurd h Bool.false_ne_true
theorem pf_ag {ν : NS} {le : Nat} {pt nu : Nat → Nat} (h : ∀ j, j < usd le → pt j = nu j) : pfS ν le pt = pfS ν le nu ∧ pfR ν le pt = pfR ν le nu := by
  by_cases z : le = 76
  · subst z
    show s_ld ν (nI (pt 0)) (nI (pt 1)) (nI (pt 2)) = s_ld ν (nI (nu 0)) (nI (nu 1)) (nI (nu 2)) ∧ r_ld ν (nI (pt 0)) (nI (pt 1)) (nI (pt 2)) = r_ld ν (nI (nu 0)) (nI (nu 1)) (nI (nu 2))
    rw [h 0 (by decide), h 1 (by decide), h 2 (by decide)]; exact ⟨rfl, rfl⟩
  · by_cases z1 : le = 83
    · subst z1
      show s_sto ν (nI (pt 0)) (nI (pt 1)) (nI (pt 2)) = s_sto ν (nI (nu 0)) (nI (nu 1)) (nI (nu 2)) ∧ r_sto ν (nI (pt 0)) (nI (pt 1)) (nI (pt 2)) = r_sto ν (nI (nu 0)) (nI (nu 1)) (nI (nu 2))
      rw [h 0 (by decide), h 1 (by decide), h 2 (by decide)]; exact ⟨rfl, rfl⟩
    · by_cases z2 : le = 77
      · subst z2
        show s_mov ν (nI (pt 0)) (nI (pt 1)) (nI (pt 2)) = s_mov ν (nI (nu 0)) (nI (nu 1)) (nI (nu 2)) ∧ r_mov ν (nI (pt 0)) (nI (pt 1)) (nI (pt 2)) = r_mov ν (nI (nu 0)) (nI (nu 1)) (nI (nu 2))
        rw [h 0 (by decide), h 1 (by decide), h 2 (by decide)]; exact ⟨rfl, rfl⟩
      · by_cases z3 : le = 65
        · subst z3
          show s_cmp ν (nI (pt 0)) (nI (pt 1)) (nI (pt 2)) (nI (pt 3)) (nI (pt 4)) = s_cmp ν (nI (nu 0)) (nI (nu 1)) (nI (nu 2)) (nI (nu 3)) (nI (nu 4)) ∧ r_cmp ν (nI (pt 0)) (nI (pt 1)) (nI (pt 2)) (nI (pt 3)) (nI (pt 4)) = r_cmp ν (nI (nu 0)) (nI (nu 1)) (nI (nu 2)) (nI (nu 3)) (nI (nu 4))
          rw [h 0 (by decide), h 1 (by decide), h 2 (by decide), h 3 (by decide), h 4 (by decide)]; exact ⟨rfl, rfl⟩
        · by_cases z4 : le = 79
          · subst z4
            show s_out ν (nI (pt 0)) (nI (pt 1)) = s_out ν (nI (nu 0)) (nI (nu 1)) ∧ r_out ν (nI (pt 0)) (nI (pt 1)) = r_out ν (nI (nu 0)) (nI (nu 1))
            rw [h 0 (by decide), h 1 (by decide)]; exact ⟨rfl, rfl⟩
          · by_cases z5 : le = 73
            · subst z5
              show s_inj ν (nI (pt 0)) = s_inj ν (nI (nu 0)) ∧ r_inj ν (nI (pt 0)) = r_inj ν (nI (nu 0))
              rw [h 0 (by decide)]; exact ⟨rfl, rfl⟩
            · have hu : usd le = 3 := by unfold usd; rw [if_neg z3, if_neg z4, if_neg z5]
              rw [hu] at h
              have a := pf_not ⟨z, z1, z2, z3, z4, z5⟩ ν pt
              have b := pf_not ⟨z, z1, z2, z3, z4, z5⟩ ν nu
              rw [a.1, a.2, b.1, b.2, h 0 (by decide), h 1 (by decide), h 2 (by decide)]
              exact ⟨rfl, rfl⟩
/-- where the class's reader stands (before a sign ';'), and where the reference's -/
def stands (ch : Nat → Nat) (len p0 p : Nat) : Prop := (p0 = 0 ∧ p = 0 ∧ good ch len 0) ∨ (0 < p0 ∧ ((p0 = len ∧ p = len) ∨ (sg ch len p0 = 59 ∧ p = p0 + 1 ∧ good ch len p)))
theorem good_lt {p : Nat} (h : good ch len p) : p < len := by
  have h1 := (good_go h (fun _ => 0)).1
  refine sg_in (ch := ch) (Nat.pos_of_ne_zero (fun z => ?_))
  rw [mOp_sg z] at h1
  cases h1
/-- one step of both readers -/
theorem step_eq {p0 p pc kd : Nat} {pt nu : Nat → Nat} (hl : len ≤ 90) (h : stands ch len p0 p) : (p = len ∧ (rX ch len (p0, pt, pc)).1 = false ∧ (mOp ch len p nu).1 = false) ∨ (p < len ∧ (rX ch len (p0, pt, pc)).1 = true ∧ (mOp ch len p nu).1 = true ∧ rXk ch len kd (p0, pt, pc) = sg ch len p ∧ (∀ j, j < usd (sg ch len p) → (rX ch len (p0, pt, pc)).2.2.1 j = (mOp ch len p nu).2.2 j) ∧ stands ch len (rX ch len (p0, pt, pc)).2.1 (tkP ch len 59 (mOp ch len p nu).2.1) ∧ p + 1 ≤ tkP ch len 59 (mOp ch len p nu).2.1) := by
  have key : ∀ q : Q4, q.1 = p → good ch len p → rX ch len (p0, pt, pc) = rO ch len q → rXk ch len kd (p0, pt, pc) = sg ch len p → (p < len ∧ (rX ch len (p0, pt, pc)).1 = true ∧ (mOp ch len p nu).1 = true ∧ rXk ch len kd (p0, pt, pc) = sg ch len p ∧ (∀ j, j < usd (sg ch len p) → (rX ch len (p0, pt, pc)).2.2.1 j = (mOp ch len p nu).2.2 j) ∧ stands ch len (rX ch len (p0, pt, pc)).2.1 (tkP ch len 59 (mOp ch len p nu).2.1) ∧ p + 1 ≤ tkP ch len 59 (mOp ch len p nu).2.1) := by
    intro q hq hg hx hk
    have hlt := good_lt hg
    obtain ⟨q1, q2, q3⟩ := q
    have hq : q1 = p := hq
    subst hq
    obtain ⟨k1, k2, k3⟩ := rO_mOp (ch := ch) (p := q1) (pc := q3) (pt := q2) hl (by omega)
    obtain ⟨i1, i2⟩ := mOp_ind (ch := ch) (len := len) (p := q1) (nu := q2) (nu' := nu)
    obtain ⟨g1, g2⟩ := good_go hg nu
    have hge := mOp_ge g1
    have hle := mOp_len (ch := ch) (nu := nu) (Nat.le_of_lt hlt)
    have htk := tkP_ge (ch := ch) (len := len) (c := 59) (p := (mOp ch len q1 nu).2.1)
    rw [hx, k1, k2, k3, i1, i2]
    refine ⟨hlt, g1, g1, hk, fun j hj => mOp_ag (by rw [i1]; exact g1) j hj, Or.inr ⟨by omega, ?_⟩, by omega⟩
    rcases g2 with g2 | ⟨g2, g3⟩
    · refine Or.inl ⟨g2, ?_⟩
      unfold tkP
      rw [if_neg (by rw [sg_n (by omega)]; decide)]
      exact g2
    · have e : tkP ch len 59 (mOp ch len q1 nu).2.1 = (mOp ch len q1 nu).2.1 + 1 := by unfold tkP; rw [if_pos g2]
      exact Or.inr ⟨g2, e, by rw [e]; exact g3⟩
  rcases h with ⟨h1, h2, h3⟩ | ⟨h1, h2⟩
  · right
    subst h1
    refine key (0, pt, pc) h2.symm (by rw [h2]; exact h3) ?_ ?_
    · unfold rX
      rw [if_neg (Nat.lt_irrefl 0)]
    · unfold rXk
      rw [if_neg (Nat.lt_irrefl 0), h2]
  · rcases h2 with ⟨h2, h3⟩ | ⟨h2, h3, h4⟩
    · left
      refine ⟨h3, ?_, ?_⟩
      · unfold rX
        rw [if_pos h1, sOk_eq (by decide), decide_eq_false (by show ¬ sg ch len p0 = 59; rw [sg_n (by omega)]; decide), if_neg Bool.false_ne_true]
      · rw [mOp_sg (sg_n (by omega))]
    · right
      have er : rS ch len 59 (p0, pt, pc) = (p0 + 1, pt, pc) := by
        unfold rS
        rw [sOk_eq (by decide), decide_eq_true h2, if_pos rfl]
      refine key (p0 + 1, pt, pc) h3.symm h4 ?_ ?_
      · unfold rX
        rw [if_pos h1, sOk_eq (by decide), decide_eq_true h2, if_pos rfl, er]
      · unfold rXk
        rw [if_pos h1, sOk_eq (by decide), decide_eq_true h2, if_pos rfl, er, h3]
theorem run_eq {τ : MS} {st : Int32} (hl : len ≤ 90) : ∀ (m p0 p pc kd le n : Nat) (pt nu : Nat → Nat) (ν : NS) (σ : MS) (f : Int32), RP τ ν σ → stands ch len p0 p → len ≤ p + m → (cR ch len m ν kd (p0, pt, pc) n).1 = (rU ch len st (m + 1) σ p le nu f n).2.1 ∧ RP τ (cR ch len m ν kd (p0, pt, pc) n).2.1 (rU ch len st (m + 1) σ p le nu f n).2.2.1
  | 0, p0, p, pc, kd, le, n, pt, nu, ν, σ, f, H, hs, hm => by
    rcases step_eq (kd := kd) (pt := pt) (nu := nu) (pc := pc) hl hs with ⟨-, -, e⟩ | ⟨e, -⟩
    · have eu : rU ch len st (0 + 1) σ p le nu f n = (f, n, σ, (mOp ch len p nu).2.1, sg ch len p, (mOp ch len p nu).2.2) := by
        show (if (mOp ch len p nu).1 = true then _ else _) = _
        rw [e, if_neg Bool.false_ne_true]
      rw [eu]
      exact ⟨rfl, H⟩
    · exact absurd e (by omega)
  | m + 1, p0, p, pc, kd, le, n, pt, nu, ν, σ, f, H, hs, hm => by
    rcases step_eq (kd := kd) (pt := pt) (nu := nu) (pc := pc) hl hs with ⟨-, e0, e⟩ | ⟨e, e0, e1, ek, ag, hs2, hp2⟩
    · have eu : rU ch len st (m + 1 + 1) σ p le nu f n = (f, n, σ, (mOp ch len p nu).2.1, sg ch len p, (mOp ch len p nu).2.2) := by
        show (if (mOp ch len p nu).1 = true then _ else _) = _
        rw [e, if_neg Bool.false_ne_true]
      have ec : cR ch len (m + 1) ν kd (p0, pt, pc) n = (n, ν, rXk ch len kd (p0, pt, pc), (rX ch len (p0, pt, pc)).2) := by
        show (if (rX ch len (p0, pt, pc)).1 = true then _ else _) = _
        rw [e0, if_neg Bool.false_ne_true]
      rw [eu, ec]
      exact ⟨rfl, H⟩
    · have K := op_does H (mOp_ok e1)
      obtain ⟨kr, ks, -⟩ := K
      have ep : pfS ν (rXk ch len kd (p0, pt, pc)) (rX ch len (p0, pt, pc)).2.2.1 = pfS ν (sg ch len p) (mOp ch len p nu).2.2 ∧ pfR ν (rXk ch len kd (p0, pt, pc)) (rX ch len (p0, pt, pc)).2.2.1 = pfR ν (sg ch len p) (mOp ch len p nu).2.2 := by
        rw [ek]
        exact pf_ag ag
      by_cases c : isErr (doR σ 1560 (sg ch len p) (mOp ch len p nu).2.2) = true
      · have eu : rU ch len st (m + 1 + 1) σ p le nu f n = (f, n, doS σ 1560 (sg ch len p) (mOp ch len p nu).2.2, (mOp ch len p nu).2.1, sg ch len p, (mOp ch len p nu).2.2) := by
          show (if (mOp ch len p nu).1 = true then _ else _) = _
          rw [if_pos e1, if_pos c]
        have ec : cR ch len (m + 1) ν kd (p0, pt, pc) n = (n, pfS ν (sg ch len p) (mOp ch len p nu).2.2, rXk ch len kd (p0, pt, pc), (rX ch len (p0, pt, pc)).2) := by
          show (if (rX ch len (p0, pt, pc)).1 = true then _ else _) = _
          rw [if_pos e0, ep.1, ep.2, kr, if_pos c]
        rw [eu, ec]
        exact ⟨rfl, ks⟩
      · have eu : rU ch len st (m + 1 + 1) σ p le nu f n = rU ch len st (m + 1) (doS σ 1560 (sg ch len p) (mOp ch len p nu).2.2) (tkP ch len 59 (mOp ch len p nu).2.1) (sg ch len p) (mOp ch len p nu).2.2 (if f = -6 then (if st < sumI (stT (doS σ 1560 (sg ch len p) (mOp ch len p nu).2.2) 1560) 4 then nI n else f) else f) (n + 1) := by
          show (if (mOp ch len p nu).1 = true then _ else _) = _
          rw [if_pos e1, if_neg c]
        have ec : cR ch len (m + 1) ν kd (p0, pt, pc) n = cR ch len m (pfS ν (sg ch len p) (mOp ch len p nu).2.2) (sg ch len p) (rX ch len (p0, pt, pc)).2 (n + 1) := by
          show (if (rX ch len (p0, pt, pc)).1 = true then _ else _) = _
          rw [if_pos e0, ep.1, ep.2, kr, if_neg c, ek]
        rw [eu, ec]
        exact run_eq hl m _ _ _ _ _ _ _ _ _ _ _ ks hs2 (by omega)
theorem stT_eq {τ : MS} {ν : NS} {σ : MS} (H : RP τ ν σ) : sumI (stT σ 1560) 4 = nI (cntB (ν 11) 4) :=
  sumI_c (fun k => bz (ν 11 k)) _ 4 (fun k hk => H.1.2.2.2.1.2.2 k hk)
/-- once it is found it stays -/
theorem rU_keep {st : Int32} : ∀ (m p le n : Nat) (nu : Nat → Nat) (σ : MS) (f : Int32), f ≠ -6 → (rU ch len st m σ p le nu f n).1 = f
  | 0, _, _, _, _, _, _, _ => rfl
  | m + 1, p, le, n, nu, σ, f, h => by
    show (if (mOp ch len p nu).1 = true then (if isErr (doR σ 1560 (sg ch len p) (mOp ch len p nu).2.2) = true then (f, n, doS σ 1560 (sg ch len p) (mOp ch len p nu).2.2, (mOp ch len p nu).2.1, sg ch len p, (mOp ch len p nu).2.2) else rU ch len st m (doS σ 1560 (sg ch len p) (mOp ch len p nu).2.2) (tkP ch len 59 (mOp ch len p nu).2.1) (sg ch len p) (mOp ch len p nu).2.2 (if f = -6 then (if st < sumI (stT (doS σ 1560 (sg ch len p) (mOp ch len p nu).2.2) 1560) 4 then nI n else f) else f) (n + 1)) else (f, n, σ, (mOp ch len p nu).2.1, sg ch len p, (mOp ch len p nu).2.2)).1 = f
    split
    · split
      · rfl
      · exact rU_keep m _ _ _ _ _ _ h
    · rfl
theorem nI_n6 {n : Nat} (h : n < 2 ^ 31) : nI n ≠ -6 := by
  intro z
  have h9 : (nI n).toInt = (-6 : Int32).toInt := congrArg Int32.toInt z
  have h8 : (nI n).toInt = (n : Int) := nI_toInt h
  have h7 : (-6 : Int32).toInt = -6 := rfl
  omega
theorem stop_eq {τ : MS} {st : Nat} (hl : len ≤ 90) (hst : st ≤ 4) : ∀ (m p0 p pc kd le n : Nat) (pt nu : Nat → Nat) (ν : NS) (σ : MS), RP τ ν σ → stands ch len p0 p → len ≤ p + m → n + m ≤ 90 → (cS ch len st m ν kd (p0, pt, pc) n).1 = (rU ch len (nI st) (m + 1) σ p le nu (-6) n).1
  | 0, p0, p, pc, kd, le, n, pt, nu, ν, σ, H, hs, hm, hn => by
    rcases step_eq (kd := kd) (pt := pt) (nu := nu) (pc := pc) hl hs with ⟨-, -, e⟩ | ⟨e, -⟩
    · have eu : rU ch len (nI st) (0 + 1) σ p le nu (-6) n = (-6, n, σ, (mOp ch len p nu).2.1, sg ch len p, (mOp ch len p nu).2.2) := by
        show (if (mOp ch len p nu).1 = true then _ else _) = _
        rw [e, if_neg Bool.false_ne_true]
      rw [eu]
      rfl
    · exact absurd e (by omega)
  | m + 1, p0, p, pc, kd, le, n, pt, nu, ν, σ, H, hs, hm, hn => by
    rcases step_eq (kd := kd) (pt := pt) (nu := nu) (pc := pc) hl hs with ⟨-, e0, e⟩ | ⟨e, e0, e1, ek, ag, hs2, hp2⟩
    · have eu : rU ch len (nI st) (m + 1 + 1) σ p le nu (-6) n = (-6, n, σ, (mOp ch len p nu).2.1, sg ch len p, (mOp ch len p nu).2.2) := by
        show (if (mOp ch len p nu).1 = true then _ else _) = _
        rw [e, if_neg Bool.false_ne_true]
      have ec : cS ch len st (m + 1) ν kd (p0, pt, pc) n = (-6, ν, rXk ch len kd (p0, pt, pc), (rX ch len (p0, pt, pc)).2) := by
        show (if (rX ch len (p0, pt, pc)).1 = true then _ else _) = _
        rw [e0, if_neg Bool.false_ne_true]
      rw [eu, ec]
    · have K := op_does H (mOp_ok e1)
      obtain ⟨kr, ks, -⟩ := K
      have ep : pfS ν (rXk ch len kd (p0, pt, pc)) (rX ch len (p0, pt, pc)).2.2.1 = pfS ν (sg ch len p) (mOp ch len p nu).2.2 ∧ pfR ν (rXk ch len kd (p0, pt, pc)) (rX ch len (p0, pt, pc)).2.2.1 = pfR ν (sg ch len p) (mOp ch len p nu).2.2 := by
        rw [ek]
        exact pf_ag ag
      have hsum := stT_eq ks
      by_cases c : isErr (doR σ 1560 (sg ch len p) (mOp ch len p nu).2.2) = true
      · have eu : rU ch len (nI st) (m + 1 + 1) σ p le nu (-6) n = (-6, n, doS σ 1560 (sg ch len p) (mOp ch len p nu).2.2, (mOp ch len p nu).2.1, sg ch len p, (mOp ch len p nu).2.2) := by
          show (if (mOp ch len p nu).1 = true then _ else _) = _
          rw [if_pos e1, if_pos c]
        have ec : cS ch len st (m + 1) ν kd (p0, pt, pc) n = (-6, pfS ν (sg ch len p) (mOp ch len p nu).2.2, rXk ch len kd (p0, pt, pc), (rX ch len (p0, pt, pc)).2) := by
          show (if (rX ch len (p0, pt, pc)).1 = true then _ else _) = _
          rw [if_pos e0, ep.1, ep.2, kr, if_pos c]
        rw [eu, ec]
      · have eu : rU ch len (nI st) (m + 1 + 1) σ p le nu (-6) n = rU ch len (nI st) (m + 1) (doS σ 1560 (sg ch len p) (mOp ch len p nu).2.2) (tkP ch len 59 (mOp ch len p nu).2.1) (sg ch len p) (mOp ch len p nu).2.2 (if nI st < nI (cntB (pfS ν (sg ch len p) (mOp ch len p nu).2.2 11) 4) then nI n else -6) (n + 1) := by
          show (if (mOp ch len p nu).1 = true then _ else _) = _
          rw [if_pos e1, if_neg c, if_pos rfl, hsum]
        have hcb := cntB_le (pfS ν (sg ch len p) (mOp ch len p nu).2.2 11) 4
        rw [eu]
        by_cases d : st < cntB (pfS ν (sg ch len p) (mOp ch len p nu).2.2 11) 4
        · have ec : cS ch len st (m + 1) ν kd (p0, pt, pc) n = (nI n, pfS ν (sg ch len p) (mOp ch len p nu).2.2, rXk ch len kd (p0, pt, pc), (rX ch len (p0, pt, pc)).2) := by
            show (if (rX ch len (p0, pt, pc)).1 = true then _ else _) = _
            rw [if_pos e0, ep.1, ep.2, kr, if_neg c, if_pos d]
          rw [ec, if_pos ((nI_ltI (by omega) (by omega)).mpr d), rU_keep _ _ _ _ _ _ _ (nI_n6 (by omega))]
        · have ec : cS ch len st (m + 1) ν kd (p0, pt, pc) n = cS ch len st m (pfS ν (sg ch len p) (mOp ch len p nu).2.2) (sg ch len p) (rX ch len (p0, pt, pc)).2 (n + 1) := by
            show (if (rX ch len (p0, pt, pc)).1 = true then _ else _) = _
            rw [if_pos e0, ep.1, ep.2, kr, if_neg c, if_neg d, ek]
          rw [ec, if_neg (fun z => d ((nI_ltI (by omega) (by omega)).mp z))]
          exact stop_eq hl hst m _ _ _ _ _ _ _ _ _ _ ks hs2 (by omega) (by omega)
end RUN
