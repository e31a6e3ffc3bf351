/-! one picture of both sides: the class's state ν, the reference's row σ from the base b on -/
theorem pg_lay0 {σ : MS} {k : Nat} {v o h : Int32} : lay σ k v o h k = v := by
  unfold lay; rw [upd_o (by omega), upd_o (by omega), upd_s]
theorem pg_lay1 {σ : MS} {k : Nat} {v o h : Int32} : lay σ k v o h (k + 1) = o := by
  unfold lay; rw [upd_o (by omega), upd_s]
theorem pg_lay2 {σ : MS} {k : Nat} {v o h : Int32} : lay σ k v o h (k + 2) = if ps o then h else nI 0 := by
  unfold lay; rw [upd_s]
theorem pg_layo {σ : MS} {k j : Nat} {v o h : Int32} (h1 : j < k ∨ k + 2 < j) : lay σ k v o h j = σ j := by
  unfold lay; rw [upd_o (by omega), upd_o (by omega), upd_o (by omega)]
def mrk (o h h' : Int32) : Prop := (ps o = true → h' = h ∧ WH h 99) ∧ (ps o = false → h = -6)
def cel (v o h v' o' h' : Int32) : Prop := v' = v ∧ o' = o ∧ WH v 65535 ∧ mrk o h h'
theorem mrk_if {o h h0 : Int32} (H : mrk o h h0) : mrk o h (if ps o then h0 else nI 0) := by
  refine ⟨fun q => ?_, H.2⟩
  rw [if_pos q]; exact H.1 q
theorem mrk_no {h' : Int32} : mrk (-6) (-6) h' := ⟨fun q => absurd q (by decide), fun _ => rfl⟩
theorem mrk_cl {o h h' h0 : Int32} (H : mrk o h h') (ho : ps o = false) : o = -6 ∧ h = -6 := ⟨ps_f ho, H.2 ho⟩
theorem WH_n {k n : Nat} (h : k ≤ n) (hn : n < 2 ^ 31) : WH (nI k) n := ⟨by rw [tn_nI (by omega)], by rw [tn_nI (by omega)]; exact h⟩
theorem WH_0 {n : Nat} (hn : n < 2 ^ 31) : WH (nI 0) n := WH_n (Nat.zero_le n) hn
/-- the mark of a copy -/
theorem mrk_hp {o h h' : Int32} (H : mrk o h h') : mrk o (hp o h) (mor h') := by
  refine ⟨fun q => ?_, fun q => ?_⟩
  · obtain ⟨e1, e2, e3⟩ := H.1 q
    subst e1
    obtain ⟨k, hk⟩ : ∃ k, k = tn h' := ⟨_, rfl⟩
    rw [← hk] at e2 e3
    subst e2
    unfold hp mor
    rw [if_pos q, nI_add]
    by_cases c : k < 99
    · rw [if_pos ((nI_ltI (by omega) (by decide)).mpr c), if_neg (fun z => absurd ((nI_ltI (by decide) (by omega)).mp z) (by omega))]
      exact ⟨rfl, WH_n (by omega) (by decide)⟩
    · rw [if_neg (fun z => c ((nI_ltI (by omega) (by decide)).mp z)), if_pos ((nI_ltI (by decide) (by omega)).mpr (by omega))]
      exact ⟨rfl, WH_n (by omega) (by decide)⟩
  · unfold hp
    rw [q, if_neg (by decide)]
def celW (b : Nat) (ν : NS) (σ : MS) : Prop := ∀ i : Nat, i < 32 → cel (ν 0 i) (ν 1 i) (ν 2 i) (σ (b + 3 * i)) (σ (b + 3 * i + 1)) (σ (b + 3 * i + 2))
def celS (b : Nat) (ν : NS) (σ : MS) : Prop := ∀ i : Nat, i < 32 → cel (ν 3 i) (ν 4 i) (ν 5 i) (σ (b + 96 + 3 * i)) (σ (b + 96 + 3 * i + 1)) (σ (b + 96 + 3 * i + 2))
def celR (b : Nat) (ν : NS) (σ : MS) : Prop := ∀ i : Nat, i < 16 → cel (ν 6 i) (ν 7 i) (ν 8 i) (σ (b + 192 + 3 * i)) (σ (b + 192 + 3 * i + 1)) (σ (b + 192 + 3 * i + 2))
def othA (b : Nat) (ν : NS) (σ : MS) : Prop := (∀ p : Nat, p < 8 → σ (b + 240 + p) = bI (bz (ν 9 p))) ∧ (∀ t : Nat, t < 4 → σ (b + 248 + t) = ν 10 t ∧ WH (ν 10 t) 2) ∧ (∀ t : Nat, t < 4 → σ (b + 252 + t) = bI (bz (ν 11 t)))
def othB (b : Nat) (ν : NS) (σ : MS) : Prop := (σ (b + 256) = ν 15 0 ∧ WH (ν 15 0) 20) ∧ (∀ k : Nat, k < 20 → σ (b + 257 + k) = ν 12 k) ∧ (σ (b + 277) = ν 14 0 ∧ WH (ν 14 0) 8) ∧ (∀ k : Nat, k < 32 → σ (b + 278 + k) = ν 13 k) ∧ σ (b + 310) = ν 14 1 ∧ σ (b + 311) = ν 15 1
def Pic (b : Nat) (ν : NS) (σ : MS) : Prop := celW b ν σ ∧ celS b ν σ ∧ celR b ν σ ∧ othA b ν σ ∧ othB b ν σ
def setW (ν : NS) (w : Nat) (v o h : Int32) : NS := up2 (up2 (up2 ν 0 (upd (ν 0) w v)) 1 (upd (ν 1) w o)) 2 (upd (ν 2) w h)
def setS (ν : NS) (w : Nat) (v o h : Int32) : NS := up2 (up2 (up2 ν 3 (upd (ν 3) w v)) 4 (upd (ν 4) w o)) 5 (upd (ν 5) w h)
def setR (ν : NS) (w : Nat) (v o h : Int32) : NS := up2 (up2 (up2 ν 6 (upd (ν 6) w v)) 7 (upd (ν 7) w o)) 8 (upd (ν 8) w h)
section PIC
variable {b b' : Nat} {ν ν' : NS} {σ σ' : MS}
theorem celW_o (H : celW b ν σ) (hs : ∀ j, b ≤ j → j < b + 96 → σ' j = σ j) (h0 : ν' 0 = ν 0) (h1 : ν' 1 = ν 1) (h2 : ν' 2 = ν 2) : celW b ν' σ' := by
  intro i hi
  rw [h0, h1, h2, hs _ (by omega) (by omega), hs _ (by omega) (by omega), hs _ (by omega) (by omega)]
  exact H i hi
theorem celS_o (H : celS b ν σ) (hs : ∀ j, b + 96 ≤ j → j < b + 192 → σ' j = σ j) (h0 : ν' 3 = ν 3) (h1 : ν' 4 = ν 4) (h2 : ν' 5 = ν 5) : celS b ν' σ' := by
  intro i hi
  rw [h0, h1, h2, hs _ (by omega) (by omega), hs _ (by omega) (by omega), hs _ (by omega) (by omega)]
  exact H i hi
theorem celR_o (H : celR b ν σ) (hs : ∀ j, b + 192 ≤ j → j < b + 240 → σ' j = σ j) (h0 : ν' 6 = ν 6) (h1 : ν' 7 = ν 7) (h2 : ν' 8 = ν 8) : celR b ν' σ' := by
  intro i hi
  rw [h0, h1, h2, hs _ (by omega) (by omega), hs _ (by omega) (by omega), hs _ (by omega) (by omega)]
  exact H i hi
theorem othA_o (H : othA b ν σ) (hs : ∀ j, b + 240 ≤ j → j < b + 256 → σ' j = σ j) (h0 : ν' 9 = ν 9) (h1 : ν' 10 = ν 10) (h2 : ν' 11 = ν 11) : othA b ν' σ' := by
  obtain ⟨a1, a2, a3⟩ := H
  refine ⟨fun p hp => ?_, fun t ht => ?_, fun t ht => ?_⟩
  · rw [h0, hs _ (by omega) (by omega)]; exact a1 p hp
  · rw [h1, hs _ (by omega) (by omega)]; exact a2 t ht
  · rw [h2, hs _ (by omega) (by omega)]; exact a3 t ht
theorem othB_o (H : othB b ν σ) (hs : ∀ j, b + 256 ≤ j → j < b + 312 → σ' j = σ j) (h0 : ν' 12 = ν 12) (h1 : ν' 13 = ν 13) (h2 : ν' 14 = ν 14) (h3 : ν' 15 = ν 15) : othB b ν' σ' := by
  obtain ⟨a1, a2, a3, a4, a5, a6⟩ := H
  refine ⟨?_, fun k hk => ?_, ?_, fun k hk => ?_, ?_, ?_⟩
  · rw [h3, hs _ (by omega) (by omega)]; exact a1
  · rw [h0, hs _ (by omega) (by omega)]; exact a2 k hk
  · rw [h2, hs _ (by omega) (by omega)]; exact a3
  · rw [h1, hs _ (by omega) (by omega)]; exact a4 k hk
  · rw [h2, hs _ (by omega) (by omega)]; exact a5
  · rw [h3, hs _ (by omega) (by omega)]; exact a6
/-- the picture somewhere else -/
theorem Pic_at (H : Pic b ν σ) (hs : ∀ j, j < 312 → σ' (b' + j) = σ (b + j)) : Pic b' ν σ' := by
  obtain ⟨h1, h2, h3, ⟨a1, a2, a3⟩, c1, c2, c3, c4, c5, c6⟩ := H
  refine ⟨fun i hi => ?_, fun i hi => ?_, fun i hi => ?_, ⟨fun p hp => ?_, fun t ht => ?_, fun t ht => ?_⟩, ?_, fun k hk => ?_, ?_, fun k hk => ?_, ?_, ?_⟩
  · have e0 := hs (3 * i) (by omega)
    have e1 := hs (3 * i + 1) (by omega)
    have e2 := hs (3 * i + 2) (by omega)
    have h := h1 i hi
    rw [← Nat.add_assoc, ← Nat.add_assoc] at e1 e2
    rw [e0, e1, e2]; exact h
  · have e0 := hs (96 + 3 * i) (by omega)
    have e1 := hs (96 + 3 * i + 1) (by omega)
    have e2 := hs (96 + 3 * i + 2) (by omega)
    have h := h2 i hi
    rw [← Nat.add_assoc, ← Nat.add_assoc] at e0
    rw [← Nat.add_assoc, ← Nat.add_assoc, ← Nat.add_assoc, ← Nat.add_assoc] at e1 e2
    rw [e0, e1, e2]; exact h
  · have e0 := hs (192 + 3 * i) (by omega)
    have e1 := hs (192 + 3 * i + 1) (by omega)
    have e2 := hs (192 + 3 * i + 2) (by omega)
    have h := h3 i hi
    rw [← Nat.add_assoc, ← Nat.add_assoc] at e0
    rw [← Nat.add_assoc, ← Nat.add_assoc, ← Nat.add_assoc, ← Nat.add_assoc] at e1 e2
    rw [e0, e1, e2]; exact h
  · rw [Nat.add_assoc, hs _ (by omega), ← Nat.add_assoc]; exact a1 p hp
  · rw [Nat.add_assoc, hs _ (by omega), ← Nat.add_assoc]; exact a2 t ht
  · rw [Nat.add_assoc, hs _ (by omega), ← Nat.add_assoc]; exact a3 t ht
  · rw [hs _ (by omega)]; exact c1
  · rw [Nat.add_assoc, hs _ (by omega), ← Nat.add_assoc]; exact c2 k hk
  · rw [hs _ (by omega)]; exact c3
  · rw [Nat.add_assoc, hs _ (by omega), ← Nat.add_assoc]; exact c4 k hk
  · rw [hs _ (by omega)]; exact c5
  · rw [hs _ (by omega)]; exact c6
end PIC
section SETS
variable {b w : Nat} {ν : NS} {σ : MS} {v o h h0 : Int32}
theorem celW_s (H : celW b ν σ) (hv : WH v 65535) (hm : mrk o h h0) : celW b (setW ν w v o h) (lay σ (b + 3 * w) v o h0) := by
  intro i hi
  show cel (upd (ν 0) w v i) (upd (ν 1) w o i) (upd (ν 2) w h i) _ _ _
  by_cases e : i = w
  · rw [e, upd_s, upd_s, upd_s, pg_lay0, pg_lay1, pg_lay2]
    exact ⟨rfl, rfl, hv, mrk_if hm⟩
  · rw [upd_o e, upd_o e, upd_o e, pg_layo (by omega), pg_layo (by omega), pg_layo (by omega)]
    exact H i hi
theorem celS_s (H : celS b ν σ) (hv : WH v 65535) (hm : mrk o h h0) : celS b (setS ν w v o h) (lay σ (b + 96 + 3 * w) v o h0) := by
  intro i hi
  show cel (upd (ν 3) w v i) (upd (ν 4) w o i) (upd (ν 5) w h i) _ _ _
  by_cases e : i = w
  · rw [e, upd_s, upd_s, upd_s, pg_lay0, pg_lay1, pg_lay2]
    exact ⟨rfl, rfl, hv, mrk_if hm⟩
  · rw [upd_o e, upd_o e, upd_o e, pg_layo (by omega), pg_layo (by omega), pg_layo (by omega)]
    exact H i hi
theorem celR_s (H : celR b ν σ) (hv : WH v 65535) (hm : mrk o h h0) : celR b (setR ν w v o h) (lay σ (b + 192 + 3 * w) v o h0) := by
  intro i hi
  show cel (upd (ν 6) w v i) (upd (ν 7) w o i) (upd (ν 8) w h i) _ _ _
  by_cases e : i = w
  · rw [e, upd_s, upd_s, upd_s, pg_lay0, pg_lay1, pg_lay2]
    exact ⟨rfl, rfl, hv, mrk_if hm⟩
  · rw [upd_o e, upd_o e, upd_o e, pg_layo (by omega), pg_layo (by omega), pg_layo (by omega)]
    exact H i hi
end SETS
/-- the copy in which a change is made: its picture, and that all below is as it was -/
def RP (τ : MS) (ν : NS) (σ : MS) : Prop := Pic 1560 ν σ ∧ ∀ j : Nat, j < 1560 → σ j = τ j
section RPS
variable {τ : MS} {ν : NS} {σ : MS} {w k t : Nat} {v o h h0 : Int32}
theorem RP_W (H : RP τ ν σ) (hw : w < 32) (hv : WH v 65535) (hm : mrk o h h0) : RP τ (setW ν w v o h) (lay σ (wdt 1560 w) v o h0) := by
  unfold wdt
  obtain ⟨⟨h1, h2, h3, h4, h5⟩, h6⟩ := H
  refine ⟨⟨celW_s h1 hv hm, celS_o h2 (fun j a c => pg_layo (by omega)) rfl rfl rfl, celR_o h3 (fun j a c => pg_layo (by omega)) rfl rfl rfl, othA_o h4 (fun j a c => pg_layo (by omega)) rfl rfl rfl, othB_o h5 (fun j a c => pg_layo (by omega)) rfl rfl rfl rfl⟩, fun j a => ?_⟩
  rw [pg_layo (by omega)]; exact h6 j a
theorem RP_S (H : RP τ ν σ) (hw : w < 32) (hv : WH v 65535) (hm : mrk o h h0) : RP τ (setS ν w v o h) (lay σ (cpt 1560 w) v o h0) := by
  unfold cpt
  obtain ⟨⟨h1, h2, h3, h4, h5⟩, h6⟩ := H
  refine ⟨⟨celW_o h1 (fun j a c => pg_layo (by omega)) rfl rfl rfl, celS_s h2 hv hm, celR_o h3 (fun j a c => pg_layo (by omega)) rfl rfl rfl, othA_o h4 (fun j a c => pg_layo (by omega)) rfl rfl rfl, othB_o h5 (fun j a c => pg_layo (by omega)) rfl rfl rfl rfl⟩, fun j a => ?_⟩
  rw [pg_layo (by omega)]; exact h6 j a
theorem RP_R (H : RP τ ν σ) (hk : k < 16) (hv : WH v 65535) (hm : mrk o h h0) : RP τ (setR ν k v o h) (lay σ (1560 + 192 + 3 * k) v o h0) := by
  obtain ⟨⟨h1, h2, h3, h4, h5⟩, h6⟩ := H
  refine ⟨⟨celW_o h1 (fun j a c => pg_layo (by omega)) rfl rfl rfl, celS_o h2 (fun j a c => pg_layo (by omega)) rfl rfl rfl, celR_s h3 hv hm, othA_o h4 (fun j a c => pg_layo (by omega)) rfl rfl rfl, othB_o h5 (fun j a c => pg_layo (by omega)) rfl rfl rfl rfl⟩, fun j a => ?_⟩
  rw [pg_layo (by omega)]; exact h6 j a
/-- a word's value alone -/
theorem RP_V (H : RP τ ν σ) (hw : w < 32) (hv : WH v 65535) : RP τ (up2 ν 0 (upd (ν 0) w v)) (upd σ (wdt 1560 w) v) := by
  unfold wdt
  obtain ⟨⟨h1, h2, h3, h4, h5⟩, h6⟩ := H
  refine ⟨⟨fun i hi => ?_, celS_o h2 (fun j a c => upd_o (by omega)) rfl rfl rfl, celR_o h3 (fun j a c => upd_o (by omega)) rfl rfl rfl, othA_o h4 (fun j a c => upd_o (by omega)) rfl rfl rfl, othB_o h5 (fun j a c => upd_o (by omega)) rfl rfl rfl rfl⟩, fun j a => ?_⟩
  · show cel (upd (ν 0) w v i) (ν 1 i) (ν 2 i) _ _ _
    have h := h1 i hi
    by_cases e : i = w
    · rw [e] at h
      rw [e, upd_s, upd_s, upd_o (by omega), upd_o (by omega)]
      exact ⟨rfl, h.2.1, hv, h.2.2.2⟩
    · rw [upd_o e, upd_o (by omega), upd_o (by omega), upd_o (by omega)]
      exact h
  · rw [upd_o (by omega)]; exact h6 j a
theorem RP_heal (H : RP τ ν σ) : RP τ (up2 ν 15 (upd (ν 15) 1 (ν 15 1 + nI 1))) (upd σ (1560 + 311) (σ (1560 + 311) + nI 1)) := by
  obtain ⟨⟨h1, h2, h3, h4, c1, c2, c3, c4, c5, c6⟩, h6⟩ := H
  refine ⟨⟨celW_o h1 (fun j a c => upd_o (by omega)) rfl rfl rfl, celS_o h2 (fun j a c => upd_o (by omega)) rfl rfl rfl, celR_o h3 (fun j a c => upd_o (by omega)) rfl rfl rfl, othA_o h4 (fun j a c => upd_o (by omega)) rfl rfl rfl, ?_, fun k hk => ?_, ?_, fun k hk => ?_, ?_, ?_⟩, fun j a => ?_⟩
  · rw [upd_o (by omega)]; exact c1
  · rw [upd_o (by omega)]; exact c2 k hk
  · rw [upd_o (by omega)]; exact c3
  · rw [upd_o (by omega)]; exact c4 k hk
  · rw [upd_o (by omega)]; exact c5
  · rw [upd_s, c6]; rfl
  · rw [upd_o (by omega)]; exact h6 j a
theorem RP_mir {p : Nat} {u : Bool} (H : RP τ ν σ) (hp : p < 8) : RP τ (up2 ν 9 (upd (ν 9) p (bI u))) (upd σ (1560 + 240 + p) (bI u)) := by
  obtain ⟨⟨h1, h2, h3, ⟨a1, a2, a3⟩, h5⟩, h6⟩ := H
  refine ⟨⟨celW_o h1 (fun j a c => upd_o (by omega)) rfl rfl rfl, celS_o h2 (fun j a c => upd_o (by omega)) rfl rfl rfl, celR_o h3 (fun j a c => upd_o (by omega)) rfl rfl rfl, ⟨fun q hq => ?_, fun t ht => ?_, fun t ht => ?_⟩, othB_o h5 (fun j a c => upd_o (by omega)) rfl rfl rfl rfl⟩, fun j a => ?_⟩
  · show _ = bI (bz (upd (ν 9) p (bI u) q))
    by_cases e : q = p
    · rw [e, upd_s, upd_s, bz_bI]
    · rw [upd_o e, upd_o (by omega)]; exact a1 q hq
  · rw [upd_o (by omega)]; exact a2 t ht
  · rw [upd_o (by omega)]; exact a3 t ht
  · rw [upd_o (by omega)]; exact h6 j a
theorem RP_mod {m : Nat} (H : RP τ ν σ) (ht : t < 4) (hm : m ≤ 2) : RP τ (up2 ν 10 (upd (ν 10) t (nI m))) (upd σ (1560 + 248 + t) (nI m)) := by
  obtain ⟨⟨h1, h2, h3, ⟨a1, a2, a3⟩, h5⟩, h6⟩ := H
  refine ⟨⟨celW_o h1 (fun j a c => upd_o (by omega)) rfl rfl rfl, celS_o h2 (fun j a c => upd_o (by omega)) rfl rfl rfl, celR_o h3 (fun j a c => upd_o (by omega)) rfl rfl rfl, ⟨fun q hq => ?_, fun q hq => ?_, fun q hq => ?_⟩, othB_o h5 (fun j a c => upd_o (by omega)) rfl rfl rfl rfl⟩, fun j a => ?_⟩
  · rw [upd_o (by omega)]; exact a1 q hq
  · show _ = upd (ν 10) t (nI m) q ∧ WH (upd (ν 10) t (nI m) q) 2
    by_cases e : q = t
    · rw [e, upd_s, upd_s]; exact ⟨rfl, WH_n hm (by decide)⟩
    · rw [upd_o e, upd_o (by omega)]; exact a2 q hq
  · rw [upd_o (by omega)]; exact a3 q hq
  · rw [upd_o (by omega)]; exact h6 j a
theorem RP_stop {u : Bool} (H : RP τ ν σ) (ht : t < 4) : RP τ (up2 ν 11 (upd (ν 11) t (bI u))) (upd σ (1560 + 252 + t) (bI u)) := by
  obtain ⟨⟨h1, h2, h3, ⟨a1, a2, a3⟩, h5⟩, h6⟩ := H
  refine ⟨⟨celW_o h1 (fun j a c => upd_o (by omega)) rfl rfl rfl, celS_o h2 (fun j a c => upd_o (by omega)) rfl rfl rfl, celR_o h3 (fun j a c => upd_o (by omega)) rfl rfl rfl, ⟨fun q hq => ?_, fun q hq => ?_, fun q hq => ?_⟩, othB_o h5 (fun j a c => upd_o (by omega)) rfl rfl rfl rfl⟩, fun j a => ?_⟩
  · rw [upd_o (by omega)]; exact a1 q hq
  · rw [upd_o (by omega)]; exact a2 q hq
  · show _ = bI (bz (upd (ν 11) t (bI u) q))
    by_cases e : q = t
    · rw [e, upd_s, upd_s, bz_bI]
    · rw [upd_o e, upd_o (by omega)]; exact a3 q hq
  · rw [upd_o (by omega)]; exact h6 j a
theorem RP_same {σ' : MS} (H : RP τ ν σ) (e : σ' = σ) : RP τ ν σ' := by rw [e]; exact H
/-- what is read -/
theorem RP_w (H : RP τ ν σ) (hw : w < 32) : σ (wdt 1560 w) = ν 0 w ∧ σ (wdt 1560 w + 1) = ν 1 w ∧ WH (ν 0 w) 65535 ∧ mrk (ν 1 w) (ν 2 w) (σ (wdt 1560 w + 2)) := H.1.1 w hw
theorem RP_c (H : RP τ ν σ) (hw : w < 32) : σ (cpt 1560 w) = ν 3 w ∧ σ (cpt 1560 w + 1) = ν 4 w ∧ WH (ν 3 w) 65535 ∧ mrk (ν 4 w) (ν 5 w) (σ (cpt 1560 w + 2)) := H.1.2.1 w hw
theorem RP_r (H : RP τ ν σ) (hk : k < 16) : σ (1560 + 192 + 3 * k) = ν 6 k ∧ σ (1560 + 192 + 3 * k + 1) = ν 7 k ∧ WH (ν 6 k) 65535 ∧ mrk (ν 7 k) (ν 8 k) (σ (1560 + 192 + 3 * k + 2)) := H.1.2.2.1 k hk
theorem RP_st (H : RP τ ν σ) (ht : t < 4) : mSt σ 1560 t = bz (ν 11 t) := by
  unfold mSt m1
  rw [H.1.2.2.2.1.2.2 t ht]
  cases bz (ν 11 t) <;> first | rfl | decide
theorem RP_mi (H : RP τ ν σ) (hw : w < 32) : mMi σ 1560 w = bz (ν 9 (w / 4)) := by
  unfold mMi m1
  rw [H.1.2.2.2.1.1 (w / 4) (by omega)]
  cases bz (ν 9 (w / 4)) <;> first | rfl | decide
theorem RP_md (H : RP τ ν σ) (ht : t < 4) : σ (1560 + 248 + t) = ν 10 t ∧ WH (ν 10 t) 2 := H.1.2.2.2.1.2.1 t ht
theorem rgt_eq {b r : Nat} : rgt b t r = b + 192 + 3 * (t * 4 + r) := by unfold rgt; omega
theorem RP_ch (H : RP τ ν σ) (hw : w < 32) : mCH σ 1560 w = canH ν w := by
  unfold mCH canH
  rw [(RP_w H hw).2.1, RP_mi H hw, (RP_c H hw).2.1]
theorem RP_fetch (H : RP τ ν σ) (hw : w < 32) : RP τ (c_fetch ν w) (mFe σ 1560 w) := by
  unfold mFe c_fetch
  rw [RP_ch H hw]
  cases h : canH ν w
  · rw [if_neg (by decide), if_neg (by decide)]; exact H
  · rw [if_pos rfl, if_pos rfl]
    have c := RP_c H hw
    have hn : ps (ν 4 w) = false := by
      unfold canH at h
      cases h4 : ps (ν 4 w) with
      | false => rfl
      | true => rw [h4] at h; simp at h
    have hh := mrk_cl (h0 := 0) c.2.2.2 hn
    have K : RP τ (setW ν w (ν 3 w) (ν 4 w) (ν 5 w)) (mFe1 σ 1560 w) := by
      unfold mFe1
      rw [hh.1, hh.2, c.1]
      exact RP_W H hw c.2.2.1 mrk_no
    exact RP_heal K
theorem RP_upd (H : RP τ ν σ) (hw : w < 32) : RP τ (c_upd ν w) (mWr σ 1560 w) := by
  unfold mWr c_upd
  rw [RP_mi H hw]
  cases h : bz (ν 9 (w / 4))
  · rw [if_neg (by decide), if_neg (by decide)]; exact H
  · rw [if_pos rfl, if_pos rfl]
    have c := RP_w H hw
    rw [c.1, c.2.1]
    exact RP_S H hw c.2.2.1 c.2.2.2
theorem RP_put {x so sh sh' : Int32} (H : RP τ ν σ) (hw : w < 32) (hx : WH x 65535) (hm : mrk so sh sh') : RP τ (c_put ν w x so sh) (mWr (lay σ (wdt 1560 w) x so (mor sh')) 1560 w) :=
  RP_upd (RP_W H hw hx (mrk_hp hm)) hw
theorem RP_take1 {x : Int32} (H : RP τ ν σ) (hk : k < 16) (hw : w < 32) (hx : WH x 65535) : RP τ (setR ν k x (ν 1 w) (hp (ν 1 w) (ν 2 w))) (mGet σ (1560 + 192 + 3 * k) x (wdt 1560 w)) := by
  have c := RP_w H hw
  unfold mGet
  rw [c.2.1]
  exact RP_R H hk hx (mrk_hp c.2.2.2)
theorem RP_cleanR {x : Int32} (H : RP τ ν σ) (hk : k < 16) (hx : WH x 65535) : RP τ (c_cleanR ν k x) (lay σ (1560 + 192 + 3 * k) x (-6) (nI 0)) := RP_R H hk hx mrk_no
theorem RP_clp (H : RP τ ν σ) (hk : k < 16) : RP τ (c_clp ν k) (mClp σ (1560 + 192 + 3 * k)) := by
  unfold c_clp mClp
  rw [(RP_r H hk).2.1]
  cases h : ps (ν 7 k)
  · rw [if_neg (by decide), if_neg (by decide)]; exact H
  · rw [if_pos rfl, if_pos rfl]; exact RP_cleanR H hk (WH_0 (by decide))
end RPS
theorem nErr {x : Int32} {n : Nat} (h : WH x n) (hn : n < 2 ^ 31) : isErr x = false := by
  unfold isErr
  rw [h.1, decide_eq_false (nI_pos (by have := h.2; omega))]
  rfl
theorem nErrB {u : Bool} : isErr (bI u) = false := by cases u <;> rfl
theorem nErrN {k : Nat} (h : k < 2 ^ 31) : isErr (nI k) = false := nErr (n := k) ⟨by rw [tn_nI h], by rw [tn_nI h]; exact Nat.le_refl k⟩ h
