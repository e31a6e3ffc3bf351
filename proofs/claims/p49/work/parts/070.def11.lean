/-! words of the class itself -/
abbrev MS : Type := Nat → Int32
def updN (f : Nat → Nat) (k x : Nat) : Nat → Nat := fun j => if j = k then x else f j
def nf (g : Nat → Nat) : Nat → Int32 := fun k => nI (g k)
abbrev Q4 : Type := Nat × (Nat → Nat) × Nat
def teF (T : Nat → ClassId) (td : Nat → Nat) (ch : Nat → Nat) (len kd : Nat) (q : Q4) : List va_W := [[((td 0), .inr (4, [.ref (td 1), .int (nI (len)), .int (nI (q.1)), .int (nI (kd)), .ref (td 2), .int (nI (q.2.2))]))], [((td 1), .inl (T 2, 90, .inl (nf ch)))], [((td 2), .inl (T 0, 5, .inl (nf q.2.1)))]]
def teW (T : Nat → ClassId) (td : Nat → Nat) (ch : Nat → Nat) (len kd : Nat) (q : Q4) : va_W := (teF T td ch len kd q).flatten
def inn (v lo hi : Int32) : Bool := !decide (v < lo) && !decide (hi < v)
theorem inn_iN {x : Int32} {n : Nat} (hn : n + 1 < 2 ^ 31) : inn x (nI 0) (nI n) = iN x (n + 1) := iN_of_le hn
theorem bI_ge (b : Bool) : 0 ≤ bI b := by cases b <;> decide
theorem bI_nlt (b : Bool) : ¬ bI b < 0 := by cases b <;> decide
def wiM (g : Nat → Int32) : Nat → Int32 × Int32
  | 0 => (-6, nI 0)
  | k + 1 => if (wiM g k).2 < g k then (nI k, g k) else wiM g k
theorem upd_o {f : Nat → Int32} {k j : Nat} {v : Int32} (h : j ≠ k) : upd f k v j = f j := by unfold upd; rw [if_neg h]
theorem upd_s {f : Nat → Int32} {k : Nat} {v : Int32} : upd f k v k = v := by unfold upd; rw [if_pos rfl]
/-! the class itself -/
section FR11
variable {p : Program} {l : Launch} {e : Env} {R : Room} {s : State} {m : MethodId} {args : Array Value} {below : List Frame} {meth : Method} {c : Code} {H : Heap} {locs : List Loc} {cells slots : Nat} {Q : State → Prop}
variable {cc : ByteArray} {pc : Nat} {ls : Array Slot} {rest : List Value} {D : va_G} {A : Nat → Prop} {a : Nat} {T : Nat → ClassId} {Z : ZZ} {fs : List va_W} {H0 : Heap}
variable {y : MethodName} {bytes : ByteArray} {maxL nL n index : Nat} {ret : Option FieldType} {ws : List Cond} {rm : Room} {Ts : List Cond} {own C host : String} {b : Nat} {As : List Value} {st : List Value} {cs cs' fs' : List va_W} {r : Int32} {i0 ci : Nat} {q0 : vw_C} {vs : List Value} {tl : va_W}
theorem fr_VNiP {tl2 : List va_W} (S : CallFix p m c cc nL s args Ts own) (hCt : CtI l D T Z y ws rm cs (.ref b :: As) r cs') (cw : va_CN R s args own index y host bytes maxL ret ws rm 0 0 n ∧ (Cond.instanceMethod y).before args s = true ∧ (Cond.selects q0.1 y y).before args s = true)
    (hK : va_K D vwCl (tyL T) s) (hN : nwOk s) (hM : amb Z A s s.heap) (hP : frP D (cs ++ tl2) H) (hD : va_D A (cs ++ tl2).flatten) (hS : va_S A s.heap H locs) (hA : ∀ q, s.heap.size ≤ q → A q) (hc : vwCl[ci]? = some q0) (hi : cs[i0]? = some ((b, .inr (ci, vs)) :: tl))
    (hn : As.length = n) (hsz : ls.size = nL) (hst : st = As.reverse ++ .ref b :: rest) (hW : (rest.map fun v => v.category).sum ≤ 8) (hdg : decode cc pc = .ok (.invokevirtual index, 3)) (hf : cells ≤ R.cells ∧ slots ≤ R.slots)
    (kk : ∀ (H1 : Heap) (locs1 : List Loc), frP D (cs' ++ tl2) H1 → va_D A (cs' ++ tl2).flatten → va_S A s.heap H1 locs1 → W p l e R s m args below meth c H1 locs1 cells slots Q (F0 m (pc + 3) ls (.int r :: rest))) : W p l e R s m args below meth c H locs cells slots Q (F0 m pc ls st) :=
  fr_VNi S hCt cw hK hN hM hP hD hS hA (List.range' 0 cs.length) fr_pre_C (va_nd_of List.nodup_range') (frPut_pre cs cs' [] tl2 (by have := congrArg List.length hCt.1; simpa using this.symm)) hc (by rw [List.getElem?_append_left (List.getElem?_eq_some_iff.mp hi).1]; exact hi) hn hsz hst hW hdg hf kk
end FR11
/-- the class's object -/
def maF (AD : Nat → Nat → Nat) : va_W := [((AD 8) 0, .inr (5, [.ref ((AD 0) 0), .ref ((AD 1) 0), .ref ((AD 8) 1), .ref ((AD 9) 0), .ref ((AD 7) 0)]))]
def arC (ν : NS) : Nat → Int32
  | 0 => nI 0
  | k + 1 => if !bz (ν 11 k) && decide (0 < cntP (ν 7) (k * 4 + 0) (k * 4 + 4 - (k * 4 + 0))) then arC ν k ||| (nI 1 <<< (nI k &&& 31)) else arC ν k
theorem arC_a {ν : NS} {k : Nat} (h : bz (ν 11 k) = true) : arC ν (k + 1) = arC ν k := by
  show (if _ then _ else _) = _
  rw [if_neg (by rw [h, Bool.not_true, Bool.false_and]; decide)]
theorem arC_b {ν : NS} {k : Nat} (h : cntP (ν 7) (k * 4 + 0) (k * 4 + 4 - (k * 4 + 0)) ≤ 0) : arC ν (k + 1) = arC ν k := by
  show (if _ then _ else _) = _
  rw [if_neg (by rw [decide_eq_false (by omega)]; simp)]
theorem arC_c {ν : NS} {k : Nat} (h : bz (ν 11 k) = false) (h2 : 0 < cntP (ν 7) (k * 4 + 0) (k * 4 + 4 - (k * 4 + 0))) : arC ν (k + 1) = arC ν k ||| (nI 1 <<< (nI k &&& 31)) := by
  show (if _ then _ else _) = _
  rw [if_pos (by rw [h, decide_eq_true h2]; rfl)]
theorem stW_m {T : Nat → ClassId} {ad : Nat → Nat} {ν : NS} {w : va_W} : (stF T ad ν ++ [w]).flatten = [stW T ad ν, w].flatten := by simp [stW]
