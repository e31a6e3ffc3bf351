/-! what is new, and what stands all the time -/
theorem fil_in {f : Nat → Int32} {x : Int32} {n j : Nat} (h : j < n) : filF f x n j = x := if_pos h
theorem PI_0 : PI N0 := by
  refine ⟨⟨WH_0 (by decide), WH_0 (by decide)⟩, fun k hk => ?_, fun k hk => ?_, fun k hk => ?_, fun t ht => WH_0 (by decide)⟩
  · refine ⟨WH_0 (by decide), ?_⟩
    show mk _ _ (filF (fun _ => nI 0) (-6) 32 k) (filF (fun _ => nI 0) (-6) 32 k)
    rw [fil_in hk]; exact mk_no
  · refine ⟨WH_0 (by decide), ?_⟩
    show mk _ _ (filF (fun _ => nI 0) (-6) 32 k) (filF (fun _ => nI 0) (-6) 32 k)
    rw [fil_in hk]; exact mk_no
  · refine ⟨WH_0 (by decide), ?_⟩
    show mk _ _ (filF (fun _ => nI 0) (-6) 16 k) (filF (fun _ => nI 0) (-6) 16 k)
    rw [fil_in hk]; exact mk_no
theorem HI_0 : HI 0 0 (fun _ => N0) N0 := ⟨by decide, by decide, PI_0, fun _ => PI_0⟩
/-- what stands all the time: the machine, the code, the words, the script -/
def LC (p : Program) (s : State) (m : MethodId) (c : Code) (b L : Nat) (xs : Nat → Int32) (D : va_G) (T : Nat → ClassId) (Z : ZZ) : Prop :=
  p.tables.exec = Jvm.exec ∧ c.code = code ∧ c.maxLocals = 12 ∧ s.vm.findClass RL = some m.cls ∧ (∀ w ∈ wsL_law, w.before #[Value.ref b] s = true) ∧ va_K D vwCl (tyL T) s ∧ nwOk s ∧ amb Z (fun q => s.heap.size ≤ q) s s.heap ∧ va_X b L xs s s.heap ∧ b < s.heap.size ∧ L ≤ 260

