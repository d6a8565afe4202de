/-! THE REFERENCE: fencers of sides, winners, events -/
theorem ts_self {τ : TS} {k : Nat} {i x : Int} : ts τ k i x k i = x := by rw [ts_s]; exact if_pos rfl
theorem ts_else {τ : TS} {k : Nat} {i x j : Int} (h : j ≠ i) : ts τ k i x k j = τ k j := by rw [ts_s]; exact if_neg h
theorem te_rg {τ : TS} (W : WF τ) (s : Int) : 0 ≤ (te τ s).1 ∧ (te τ s).1 ≤ 12 ∧ 0 ≤ (te τ s).2.1 ∧ (te τ s).2.1 ≤ 12 ∧ -1 ≤ (te τ s).2.2 ∧ (te τ s).2.2 ≤ 1 := by
  have e1 := tlF_rg (g := gl3 s) (fun i => tch_rg (τ := τ) s i) (τ 10 s).toNat
  have b1 := wf10 W s
  unfold te
  simp only []
  generalize tlF (gl3 s) (tch τ s) (τ 10 s).toNat = z at e1 ⊢
  split
  · split <;> omega
  · omega
/-- the fencer of a side of a bout, as the reference has it -/
def fa (τ : TS) (b s : Int) : Int := if 100 ≤ b then τ 22 (2 * (b - 100) + s) else if s = 0 then τ 6 b else τ 7 b
def wo (τ : TS) (b : Int) : Int := if 100 ≤ b then τ 22 (b - 100) else if (te τ b).2.2 = -1 then -1 else fa τ b (te τ b).2.2
def wt (τ : TS) (b : Int) : TS := if 100 ≤ b then τ else t3 τ (te τ b)
def okb (b : Int) : Prop := (0 ≤ b ∧ b < 66) ∨ (100 ≤ b ∧ b ≤ 115)
theorem slo_rg {b : Int} (h : okb b) : 0 ≤ slo b ∧ slo b < 82 := by
  unfold okb at h
  unfold slo
  split <;> omega
theorem fa_rg {τ : TS} (W : WF τ) (b s : Int) : -2 ≤ fa τ b s ∧ fa τ b s ≤ 11 := by
  have h1 := wf22 W (2 * (b - 100) + s)
  have h2 := wf6 W b
  have h3 := wf7 W b
  unfold fa
  split
  · omega
  · split <;> omega
theorem fa_t3 {τ : TS} {z : Int × Int × Int} : fa (t3 τ z) = fa τ := rfl
def la (τ : TS) : Int := 12 * slo (τ 17 0) + τ 10 (slo (τ 17 0))
/-- the piste holds a bout, and a phrase of it can stand at its place -/
def okp (τ : TS) : Prop := okb (τ 17 0) ∧ τ 10 (slo (τ 17 0)) < 12
theorem la_rg {τ : TS} (W : WF τ) (h : okp τ) : 0 ≤ la τ ∧ la τ < 984 := by
  have h1 := slo_rg h.1
  have h2 := wf10 W (slo (τ 17 0))
  have h3 := h.2
  unfold la
  omega
theorem wo_rg {τ : TS} (W : WF τ) (b : Int) : -2 ≤ wo τ b ∧ wo τ b ≤ 11 := by
  have h1 := wf22 W (b - 100)
  have h2 := fa_rg W b (te τ b).2.2
  unfold wo
  split
  · omega
  · split <;> omega
theorem WF_wt {τ : TS} (W : WF τ) (b : Int) : WF (wt τ b) := by
  unfold wt
  split
  · exact W
  · exact WF_t3 W (te_rg W b)
def evt (τ : TS) (c t : Int) : TS := ts (ts (ts τ 15 (8 * la τ + τ 12 (la τ)) c) 16 (8 * la τ + τ 12 (la τ)) t) 12 (la τ) (τ 12 (la τ) + 1)
