/-! BOUNDS OF THE STATE; THE REFERENCE'S SMALL METHODS -/
def bnd : Nat → Int × Int := fun k => match k with
  | 0 => (0, 1)
  | 1 => (0, 12)
  | 2 => (0, 11)
  | 3 => (0, 2)
  | 4 => (0, 1)
  | 5 => (0, 24)
  | 6 => (0, 11)
  | 7 => (0, 11)
  | 8 => (0, 4)
  | 9 => (0, 66)
  | 10 => (0, 12)
  | 11 => (0, 2)
  | 12 => (0, 8)
  | 13 => (0, 23)
  | 14 => (-2, 1)
  | 15 => (0, 6)
  | 16 => (0, 2147483647)
  | 17 => (-1, 115)
  | 18 => (0, 23)
  | 19 => (0, 1)
  | 20 => (0, 1)
  | 21 => (0, 16)
  | 22 => (-2, 11)
  | 23 => (0, 1)
  | 25 => (0, 12)
  | 26 => (0, 12)
  | 27 => (-1, 1)
  | 28 => (0, 64)
  | 29 => (0, 2000)
  | 30 => (0, 2000)
  | 31 => (0, 2000)
  | 32 => (0, 2000)
  | 33 => (0, 3)
  | _ => (0, 0)
def WF (τ : TS) : Prop := ∀ (k : Nat) (i : Int), k < 34 → k ≠ 24 → (bnd k).1 ≤ τ k i ∧ τ k i ≤ (bnd k).2
theorem wf0 {τ : TS} (W : WF τ) (i : Int) : 0 ≤ τ 0 i ∧ τ 0 i ≤ 1 := W 0 i (by decide) (by decide)
theorem wf1 {τ : TS} (W : WF τ) (i : Int) : 0 ≤ τ 1 i ∧ τ 1 i ≤ 12 := W 1 i (by decide) (by decide)
theorem wf2 {τ : TS} (W : WF τ) (i : Int) : 0 ≤ τ 2 i ∧ τ 2 i ≤ 11 := W 2 i (by decide) (by decide)
theorem wf3 {τ : TS} (W : WF τ) (i : Int) : 0 ≤ τ 3 i ∧ τ 3 i ≤ 2 := W 3 i (by decide) (by decide)
theorem wf4 {τ : TS} (W : WF τ) (i : Int) : 0 ≤ τ 4 i ∧ τ 4 i ≤ 1 := W 4 i (by decide) (by decide)
theorem wf5 {τ : TS} (W : WF τ) (i : Int) : 0 ≤ τ 5 i ∧ τ 5 i ≤ 24 := W 5 i (by decide) (by decide)
theorem wf6 {τ : TS} (W : WF τ) (i : Int) : 0 ≤ τ 6 i ∧ τ 6 i ≤ 11 := W 6 i (by decide) (by decide)
theorem wf7 {τ : TS} (W : WF τ) (i : Int) : 0 ≤ τ 7 i ∧ τ 7 i ≤ 11 := W 7 i (by decide) (by decide)
theorem wf8 {τ : TS} (W : WF τ) (i : Int) : 0 ≤ τ 8 i ∧ τ 8 i ≤ 4 := W 8 i (by decide) (by decide)
theorem wf9 {τ : TS} (W : WF τ) (i : Int) : 0 ≤ τ 9 i ∧ τ 9 i ≤ 66 := W 9 i (by decide) (by decide)
theorem wf10 {τ : TS} (W : WF τ) (i : Int) : 0 ≤ τ 10 i ∧ τ 10 i ≤ 12 := W 10 i (by decide) (by decide)
theorem wf11 {τ : TS} (W : WF τ) (i : Int) : 0 ≤ τ 11 i ∧ τ 11 i ≤ 2 := W 11 i (by decide) (by decide)
theorem wf12 {τ : TS} (W : WF τ) (i : Int) : 0 ≤ τ 12 i ∧ τ 12 i ≤ 8 := W 12 i (by decide) (by decide)
theorem wf13 {τ : TS} (W : WF τ) (i : Int) : 0 ≤ τ 13 i ∧ τ 13 i ≤ 23 := W 13 i (by decide) (by decide)
theorem wf14 {τ : TS} (W : WF τ) (i : Int) : -2 ≤ τ 14 i ∧ τ 14 i ≤ 1 := W 14 i (by decide) (by decide)
theorem wf15 {τ : TS} (W : WF τ) (i : Int) : 0 ≤ τ 15 i ∧ τ 15 i ≤ 6 := W 15 i (by decide) (by decide)
theorem wf16 {τ : TS} (W : WF τ) (i : Int) : 0 ≤ τ 16 i ∧ τ 16 i ≤ 2147483647 := W 16 i (by decide) (by decide)
theorem wf17 {τ : TS} (W : WF τ) (i : Int) : -1 ≤ τ 17 i ∧ τ 17 i ≤ 115 := W 17 i (by decide) (by decide)
theorem wf18 {τ : TS} (W : WF τ) (i : Int) : 0 ≤ τ 18 i ∧ τ 18 i ≤ 23 := W 18 i (by decide) (by decide)
theorem wf19 {τ : TS} (W : WF τ) (i : Int) : 0 ≤ τ 19 i ∧ τ 19 i ≤ 1 := W 19 i (by decide) (by decide)
theorem wf20 {τ : TS} (W : WF τ) (i : Int) : 0 ≤ τ 20 i ∧ τ 20 i ≤ 1 := W 20 i (by decide) (by decide)
theorem wf21 {τ : TS} (W : WF τ) (i : Int) : 0 ≤ τ 21 i ∧ τ 21 i ≤ 16 := W 21 i (by decide) (by decide)
theorem wf22 {τ : TS} (W : WF τ) (i : Int) : -2 ≤ τ 22 i ∧ τ 22 i ≤ 11 := W 22 i (by decide) (by decide)
theorem wf23 {τ : TS} (W : WF τ) (i : Int) : 0 ≤ τ 23 i ∧ τ 23 i ≤ 1 := W 23 i (by decide) (by decide)
theorem wf25 {τ : TS} (W : WF τ) (i : Int) : 0 ≤ τ 25 i ∧ τ 25 i ≤ 12 := W 25 i (by decide) (by decide)
theorem wf26 {τ : TS} (W : WF τ) (i : Int) : 0 ≤ τ 26 i ∧ τ 26 i ≤ 12 := W 26 i (by decide) (by decide)
theorem wf27 {τ : TS} (W : WF τ) (i : Int) : -1 ≤ τ 27 i ∧ τ 27 i ≤ 1 := W 27 i (by decide) (by decide)
theorem wf28 {τ : TS} (W : WF τ) (i : Int) : 0 ≤ τ 28 i ∧ τ 28 i ≤ 64 := W 28 i (by decide) (by decide)
theorem wf29 {τ : TS} (W : WF τ) (i : Int) : 0 ≤ τ 29 i ∧ τ 29 i ≤ 2000 := W 29 i (by decide) (by decide)
theorem wf30 {τ : TS} (W : WF τ) (i : Int) : 0 ≤ τ 30 i ∧ τ 30 i ≤ 2000 := W 30 i (by decide) (by decide)
theorem wf31 {τ : TS} (W : WF τ) (i : Int) : 0 ≤ τ 31 i ∧ τ 31 i ≤ 2000 := W 31 i (by decide) (by decide)
theorem wf32 {τ : TS} (W : WF τ) (i : Int) : 0 ≤ τ 32 i ∧ τ 32 i ≤ 2000 := W 32 i (by decide) (by decide)
theorem wf33 {τ : TS} (W : WF τ) (i : Int) : 0 ≤ τ 33 i ∧ τ 33 i ≤ 3 := W 33 i (by decide) (by decide)
theorem WF_ts {τ : TS} (W : WF τ) {k : Nat} {i x : Int} (h : (bnd k).1 ≤ x ∧ x ≤ (bnd k).2) : WF (ts τ k i x) := by
  intro k' i' h1 h2
  by_cases e : k' = k
  · subst e
    rw [ts_s]
    unfold upZ
    by_cases e2 : i' = i
    · rw [if_pos e2]; exact h
    · rw [if_neg e2]; exact W k' i' h1 h2
  · rw [ts_n e]; exact W k' i' h1 h2
theorem WF_24 {τ : TS} (W : WF τ) {i x : Int} : WF (ts τ 24 i x) := by
  intro k' i' h1 h2
  rw [ts_n h2]; exact W k' i' h1 h2
theorem r1 {p : Prop} (h : p) : some (vI (iI 1)) = some (vI (iI (pI p))) := by rw [pI_t h]
theorem r0 {p : Prop} (h : ¬ p) : some (vI (iI 0)) = some (vI (iI (pI p))) := by rw [pI_f h]
theorem ts0 {τ : TS} {k : Nat} {x : Int} : ts τ k 0 x k 0 = x := by rw [ts_s]; exact if_pos rfl
theorem tsN {τ : TS} {k k' : Nat} {i x j : Int} (h : k' ≠ k) : ts τ k i x k' j = τ k' j := by rw [ts_n h]
/-- of three conditions the first that fails -/
def gl (a b c : Int) : Int := if a = 0 then 1 else if b = 0 then 2 else if c = 0 then 3 else 0
def slo (b : Int) : Int := if 100 ≤ b then 66 + b - 100 else b
