/-! THE REFERENCE: what follows for the nodes -/
def clr (τ : TS) (i : Int) : TS := fun k' => if k' = 23 then (fun z => if 1 ≤ z ∧ z < i then 0 else τ 23 z) else τ k'
theorem clr_1 {τ : TS} : clr τ 1 = τ := by
  funext k' z
  unfold clr
  by_cases h : k' = 23
  · subst h
    rw [if_pos rfl, if_neg (by omega)]
  · rw [if_neg h]
theorem clr_s {τ : TS} {i : Int} (hi : 1 ≤ i) : ts (clr τ i) 23 i 0 = clr τ (i + 1) := by
  funext k'
  by_cases h : k' = 23
  · subst h
    rw [ts_s]
    funext z
    show (if z = i then 0 else if 1 ≤ z ∧ z < i then 0 else τ 23 z) = (if 1 ≤ z ∧ z < i + 1 then 0 else τ 23 z)
    by_cases e : z = i
    · rw [if_pos e, if_pos (by omega)]
    · rw [if_neg e]
      by_cases e2 : 1 ≤ z ∧ z < i
      · rw [if_pos e2, if_pos (by omega)]
      · rw [if_neg e2, if_neg (by omega)]
  · rw [ts_n h]
    unfold clr
    rw [if_neg h, if_neg h]
theorem WF_clr {τ : TS} (W : WF τ) (i : Int) : WF (clr τ i) := by
  intro k z h1 h2
  unfold clr
  by_cases h : k = 23
  · subst h
    rw [if_pos rfl]
    show (0 : Int) ≤ _ ∧ _ ≤ (1 : Int)
    have := wf23 W z
    split <;> omega
  · rw [if_neg h]; exact W k z h1 h2
/-- a bout is gone, if what it rests on has changed -/
def frst (τ : TS) (k : Int) : TS := if ¬ τ 23 (2 * k) = 0 ∨ ¬ τ 23 (2 * k + 1) = 0 then ts (ts (ts (ts (ts τ 24 0 (τ 24 0 + (if 0 < τ 10 (66 + k) then 1 else 0))) 10 (66 + k) 0) 11 (2 * (66 + k)) 0) 11 (2 * (66 + k) + 1) 0) 17 0 (if τ 17 0 = 100 + k then -1 else τ 17 0) else τ
def fnow (l r w : Int) : Int := if 0 ≤ l ∧ 0 ≤ r then (if w = -1 then -1 else if w = 0 then l else r) else if l = -2 then r else if r = -2 then l else -1
def ftel (τ : TS) (k : Int) : TS := if 0 ≤ τ 22 (2 * k) ∧ 0 ≤ τ 22 (2 * k + 1) then t3 τ (te τ (66 + k)) else τ
def fwin (τ : TS) (k : Int) : Int := fnow (τ 22 (2 * k)) (τ 22 (2 * k + 1)) (te τ (66 + k)).2.2
def fstep (τ : TS) (k : Int) : TS := ts (ts (ftel (frst τ k) k) 23 k (if 0 ≤ τ 22 k ∧ ¬ τ 22 k = fwin (frst τ k) k then 1 else 0)) 22 k (fwin (frst τ k) k)
def folG (τ : TS) (sz : Int) : Nat → TS
  | 0 => τ
  | i + 1 => fstep (folG τ sz i) (sz - 1 - i)
def fol (τ : TS) : TS := folG (clr τ 32) (τ 21 0) (τ 21 0 - 1).toNat
theorem frst_22 {τ : TS} {k : Int} : frst τ k 22 = τ 22 := by unfold frst; split <;> rfl
theorem ftel_22 {τ : TS} {k : Int} : ftel τ k 22 = τ 22 := by unfold ftel; split <;> rfl
theorem WF_frst {τ : TS} (W : WF τ) (k : Int) : WF (frst τ k) := by
  have b := wf17 W 0
  unfold frst
  split
  · refine WF_ts (WF_ts (WF_ts (WF_ts (WF_24 W) (by decide)) (by decide)) (by decide)) ?_
    show (-1 : Int) ≤ _ ∧ _ ≤ (115 : Int)
    split <;> omega
  · exact W
theorem WF_ftel {τ : TS} (W : WF τ) (k : Int) : WF (ftel τ k) := by
  unfold ftel
  split
  · exact WF_t3 W (te_rg W _)
  · exact W
theorem fnow_rg {l r w : Int} (hl : -2 ≤ l ∧ l ≤ 11) (hr : -2 ≤ r ∧ r ≤ 11) : -2 ≤ fnow l r w ∧ fnow l r w ≤ 11 := by
  unfold fnow
  split
  · split
    · omega
    · split <;> omega
  · split
    · omega
    · split <;> omega
theorem WF_fstep {τ : TS} (W : WF τ) (k : Int) : WF (fstep τ k) := by
  have h := fnow_rg (w := (te (frst τ k) (66 + k)).2.2) (wf22 (WF_frst W k) (2 * k)) (wf22 (WF_frst W k) (2 * k + 1))
  unfold fstep
  refine WF_ts (WF_ts (WF_ftel (WF_frst W k) k) ?_) h
  show (0 : Int) ≤ _ ∧ _ ≤ (1 : Int)
  split <;> omega
theorem WF_folG {τ : TS} (W : WF τ) (sz : Int) : ∀ i, WF (folG τ sz i)
  | 0 => W
  | i + 1 => WF_fstep (WF_folG W sz i) _
theorem WF_fol {τ : TS} (W : WF τ) : WF (fol τ) := WF_folG (WF_clr W 32) _ _
