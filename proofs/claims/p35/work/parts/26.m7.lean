/-! THE REFERENCE: calls that leave words of their own behind -/
/-- the same but for the fields that a call leaves its own words in -/
def SQ (u t : TS) : Prop := ∀ k, k < 23 ∨ k = 24 → u k = t k
theorem SQ_rfl {t : TS} : SQ t t := fun _ _ => rfl
theorem SQ_l {u t : TS} {k : Nat} {i x : Int} (h : 23 ≤ k ∧ k ≠ 24) (e : SQ u t) : SQ (ts u k i x) t := fun k' h' => by rw [ts_n (by omega)]; exact e k' h'
theorem SQ_r {u t : TS} {k : Nat} {i x : Int} (h : 23 ≤ k ∧ k ≠ 24) (e : SQ u t) : SQ u (ts t k i x) := fun k' h' => by rw [ts_n (by omega)]; exact e k' h'
theorem SQ_c {u t : TS} {k : Nat} {i x : Int} (e : SQ u t) : SQ (ts u k i x) (ts t k i x) := fun k' h' => by
  by_cases q : k' = k
  · subst q; rw [ts_s, ts_s, e _ h']
  · rw [ts_n q, ts_n q, e _ h']
theorem SQ_t3 {u t : TS} {z : Int × Int × Int} (e : SQ u t) : SQ (t3 u z) t := SQ_l (by decide) (SQ_l (by decide) (SQ_l (by decide) e))
theorem SQ_wt {u : TS} {b : Int} : SQ (wt u b) u := by unfold wt; split <;> first | exact SQ_rfl | exact SQ_t3 SQ_rfl
theorem SQ_trans {u t r : TS} (a : SQ u t) (b : SQ t r) : SQ u r := fun k h => (a k h).trans (b k h)
/-- the answer of a call: refused with the number g, the state else as it was; or v, and t -/
def ansQ (τ : TS) (g : Int) (v : Int) (t : TS) (r : Option LV) (u : TS) : Prop := WF u ∧ ((¬ g = 0 ∧ r = some (vI (iI 0)) ∧ u 33 0 = g ∧ SQ u τ) ∨ (g = 0 ∧ r = some (vI (iI v)) ∧ u 33 0 = 0 ∧ SQ u t))
theorem ansQ_n {τ t u : TS} {g v : Int} {r : Option LV} (W : WF u) (h : ¬ g = 0) (hr : r = some (vI (iI 0))) (hu : u 33 0 = g) (e : SQ u τ) : ansQ τ g v t r u := And.intro W (Or.inl (And.intro h (And.intro hr (And.intro hu e))))
theorem ansQ_y {τ t u : TS} {g v : Int} {r : Option LV} (W : WF u) (h : g = 0) (hr : r = some (vI (iI v))) (hu : u 33 0 = 0) (e : SQ u t) : ansQ τ g v t r u := And.intro W (Or.inr (And.intro h (And.intro hr (And.intro hu e))))
theorem WF_wt' {τ : TS} {b : Int} (W : WF τ) : WF (wt τ b) := WF_wt W b
theorem wt_s {τ : TS} {b : Int} : wt τ b = t3 τ (te τ b) ∨ wt τ b = τ := by unfold wt; split; exact Or.inr rfl; exact Or.inl rfl
theorem fa_wt {τ : TS} {b c s : Int} : fa (wt τ b) c s = fa τ c s := by unfold wt; split <;> rfl
theorem wt_ns {τ : TS} {b : Int} (k : Nat) (h : k < 25 ∨ 27 < k) : wt τ b k = τ k := by
  unfold wt
  split
  · rfl
  · unfold t3; rw [ts_n (by omega), ts_n (by omega), ts_n (by omega)]
