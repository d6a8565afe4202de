/-! THE REFERENCE: the calls that it answers -/
theorem Z_bj {X : GX} {M : MI} {pc pcB : Nat} {ls : List (Option LV)} {st : List LV} {h : LH} {k n : Nat} {Q : LO → LH → Prop} (p : Prop) (hh : (∀ x : Int, x = pI p → J X M pcB ls (vI (iI x) :: st) h k n Q) → J X M pc ls st h k n Q) (kk : J X M pcB ls (vI (iI (pI p)) :: st) h k n Q) : J X M pc ls st h k n Q := hh (fun x e => e ▸ kk)
theorem pI_n0 {p : Prop} : ¬ pI p = 0 ↔ p := ⟨fun e => Classical.byContradiction fun h => e (pI_f h), fun h e => by rw [pI_t h] at e; omega⟩
theorem gl_0 {a b c : Int} (h : ¬ a = 0 ∧ ¬ b = 0 ∧ ¬ c = 0) : gl a b c = 0 := by unfold gl; rw [if_neg h.1, if_neg h.2.1, if_neg h.2.2]
theorem gl_n {a b c : Int} (h : ¬ (¬ a = 0 ∧ ¬ b = 0 ∧ ¬ c = 0)) : ¬ gl a b c = 0 := by
  unfold gl
  split
  · omega
  · split
    · omega
    · split
      · omega
      · omega
theorem gl_rg {a b c : Int} : 0 ≤ gl a b c ∧ gl a b c ≤ 3 := by
  unfold gl
  split
  · omega
  · split
    · omega
    · split <;> omega
/-- the answer of a call: refused with the number g, the state else as it was; or v, and t -/
def ans (τ : TS) (g : Int) (v : Int) (t : TS) (r : Option LV) (u : TS) : Prop := (¬ g = 0 ∧ r = some (vI (iI 0)) ∧ u = ts τ 33 0 g) ∨ (g = 0 ∧ r = some (vI (iI v)) ∧ u = t)
