/-! THE REFERENCE: ranks -/
theorem Z_ij {X : GX} {M : MI} {pc pcB : Nat} {ls : List (Option LV)} {st : List LV} {h : LH} {k n : Nat} {Q : LO → LH → Prop} (v : Int) (hh : (∀ x : Int, x = v → J X M pcB ls (vI (iI x) :: st) h k n Q) → J X M pc ls st h k n Q) (kk : J X M pcB ls (vI (iI v) :: st) h k n Q) : J X M pc ls st h k n Q := hh (fun x e => e ▸ kk)
theorem sm1_eq {τ τ' u u' : TS} {i : Int} {k : Nat} {j : Int} (et : te τ = te τ') (e6 : τ 6 = τ' 6) (e7 : τ 7 = τ' 7) (hk : k = 29 ∨ k = 30 ∨ k = 31 ∨ k = 32) (h : ∀ f, (f = j ∨ True) → 0 ≤ f → f < 12 → u 29 f = u' 29 f ∧ u 30 f = u' 30 f ∧ u 31 f = u' 31 f ∧ u 32 f = u' 32 f) (h0 : 0 ≤ j) (h1 : j < 12) (b6 : 0 ≤ τ' 6 i ∧ τ' 6 i < 12) (b7 : 0 ≤ τ' 7 i ∧ τ' 7 i < 12) : sm1 τ u i k j = sm1 τ' u' i k j := by
  obtain ⟨a1, a2, a3, a4⟩ := h j (Or.inr trivial) h0 h1
  obtain ⟨c1, c2, c3, c4⟩ := h (τ' 6 i) (Or.inr trivial) b6.1 b6.2
  obtain ⟨d1, d2, d3, d4⟩ := h (τ' 7 i) (Or.inr trivial) b7.1 b7.2
  unfold sm1
  rw [et, e6, e7]
  generalize te τ' i = z
  have T : ∀ (u : TS) k j, (k = 29 ∨ k = 30 ∨ k = 31 ∨ k = 32) → t3 u z k j = u k j := by
    intro u k j hk; rcases hk with rfl | rfl | rfl | rfl <;> rfl
  split
  · rw [T _ _ _ hk, T _ _ _ hk]
    rcases hk with rfl | rfl | rfl | rfl <;> assumption
  · have P : ∀ (v v' : TS) (f x y b g : Int), (v 29 f = v' 29 f ∧ v 30 f = v' 30 f ∧ v 31 f = v' 31 f ∧ v 32 f = v' 32 f) → (v 29 g = v' 29 g ∧ v 30 g = v' 30 g ∧ v 31 g = v' 31 g ∧ v 32 g = v' 32 g) → (adF v f x y b 29 g = adF v' f x y b 29 g ∧ adF v f x y b 30 g = adF v' f x y b 30 g ∧ adF v f x y b 31 g = adF v' f x y b 31 g ∧ adF v f x y b 32 g = adF v' f x y b 32 g) := by
      intro v v' f x y b g p q
      obtain ⟨e1, e2, e3, e4⟩ := ad_at (τ := v) (f := f) (x := x) (y := y) (b := b) (j := g)
      obtain ⟨g1, g2, g3, g4⟩ := ad_at (τ := v') (f := f) (x := x) (y := y) (b := b) (j := g)
      rw [e1, e2, e3, e4, g1, g2, g3, g4, p.1, p.2.1, p.2.2.1, p.2.2.2, q.1, q.2.1, q.2.2.1, q.2.2.2]
      exact ⟨rfl, rfl, rfl, rfl⟩
    have R := P (adF (t3 u z) (τ' 6 i) z.1 z.2.1 (pI (z.2.2 = 0))) (adF (t3 u' z) (τ' 6 i) z.1 z.2.1 (pI (z.2.2 = 0))) (τ' 7 i) z.2.1 z.1 (pI (z.2.2 = 1)) j
      (P (t3 u z) (t3 u' z) (τ' 6 i) _ _ _ (τ' 7 i) ⟨c1, c2, c3, c4⟩ ⟨d1, d2, d3, d4⟩) (P (t3 u z) (t3 u' z) (τ' 6 i) _ _ _ j ⟨c1, c2, c3, c4⟩ ⟨a1, a2, a3, a4⟩)
    rcases hk with rfl | rfl | rfl | rfl
    · exact R.1
    · exact R.2.1
    · exact R.2.2.1
    · exact R.2.2.2
theorem smF_eq {τ τ' : TS} (e : SQ τ τ') (W' : WF τ') : ∀ (i : Nat) (k : Nat) (j : Int), (k = 29 ∨ k = 30 ∨ k = 31 ∨ k = 32) → 0 ≤ j → j < 12 → smF τ i k j = smF τ' i k j
  | 0, k, j, hk, h0, h1 => by
      show zr τ 12 k j = zr τ' 12 k j
      have Z : ∀ t : TS, zr t 12 k j = 0 := fun t => by
        unfold zr
        rw [if_pos (by omega)]
        exact if_pos (by omega)
      rw [Z, Z]
  | i + 1, k, j, hk, h0, h1 => by
      have b6 := wf6 W' i
      have b7 := wf7 W' i
      exact sm1_eq (te_SQ e) (e 6 (by decide)) (e 7 (by decide)) hk (fun f _ g0 g1 => ⟨smF_eq e W' i 29 f (by decide) g0 g1, smF_eq e W' i 30 f (by decide) g0 g1, smF_eq e W' i 31 f (by decide) g0 g1, smF_eq e W' i 32 f (by decide) g0 g1⟩) h0 h1 (by omega) (by omega)
/-- the sums of all bouts of the pools -/
noncomputable def sm (τ : TS) : TS := smF τ (τ 9 0).toNat
theorem sm_33 {τ : TS} (W : WF τ) {x : Int} {k : Nat} {j : Int} (hk : k = 29 ∨ k = 30 ∨ k = 31 ∨ k = 32) (h0 : 0 ≤ j) (h1 : j < 12) : sm (ts τ 33 0 x) k j = sm τ k j := smF_eq SQ_33 W _ _ _ hk h0 h1
theorem SQ_sm {τ : TS} : SQ (sm τ) τ := SQ_smF _
theorem WF_sm {τ : TS} (W : WF τ) : WF (sm τ) := (smF_B W _ (by have := wf9 W 0; omega)).1
theorem sm1_33 {τ u : TS} {i : Int} : sm1 τ u i 33 = u 33 := by unfold sm1; split <;> rfl
theorem smF_33 {τ : TS} : ∀ i, smF τ i 33 = τ 33
  | 0 => by show zr τ 12 33 = τ 33; unfold zr; rw [if_neg (by decide)]
  | i + 1 => by show sm1 τ (smF τ i) i 33 = τ 33; rw [sm1_33, smF_33 i]
theorem sm_at33 {τ : TS} : sm τ 33 = τ 33 := smF_33 _
def mx1 (x : Int) : Int := if x = 0 then 1 else x
def ahd (u : TS) (a b : Int) : Int :=
  let d := u 30 a * mx1 (u 29 b) - u 30 b * mx1 (u 29 a)
  let d2 := if d = 0 then u 31 a - u 32 a - u 31 b + u 32 b else d
  if d2 = 0 then u 31 a - u 31 b else d2
def ahP (u : TS) (a b : Int) : Prop := 0 < ahd u a b ∨ (ahd u a b = 0 ∧ a < b)
theorem mul_rg {x y : Int} (hx : 0 ≤ x ∧ x ≤ 2000) (hy : 0 ≤ y ∧ y ≤ 2000) : 0 ≤ x * y ∧ x * y ≤ 4000000 := by
  refine ⟨Int.mul_nonneg hx.1 hy.1, ?_⟩
  exact Int.le_trans (Int.mul_le_mul hx.2 hy.2 hy.1 (by decide)) (by decide)
theorem mx1_rg {x : Int} (hx : 0 ≤ x ∧ x ≤ 2000) : 0 ≤ mx1 x ∧ mx1 x ≤ 2000 := by unfold mx1; split <;> omega
noncomputable def cnA (u : TS) (i : Int) : Nat → Int
  | 0 => 0
  | m + 1 => cnA u i m + pI (¬ (m : Int) = i ∧ ahP u m i)
noncomputable def rkF (u : TS) (p n : Int) : Nat → Int
  | 0 => 0
  | i + 1 => if cnA u i n.toNat = p then i else rkF u p n i
theorem cnA_rg {u : TS} {i : Int} : ∀ m : Nat, 0 ≤ cnA u i m ∧ cnA u i m ≤ m
  | 0 => by show (0 : Int) ≤ 0 ∧ (0 : Int) ≤ ((0 : Nat) : Int); omega
  | m + 1 => by
      have h := cnA_rg (u := u) (i := i) m
      have p := pI_01 (¬ (m : Int) = i ∧ ahP u m i)
      show 0 ≤ cnA u i m + pI _ ∧ cnA u i m + pI _ ≤ ((m + 1 : Nat) : Int)
      omega
theorem rkF_rg {u : TS} {p n : Int} : ∀ i : Nat, 0 ≤ rkF u p n i ∧ rkF u p n i ≤ i
  | 0 => by show (0 : Int) ≤ 0 ∧ (0 : Int) ≤ ((0 : Nat) : Int); omega
  | i + 1 => by
      have h := rkF_rg (u := u) (p := p) (n := n) i
      show 0 ≤ (if cnA u i n.toNat = p then (i : Int) else rkF u p n i) ∧ (if cnA u i n.toNat = p then (i : Int) else rkF u p n i) ≤ ((i + 1 : Nat) : Int)
      split <;> omega
