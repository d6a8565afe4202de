/-! THE CLASS AND THE REFERENCE: a phrase of one and of the other -/
section JW
variable {X : GX} {M : MI} {pc : Nat} {ls : List (Option LV)} {st : List LV} {h : LH} {k n : Nat} {Q : LO → LH → Prop} {a i lo hi : Int} {g : Int → Int} {kd : Nat}
theorem Z_wb (hw : ∀ i, lo ≤ g i ∧ g i ≤ hi) (e : a = g i) (kk : (lo ≤ g i ∧ g i ≤ hi) → J X M pc ls (vI (iI (g i)) :: st) h k n Q) : J X M pc ls (vI (iI a) :: st) h k n Q := e ▸ kk (hw i)
theorem Z_rwb (hw : ∀ i, lo ≤ g i ∧ g i ≤ hi) (e : a = g i) (kk : (lo ≤ g i ∧ g i ≤ hi) → J X M pc ls (vR (rfo kd (g i)) :: st) h k n Q) : J X M pc ls (vR (rfo kd a) :: st) h k n Q := e ▸ kk (hw i)
end JW
/-- kind and side of an event, by the reference's code -/
def kd (c : Int) : Int := if c < 4 then 1 - c % 2 else 2
def sd (c : Int) : Int := if c < 4 then c / 2 else c - 5
theorem kd_c {c : Int} (h : 0 ≤ c ∧ c ≤ 6) : (kd c = 0 ↔ c < 4 ∧ c % 2 = 1) ∧ (kd c = 1 ↔ c < 4 ∧ c % 2 = 0) ∧ (kd c = 2 ↔ 4 ≤ c) ∧ (c < 4 → sd c = c / 2) ∧ (4 ≤ c → sd c = c - 5) := by
  unfold kd sd
  split <;> omega
def mx (z : Int) : Int := if z < 0 then -1 else z
/-- the phrase p of the class is the phrase f of the reference -/
def PH (ρ τ : TS) (p f : Int) : Prop := (0 ≤ p ∧ p < ρ 47 2) ∧ (ρ 27 p = τ 0 0 ∧ ρ 49 p = f) ∧ (ρ 28 p = τ 13 (2 * f) ∧ ρ 28 p < ρ 47 1) ∧ (ρ 29 p = τ 13 (2 * f + 1) ∧ ρ 29 p < ρ 47 1) ∧ ρ 33 p = τ 12 f ∧ (ρ 34 p = 0 ↔ τ 14 f = -2) ∧ (¬ τ 14 f = -2 → ρ 35 p = τ 14 f) ∧ (∀ e, 0 ≤ e → e < τ 12 f → ρ 30 (8 * p + e) = kd (τ 15 (8 * f + e)) ∧ ρ 31 (8 * p + e) = sd (τ 15 (8 * f + e)) ∧ ρ 32 (8 * p + e) = τ 16 (8 * f + e)) ∧ ∀ e e', 0 ≤ e → e ≤ e' → e' < τ 12 f → τ 16 (8 * f + e) ≤ τ 16 (8 * f + e')
/-- the first light, in the class's numbers -/
def flv (τ : TS) (f : Int) : Int := if (jl (τ 0 0) (τ 15) (8 * f) (τ 12 f).toNat).1 = -1 then -1 else (jl (τ 0 0) (τ 15) (8 * f) (τ 12 f).toNat).1 - 8 * f
def lko (τ : TS) : Int := if τ 0 0 = 0 then 40 else 300
/-- the other light behind the event l -/
def jsv (τ : TS) (f l : Int) : Nat → Int := js (τ 0 0) (τ 15) (τ 15 (8 * f + l) / 2) (8 * f + l)
def olv (τ : TS) (f l : Int) : Int := if jsv τ f l (τ 12 f - l - 1).toNat = -1 ∨ lko τ < τ 16 (jsv τ f l (τ 12 f - l - 1).toNat) - τ 16 (8 * f + l) then -1 else jsv τ f l (τ 12 f - l - 1).toNat - 8 * f
def rgv (τ : TS) (f l : Int) : Int := if τ 14 f = -2 then (jl (τ 0 0) (τ 15) (8 * f) l.toNat).2 else τ 14 f
def tov (τ : TS) (f l : Int) : Int := if 0 ≤ l ∧ τ 15 (8 * f + l) < 4 ∧ τ 15 (8 * f + l) % 2 = 1 then τ 15 (8 * f + l) / 2 + 1 else 0
theorem jl_su {F : Int} {c : Int → Int} {f : Int} {i : Nat} (h : (jl F c f i).1 = -1) : jl F c f (i + 1) = (if litF F c (f + i) then f + i else -1, if 4 ≤ c (f + i) then c (f + i) - 5 else (jl F c f i).2) := by
  show (if (jl F c f i).1 = -1 then _ else jl F c f i) = _
  rw [if_pos h]
theorem js_su {F : Int} {c : Int → Int} {s f : Int} {i : Nat} (h : js F c s f i = -1) : js F c s f (i + 1) = if cntF F c (f + 1 + i) (1 - s) then f + 1 + i else -1 := by
  show (if js F c s f i = -1 then _ else js F c s f i) = _
  rw [if_pos h]
theorem lit_c {F : Int} {c : Int → Int} {e : Int} (hc : 0 ≤ c e ∧ c e ≤ 6) (h : litF F c e) : c e < 4 := by
  rcases h with h | h
  · have := h.1; omega
  · have := h.1; omega
/-- before the first light none was -/
theorem jl_pre {F : Int} {c : Int → Int} {f : Int} : ∀ {i m : Nat}, (jl F c f (i + m)).1 = -1 → (jl F c f i).1 = -1 := by
  intro i m h
  by_cases e : (jl F c f i).1 = -1
  · exact e
  · rw [jl_stay e] at h; exact h
/-- where the first light is: none ahead of it -/
theorem jl_at {F : Int} {c : Int → Int} {f : Int} (hf : 0 ≤ f) : ∀ n : Nat, ¬ (jl F c f n).1 = -1 → ∃ l : Nat, l < n ∧ (jl F c f n).1 = f + l ∧ (jl F c f l).1 = -1 ∧ litF F c (f + l) ∧ jl F c f n = jl F c f (l + 1)
  | 0, h => absurd rfl h
  | n + 1, h => by
    by_cases e : (jl F c f n).1 = -1
    · have e2 := jl_su e
      by_cases q : litF F c (f + n)
      · refine ⟨n, by omega, ?_, e, q, rfl⟩
        rw [e2, if_pos q]
      · rw [e2, if_neg q] at h
        exact absurd rfl h
    · obtain ⟨l, a1, a2, a3, a4, a5⟩ := jl_at hf n e
      have e3 := jl_stay e 1
      exact ⟨l, by omega, by rw [e3]; exact a2, a3, a4, by rw [e3]; exact a5⟩
theorem js_pre {F : Int} {c : Int → Int} {s f : Int} {i : Nat} (h : ¬ js F c s f i = -1) {n : Nat} (hn : i ≤ n) : js F c s f n = js F c s f i := by
  have := js_stay h (n - i)
  rw [show i + (n - i) = n by omega] at this
  exact this
