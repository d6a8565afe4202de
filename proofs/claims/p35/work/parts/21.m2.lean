/-! THE REFERENCE: WHAT A PHRASE IS JUDGED, SCORES -/
def lsub : List (Option LV) → List (Option LV) → Prop
  | [], _ => True
  | none :: a, _ :: b => lsub a b
  | none :: a, [] => lsub a []
  | some v :: a, some w :: b => v = w ∧ lsub a b
  | some _ :: _, _ => False
theorem lsub_at : ∀ (a b : List (Option LV)), lsub a b → ∀ (i : Nat) (v : LV), a[i]? = some (some v) → b[i]? = some (some v)
  | [], _, _, i, v, hv => by simp at hv
  | none :: a, x :: b, h, i, v, hv => by
    cases i with
    | zero => simp at hv
    | succ i => exact lsub_at a b h i v hv
  | none :: a, [], h, i, v, hv => by
    cases i with
    | zero => simp at hv
    | succ i =>
      have := lsub_at a [] h i v hv
      simp at this
  | some w :: a, some x :: b, h, i, v, hv => by
    cases i with
    | zero => simp at hv ⊢; rw [← h.1]; exact hv
    | succ i => exact lsub_at a b h.2 i v hv
  | some w :: a, none :: b, h, i, v, hv => h.elim
  | some w :: a, [], h, i, v, hv => h.elim
theorem J_sub {X : GX} {M : MI} {pc : Nat} {ls ls' : List (Option LV)} {st : List LV} {h : LH} {k n : Nat} {Q : LO → LH → Prop} (kk : J X M pc ls' st h k n Q) (hs : lsub ls' ls) : J X M pc ls st h k n Q := J_ls (lsub_at ls' ls hs) kk
theorem vz {a b : Int} (e : a = b) : vI (iI a) = vI (iI b) := by rw [e]
/-- an event is a contact of a side that counts -/
abbrev cntF (F : Int) (c : Int → Int) (e s : Int) : Prop := c e / 2 = s ∧ (¬ F = 0 ∨ c e % 2 = 1)
abbrev litF (F : Int) (c : Int → Int) (e : Int) : Prop := cntF F c e 0 ∨ cntF F c e 1
/-- the first light, and who had the right ahead of it -/
def jl (F : Int) (c : Int → Int) (f : Int) : Nat → Int × Int
  | 0 => (-1, -1)
  | i + 1 => if (jl F c f i).1 = -1 then (if litF F c (f + i) then f + i else -1, if 4 ≤ c (f + i) then c (f + i) - 5 else (jl F c f i).2) else jl F c f i
/-- the other side's light -/
def js (F : Int) (c : Int → Int) (s f : Int) : Nat → Int
  | 0 => -1
  | i + 1 => if js F c s f i = -1 then (if cntF F c (f + 1 + i) (1 - s) then f + 1 + i else -1) else js F c s f i
theorem jl_stay {F : Int} {c : Int → Int} {f : Int} {i : Nat} (h : ¬ (jl F c f i).1 = -1) : ∀ m, jl F c f (i + m) = jl F c f i
  | 0 => rfl
  | m + 1 => by
    have e := jl_stay h m
    show (if (jl F c f (i + m)).1 = -1 then _ else jl F c f (i + m)) = _
    rw [e, if_neg h]
theorem js_stay {F : Int} {c : Int → Int} {s f : Int} {i : Nat} (h : ¬ js F c s f i = -1) : ∀ m, js F c s f (i + m) = js F c s f i
  | 0 => rfl
  | m + 1 => by
    have e := js_stay h m
    show (if js F c s f (i + m) = -1 then _ else js F c s f (i + m)) = _
    rw [e, if_neg h]
theorem jl_in {F : Int} {c : Int → Int} {f : Int} (hf : 0 ≤ f) (hc : ∀ i, 0 ≤ c i ∧ c i ≤ 6) : ∀ i : Nat, ((jl F c f i).1 = -1 ∨ (f ≤ (jl F c f i).1 ∧ (jl F c f i).1 < f + i ∧ litF F c (jl F c f i).1)) ∧ -1 ≤ (jl F c f i).2 ∧ (jl F c f i).2 ≤ 1
  | 0 => ⟨Or.inl rfl, by show (-1 : Int) ≤ -1 ∧ (-1 : Int) ≤ 1; omega⟩
  | i + 1 => by
    have ih := jl_in hf hc i (F := F)
    have hci := hc (f + i)
    unfold jl
    by_cases h1 : (jl F c f i).1 = -1
    · rw [if_pos h1]
      refine ⟨?_, ?_⟩
      · by_cases h2 : litF F c (f + i)
        · simp only [if_pos h2]; exact Or.inr ⟨by omega, by omega, h2⟩
        · simp only [if_neg h2]; exact Or.inl trivial
      · by_cases h3 : 4 ≤ c (f + i)
        · simp only [if_pos h3]; omega
        · simp only [if_neg h3]; exact ih.2
    · rw [if_neg h1]
      rcases ih.1 with h | ⟨h2, h3, h4⟩
      · exact absurd h h1
      · exact ⟨Or.inr ⟨h2, by omega, h4⟩, ih.2⟩
theorem js_in {F : Int} {c : Int → Int} {s f : Int} (hf : 0 ≤ f) : ∀ i : Nat, js F c s f i = -1 ∨ (f < js F c s f i ∧ js F c s f i < f + 1 + i ∧ cntF F c (js F c s f i) (1 - s))
  | 0 => Or.inl rfl
  | i + 1 => by
    have ih := js_in (F := F) (c := c) (s := s) hf i
    unfold js
    by_cases h1 : js F c s f i = -1
    · rw [if_pos h1]
      by_cases h2 : cntF F c (f + 1 + i) (1 - s)
      · simp only [if_pos h2]; exact Or.inr ⟨by omega, by omega, h2⟩
      · simp only [if_neg h2]; exact Or.inl trivial
    · rw [if_neg h1]
      rcases ih with h | ⟨h2, h3, h4⟩
      · exact absurd h h1
      · exact Or.inr ⟨h2, by omega, h4⟩
def jdF (F : Int) (cn bn c t : Int → Int) (ph : Int) : Int :=
  let fr := jl F c (8 * ph) (cn ph).toNat
  if fr.1 = -1 then 0 else
    let sd := c fr.1 / 2
    let s := js F c sd fr.1 (8 * ph + cn ph - fr.1 - 1).toNat
    let r := if bn ph = -2 then fr.2 else bn ph
    if s = -1 ∨ (if F = 0 then 40 else 300) < t s - t fr.1 then (if c fr.1 % 2 = 1 then sd + 1 else 0)
    else if F = 0 then 3 else if ¬ r = -1 ∧ c (if r = sd then fr.1 else s) % 2 = 1 then r + 1 else 0
def jd (τ : TS) (ph : Int) : Int := jdF (τ 0 0) (τ 12) (τ 14) (τ 15) (τ 16) ph
theorem shl_1 {s : Int} (h : s = 0 ∨ s = 1) : iI 1 <<< (iI s &&& 31) = iI (s + 1) := by rcases h with rfl | rfl <;> simp only [iI_d] <;> decide +kernel

def mand (a b : Int) : Int := ((a.toNat &&& b.toNat : Nat) : Int)
theorem mand_rg {a b : Int} : 0 ≤ mand a b ∧ mand a b ≤ b.toNat := by
  unfold mand
  have := Nat.and_le_right (n := a.toNat) (m := b.toNat)
  omega
theorem iI_and {a b : Int} (ha : 0 ≤ a ∧ a ≤ 3) (hb : 0 ≤ b ∧ b ≤ 3) : iI a &&& iI b = iI (mand a b) := by
  have h1 : a = 0 ∨ a = 1 ∨ a = 2 ∨ a = 3 := by omega
  have h2 : b = 0 ∨ b = 1 ∨ b = 2 ∨ b = 3 := by omega
  rcases h1 with rfl | rfl | rfl | rfl <;> rcases h2 with rfl | rfl | rfl | rfl <;> simp only [iI_d] <;> decide +kernel
theorem iI_shr1 {a : Int} (ha : 0 ≤ a ∧ a ≤ 3) : iI a >>> (iI 1 &&& 31) = iI (a / 2) := by
  have h1 : a = 0 ∨ a = 1 ∨ a = 2 ∨ a = 3 := by omega
  rcases h1 with rfl | rfl | rfl | rfl <;> simp only [iI_d] <;> decide +kernel
theorem jd_rg {τ : TS} (W : WF τ) {ph : Int} (hp : 0 ≤ ph) : 0 ≤ jd τ ph ∧ jd τ ph ≤ 3 := by
  have b1 := wf12 W ph
  have b2 := wf15 W
  have b3 := jl_in (F := τ 0 0) (c := τ 15) (f := 8 * ph) (by omega) b2 (τ 12 ph).toNat
  unfold jd jdF
  simp only []
  generalize jl (τ 0 0) (τ 15) (8 * ph) (τ 12 ph).toNat = fr at b3 ⊢
  have b5 := b2 fr.1
  have b11 := wf14 W ph
  by_cases h1 : fr.1 = -1
  · rw [if_pos h1]; omega
  · rw [if_neg h1]
    have hlt : τ 15 fr.1 ≤ 3 := by
      rcases b3.1 with q | ⟨_, _, q⟩
      · exact absurd q h1
      · rcases q with q | q <;> omega
    generalize hr : (if τ 14 ph = -2 then fr.2 else τ 14 ph) = r
    have hrr : -1 ≤ r ∧ r ≤ 1 := by
      rw [← hr]; split <;> omega
    split
    · split <;> omega
    · split
      · omega
      · split <;> omega
/-- a weapon strikes what its side has -/
abbrev stk (τ : TS) (w s : Int) : Prop := τ 3 w = 2 ∧ (¬ s < 66 ∨ ¬ τ 4 w = 0)
def tch (τ : TS) (s n : Int) : Int := mand (mand (jd τ (12 * s + n)) (if stk τ (τ 13 (2 * (12 * s + n))) s then 2 else 3)) (if stk τ (τ 13 (2 * (12 * s + n) + 1)) s then 1 else 3)
theorem tch_rg {τ : TS} (s n : Int) : 0 ≤ tch τ s n ∧ tch τ s n ≤ 3 := by
  have := mand_rg (a := mand (jd τ (12 * s + n)) (if stk τ (τ 13 (2 * (12 * s + n))) s then 2 else 3)) (b := if stk τ (τ 13 (2 * (12 * s + n) + 1)) s then 1 else 3)
  unfold tch
  refine ⟨this.1, Int.le_trans this.2 ?_⟩
  split <;> decide
/-- a score after a phrase; who has come to the goal -/
def tadd (g its : Int) (s : Int × Int × Int) : Int × Int := if its < 3 ∨ s.1 + 1 < g ∨ s.2.1 + 1 < g then (s.1 + mand its 1, s.2.1 + its / 2) else (s.1, s.2.1)
def twon (g a b : Int) : Int := if a = g then 0 else if b = g then 1 else -1
def tlF (g : Int) (T : Int → Int) : Nat → Int × Int × Int
  | 0 => (0, 0, -1)
  | k + 1 => if (tlF g T k).2.2 = -1 then ((tadd g (T k) (tlF g T k)).1, (tadd g (T k) (tlF g T k)).2, twon g (tadd g (T k) (tlF g T k)).1 (tadd g (T k) (tlF g T k)).2) else tlF g T k
theorem tlF_stay {g : Int} {T : Int → Int} {i : Nat} (h : ¬ (tlF g T i).2.2 = -1) : ∀ m, tlF g T (i + m) = tlF g T i
  | 0 => rfl
  | m + 1 => by
    have e := tlF_stay h m
    show (if (tlF g T (i + m)).2.2 = -1 then _ else tlF g T (i + m)) = _
    rw [e, if_neg h]
theorem mand1 {a : Int} : 0 ≤ mand a 1 ∧ mand a 1 ≤ 1 := mand_rg
theorem tlF_rg {g : Int} {T : Int → Int} (hT : ∀ i, 0 ≤ T i ∧ T i ≤ 3) : ∀ i : Nat, 0 ≤ (tlF g T i).1 ∧ (tlF g T i).1 ≤ i ∧ 0 ≤ (tlF g T i).2.1 ∧ (tlF g T i).2.1 ≤ i ∧ -1 ≤ (tlF g T i).2.2 ∧ (tlF g T i).2.2 ≤ 1
  | 0 => by show (0 : Int) ≤ 0 ∧ (0 : Int) ≤ 0 ∧ (0 : Int) ≤ 0 ∧ (0 : Int) ≤ 0 ∧ (-1 : Int) ≤ -1 ∧ (-1 : Int) ≤ 1; omega
  | i + 1 => by
    have ih := tlF_rg hT i (g := g)
    have h1 := hT i
    have h2 := mand1 (a := T i)
    unfold tlF
    generalize tlF g T i = s at ih ⊢
    split
    · have h3 : 0 ≤ (tadd g (T i) s).1 ∧ (tadd g (T i) s).1 ≤ i + 1 ∧ 0 ≤ (tadd g (T i) s).2 ∧ (tadd g (T i) s).2 ≤ i + 1 := by
        unfold tadd
        split
        · show 0 ≤ s.1 + mand (T i) 1 ∧ s.1 + mand (T i) 1 ≤ i + 1 ∧ 0 ≤ s.2.1 + T i / 2 ∧ s.2.1 + T i / 2 ≤ i + 1; omega
        · show 0 ≤ s.1 ∧ s.1 ≤ i + 1 ∧ 0 ≤ s.2.1 ∧ s.2.1 ≤ i + 1; omega
      have h4 : -1 ≤ twon g (tadd g (T i) s).1 (tadd g (T i) s).2 ∧ twon g (tadd g (T i) s).1 (tadd g (T i) s).2 ≤ 1 := by
        unfold twon
        split
        · omega
        · split <;> omega
      push_cast
      omega
    · push_cast
      omega
def gl3 (s : Int) : Int := if s < 66 then 3 else 5
/-- the score of a bout, and who has won -/
def te (τ : TS) (s : Int) : Int × Int × Int :=
  let z := tlF (gl3 s) (tch τ s) (τ 10 s).toNat
  (z.1, z.2.1, if z.2.2 = -1 ∧ τ 10 s = 12 then (if z.1 < z.2.1 then 1 else 0) else z.2.2)
def t3 (τ : TS) (z : Int × Int × Int) : TS := ts (ts (ts τ 25 0 z.1) 26 0 z.2.1) 27 0 z.2.2
theorem upZ_upZ {g : Int → Int} {e x y : Int} : upZ (upZ g e x) e y = upZ g e y := by
  funext z
  unfold upZ
  by_cases h : z = e
  · rw [if_pos h, if_pos h]
  · rw [if_neg h, if_neg h, if_neg h]
theorem ts_ts {τ : TS} {k : Nat} {i x y : Int} : ts (ts τ k i x) k i y = ts τ k i y := by
  funext k'
  by_cases h : k' = k
  · subst h; rw [ts_s, ts_s, ts_s, upZ_upZ]
  · rw [ts_n h, ts_n h, ts_n h]
theorem ts_cm {τ : TS} {k j : Nat} {i i' x y : Int} (h : k ≠ j) : ts (ts τ k i x) j i' y = ts (ts τ j i' y) k i x := by
  funext k'
  by_cases h1 : k' = k
  · subst h1; rw [ts_n h, ts_s, ts_s, ts_n h]
  · by_cases h2 : k' = j
    · subst h2; rw [ts_s, ts_n h1, ts_n h1, ts_s]
    · rw [ts_n h2, ts_n h1, ts_n h1, ts_n h2]
theorem t3_25 {τ : TS} {a b w x : Int} : ts (t3 τ (a, b, w)) 25 0 x = t3 τ (x, b, w) := by
  unfold t3
  rw [ts_cm (k := 27) (j := 25) (by decide), ts_cm (k := 26) (j := 25) (by decide), ts_ts]
theorem t3_26 {τ : TS} {a b w x : Int} : ts (t3 τ (a, b, w)) 26 0 x = t3 τ (a, x, w) := by
  unfold t3
  rw [ts_cm (k := 27) (j := 26) (by decide), ts_ts]
theorem t3_27 {τ : TS} {a b w x : Int} : ts (t3 τ (a, b, w)) 27 0 x = t3 τ (a, b, x) := by
  unfold t3
  rw [ts_ts]
theorem t3_at25 {τ : TS} {z : Int × Int × Int} : t3 τ z 25 0 = z.1 := rfl
theorem t3_at26 {τ : TS} {z : Int × Int × Int} : t3 τ z 26 0 = z.2.1 := rfl
theorem t3_at27 {τ : TS} {z : Int × Int × Int} : t3 τ z 27 0 = z.2.2 := rfl
theorem WF_t3 {τ : TS} (W : WF τ) {z : Int × Int × Int} (h : 0 ≤ z.1 ∧ z.1 ≤ 12 ∧ 0 ≤ z.2.1 ∧ z.2.1 ≤ 12 ∧ -1 ≤ z.2.2 ∧ z.2.2 ≤ 1) : WF (t3 τ z) := WF_ts (WF_ts (WF_ts W ⟨h.1, h.2.1⟩) ⟨h.2.2.1, h.2.2.2.1⟩) ⟨h.2.2.2.2.1, h.2.2.2.2.2⟩
theorem tch_t3 {τ : TS} {z : Int × Int × Int} : tch (t3 τ z) = tch τ := rfl
theorem te_t3 {τ : TS} {z : Int × Int × Int} : te (t3 τ z) = te τ := rfl
