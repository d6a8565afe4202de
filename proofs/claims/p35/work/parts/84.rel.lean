/-! THE LAW'S NUMBERS AND THE HALL: the law's rows σ, its longs π and the ghost τ tied -/
def slb (b : Int) : Int := if b < 6 then b else 61 + b
theorem slo_num {b : Int} (hb : 0 ≤ b ∧ b ≤ 8) : slo (num b) = slb b := by
  unfold slo num slb
  split
  · rw [if_neg (by omega)]
  · rw [if_pos (by omega)]; omega
theorem slb_rg {b : Int} (hb : 0 ≤ b ∧ b ≤ 8) : 0 ≤ slb b ∧ slb b < 82 := by unfold slb; split <;> omega
theorem slb_inj {b b' : Int} (hb : 0 ≤ b ∧ b ≤ 8) (hb' : 0 ≤ b' ∧ b' ≤ 8) (e : slb b = slb b') : b = b' := by unfold slb at e; split at e <;> split at e <;> omega
theorem gl3_slb {b : Int} (hb : 0 ≤ b ∧ b ≤ 8) : gl3 (slb b) = lgl b := by
  unfold gl3 slb lgl
  split
  · rw [if_pos (by omega)]
  · rw [if_neg (by omega)]
theorem slb_6 {b : Int} : slb b < 66 ↔ b < 6 := by unfold slb; split <;> omega
def lbd : Nat → Int × Int := fun k => match k with
  | 30 => (0, 3)
  | 32 => (0, 12)
  | 33 => (0, 2)
  | 34 => (0, 6)
  | 35 => (0, 1000000)
  | 36 => (-1, 3)
  | _ => (0, 0)
/-- bounds of the law's rows -/
def WL (σ : TS) : Prop := ∀ (k : Nat) (z : Int), (k = 30 ∨ k = 32 ∨ k = 33 ∨ k = 34 ∨ k = 35 ∨ k = 36) → (lbd k).1 ≤ σ k z ∧ σ k z ≤ (lbd k).2
theorem wl30 {σ : TS} (W : WL σ) : ∀ z, 0 ≤ σ 30 z ∧ σ 30 z ≤ 3 := fun z => W 30 z (by decide)
theorem wl32 {σ : TS} (W : WL σ) : ∀ z, 0 ≤ σ 32 z ∧ σ 32 z ≤ 12 := fun z => W 32 z (by decide)
theorem wl33 {σ : TS} (W : WL σ) : ∀ z, 0 ≤ σ 33 z ∧ σ 33 z ≤ 2 := fun z => W 33 z (by decide)
theorem wl34 {σ : TS} (W : WL σ) : ∀ z, 0 ≤ σ 34 z ∧ σ 34 z ≤ 6 := fun z => W 34 z (by decide)
theorem wl35 {σ : TS} (W : WL σ) : ∀ z, 0 ≤ σ 35 z ∧ σ 35 z ≤ 1000000 := fun z => W 35 z (by decide)
theorem wl36 {σ : TS} (W : WL σ) : ∀ z, -1 ≤ σ 36 z ∧ σ 36 z ≤ 3 := fun z => W 36 z (by decide)
theorem WL_ts {σ : TS} (W : WL σ) {k : Nat} {i x : Int} (h : k = 37 ∨ ((lbd k).1 ≤ x ∧ x ≤ (lbd k).2)) : WL (ts σ k i x) := by
  intro k' z hk
  by_cases e : k' = k
  · subst e
    rcases h with h | h
    · omega
    · rw [ts_s]
      unfold upZ
      split
      · exact h
      · exact W k' z hk
  · rw [ts_n e]
    exact W k' z hk
/-- the law's numbers -/
def LM (σ : TS) : Prop := (0 ≤ σ 37 0 ∧ σ 37 0 ≤ 16) ∧ (-1 ≤ σ 37 1 ∧ σ 37 1 ≤ 8) ∧ (0 ≤ σ 37 2 ∧ σ 37 2 ≤ 15) ∧ (0 ≤ σ 37 3 ∧ σ 37 3 ≤ 15) ∧ σ 37 4 = 0 ∧ (0 ≤ σ 37 6 ∧ σ 37 6 ≤ 1) ∧ (σ 37 7 = 0 ∨ σ 37 7 = 4) ∧ (0 ≤ σ 37 9 ∧ σ 37 9 ≤ 1)
/-- a phrase judged by the right r -/
def jr (τ : TS) (ph r : Int) : Int := jdF (τ 0 0) (τ 12) (fun _ => r) (τ 15) (τ 16) ph
theorem jd_jr {τ : TS} {ph r : Int} (h : τ 14 ph = r) : jd τ ph = jr τ ph r := by
  unfold jd jr jdF
  rw [h]
/-- the sixteen bits of a phrase -/
def PB (π : Int → Int64) (τ : TS) (n b j : Int) : Prop := (lb π b j 0 4 = τ 13 (2 * (12 * slb b + j)) ∧ lb π b j 4 4 = τ 13 (2 * (12 * slb b + j) + 1)) ∧ (τ 13 (2 * (12 * slb b + j)) < n ∧ τ 13 (2 * (12 * slb b + j) + 1) < n) ∧
  (lb π b j 8 2 = jr τ (12 * slb b + j) (-1) ∧ lb π b j 10 2 = jr τ (12 * slb b + j) 0 ∧ lb π b j 12 2 = jr τ (12 * slb b + j) 1) ∧ lt0 π b j = jd τ (12 * slb b + j)
def LA (σ τ : TS) : Prop := (τ 0 0 = σ 37 9 ∧ τ 1 0 = 4 ∧ τ 5 0 = σ 37 0 ∧ τ 8 0 = 1 ∧ τ 9 0 = 6) ∧ τ 19 0 = 0 ∧ τ 21 0 = σ 37 7 ∧ τ 24 0 = σ 37 8
def LPo (τ : TS) : Prop := ∀ (x : Int → Int) (b : Int), 0 ≤ b → b < 6 → lfen x b 0 = τ 6 b ∧ lfen x b 1 = τ 7 b
def LX (σ τ : TS) : Prop := ∀ i, 0 ≤ i → i < σ 37 0 → τ 2 i = σ 30 (2 * i) ∧ 1 ≤ σ 30 (2 * i + 1) ∧ τ 3 i = (if σ 30 (2 * i + 1) = 3 then 2 else σ 30 (2 * i + 1)) ∧ (¬ τ 4 i = 0 ↔ σ 30 (2 * i + 1) = 3)
def LG (σ τ : TS) : Prop := (σ 37 1 = -1 → τ 17 0 = -1) ∧ (0 ≤ σ 37 1 → (τ 17 0 = num (σ 37 1) ∧ τ 18 0 = σ 37 2 ∧ τ 18 1 = σ 37 3 ∧ τ 20 0 = σ 37 6) ∧ σ 37 2 < σ 37 0 ∧ σ 37 3 < σ 37 0 ∧ (5 < σ 37 1 → σ 37 7 = 4))
def LE (σ τ : TS) : Prop := ∀ b, 0 ≤ b → b ≤ 8 → τ 10 (slb b) = σ 32 b ∧ τ 11 (2 * slb b) = σ 33 (2 * b) ∧ τ 11 (2 * slb b + 1) = σ 33 (2 * b + 1)
def LN (σ τ : TS) : Prop := (σ 37 7 = 4 → (∀ k, 1 ≤ k → k ≤ 7 → τ 22 k = σ 36 k) ∧ ∀ k, 4 ≤ k → k ≤ 7 → 0 ≤ σ 36 k) ∧ (σ 37 7 = 0 → (∀ z, σ 36 z = -1) ∧ ∀ b, 6 ≤ b → b ≤ 8 → σ 32 b = 0)
def LB (σ : TS) (π : Int → Int64) (τ : TS) : Prop := ∀ b j, 0 ≤ b → b ≤ 8 → 0 ≤ j → j < σ 32 b → PB π τ (σ 37 0) b j
/-- the law's rows tell what the hall holds -/
def LW (σ : TS) (π : Int → Int64) (τ : TS) : Prop := LA σ τ ∧ LPo τ ∧ LX σ τ ∧ LG σ τ ∧ LE σ τ ∧ LN σ τ ∧ LB σ π τ
theorem jr_SQ {u t : TS} (e : SQ u t) : jr u = jr t := by
  funext a b
  unfold jr
  rw [e 0 (by decide), e 12 (by decide), e 15 (by decide), e 16 (by decide)]
theorem jd_SQ {u t : TS} (e : SQ u t) : jd u = jd t := by
  funext a
  unfold jd
  rw [e 0 (by decide), e 12 (by decide), e 14 (by decide), e 15 (by decide), e 16 (by decide)]
theorem LW_SQ {σ : TS} {π : Int → Int64} {u t : TS} (e : SQ u t) (L : LW σ π t) : LW σ π u := by
  obtain ⟨a, p, x, g, q, n, b⟩ := L
  refine ⟨?_, ?_, ?_, ?_, ?_, ?_, ?_⟩
  · unfold LA at *
    rw [e 0 (by decide), e 1 (by decide), e 5 (by decide), e 8 (by decide), e 9 (by decide), e 19 (by decide), e 21 (by decide), e 24 (by decide)]
    exact a
  · unfold LPo at *
    rw [e 6 (by decide), e 7 (by decide)]
    exact p
  · unfold LX at *
    rw [e 2 (by decide), e 3 (by decide), e 4 (by decide)]
    exact x
  · unfold LG at *
    rw [e 17 (by decide), e 18 (by decide), e 20 (by decide)]
    exact g
  · unfold LE at *
    rw [e 10 (by decide), e 11 (by decide)]
    exact q
  · unfold LN at *
    rw [e 22 (by decide)]
    exact n
  · unfold LB PB at *
    rw [e 13 (by decide), jr_SQ e, jd_SQ e]
    exact b
/-- a weapon strikes -/
theorem lst_stk {σ τ : TS} (x : LX σ τ) {i b : Int} (h0 : 0 ≤ i) (h1 : i < σ 37 0) : lst (σ 30) i b ↔ stk τ i (slb b) := by
  obtain ⟨-, x2, x3, x4⟩ := x i h0 h1
  have hs := slb_6 (b := b)
  unfold lst stk
  constructor
  · rintro (z | ⟨z1, z2⟩)
    · exact ⟨by rw [x3, if_pos z], Or.inr (x4.mpr z)⟩
    · exact ⟨by rw [x3, if_neg (by omega)]; exact z2, Or.inl (by omega)⟩
  · rintro ⟨z1, z2⟩
    by_cases q : σ 30 (2 * i + 1) = 3
    · exact Or.inl q
    · rw [x3, if_neg q] at z1
      rcases z2 with z2 | z2
      · exact Or.inr ⟨by omega, z1⟩
      · exact absurd (x4.mp z2) q
theorem ltch_tch {σ : TS} {π : Int → Int64} {τ : TS} (L : LW σ π τ) (W : WF τ) {b j : Int} (hb0 : 0 ≤ b) (hb1 : b ≤ 8) (hj0 : 0 ≤ j) (hj1 : j < σ 32 b) : ltch (σ 30) π b j = tch τ (slb b) j := by
  obtain ⟨a, p, x, g, q, n, B⟩ := L
  obtain ⟨⟨p1, p2⟩, ⟨p3, p4⟩, -, p5⟩ := B b j hb0 hb1 hj0 hj1
  have k1 := lst_stk x (b := b) (wf13 W (2 * (12 * slb b + j))).1 p3
  have k2 := lst_stk x (b := b) (wf13 W (2 * (12 * slb b + j) + 1)).1 p4
  have jg := jd_rg W (ph := 12 * slb b + j) (by have := slb_rg ⟨hb0, hb1⟩; omega)
  unfold ltch lt1 tch
  rw [p1, p2, p5]
  generalize jd τ (12 * slb b + j) = J at jg ⊢
  by_cases c1 : stk τ (τ 13 (2 * (12 * slb b + j))) (slb b)
  · rw [if_pos (k1.mpr c1), if_pos c1]
    by_cases c2 : stk τ (τ 13 (2 * (12 * slb b + j) + 1)) (slb b)
    · rw [if_pos (k2.mpr c2), if_pos c2]
    · rw [if_neg (fun z => c2 (k2.mp z)), if_neg c2, mand_3]
      have h2 := mand_rg (a := J) (b := 2)
      have e : ((2 : Int).toNat : Int) = 2 := rfl
      omega
  · rw [if_neg (fun z => c1 (k1.mp z)), if_neg c1, mand_3 jg]
    by_cases c2 : stk τ (τ 13 (2 * (12 * slb b + j) + 1)) (slb b)
    · rw [if_pos (k2.mpr c2), if_pos c2]
    · rw [if_neg (fun z => c2 (k2.mp z)), if_neg c2, mand_3 jg]
theorem tlF_cg {g : Int} {T U : Int → Int} : ∀ n : Nat, (∀ i : Nat, i < n → T i = U i) → tlF g T n = tlF g U n
  | 0, _ => rfl
  | n + 1, h => by
    have ih := tlF_cg n (fun i hi => h i (by omega)) (g := g)
    unfold tlF
    rw [ih, h n (by omega)]
theorem lte_te {σ : TS} {π : Int → Int64} {τ : TS} (L : LW σ π τ) (W : WF τ) {b : Int} (hb0 : 0 ≤ b) (hb1 : b ≤ 8) : lte (σ 30) π (σ 32) b = te τ (slb b) := by
  have q := (L.2.2.2.2.1 b hb0 hb1).1
  unfold lte te
  rw [gl3_slb ⟨hb0, hb1⟩, q, tlF_cg (T := ltch (σ 30) π b) (U := tch τ (slb b)) _ (fun i hi => ltch_tch L W hb0 hb1 (by omega) (by omega))]
theorem lfen_p {σ : TS} {π : Int → Int64} {τ : TS} (L : LW σ π τ) {b s : Int} (hb0 : 0 ≤ b) (hb1 : b ≤ 8) (hs : s = 0 ∨ s = 1) (h7 : 5 < b → σ 37 7 = 4) : fa τ (num b) s = lfen (σ 36) b s := by
  obtain ⟨a, p, x, g, q, n, B⟩ := L
  by_cases h : b < 6
  · have e : num b = b := if_pos h
    rw [e]
    unfold fa
    rw [if_neg (by omega)]
    obtain ⟨p1, p2⟩ := p (σ 36) b hb0 h
    rcases hs with rfl | rfl
    · rw [if_pos rfl, p1]
    · rw [if_neg (by decide), p2]
  · have e : num b = 95 + b := if_neg h
    rw [e]
    unfold fa lfen
    rw [if_pos (by omega), if_pos (by omega)]
    have := (n.1 (h7 (by omega))).1 (2 * (b - 5) + s) (by omega) (by omega)
    rw [show 2 * (95 + b - 100) + s = 2 * (b - 5) + s by omega]
    exact this
/-- the answers of the class and the law's numbers -/
theorem lwin_wo {σ : TS} {π : Int → Int64} {τ : TS} (L : LW σ π τ) (W : WF τ) {b : Int} (hb0 : 0 ≤ b) (hb1 : b < 6) : wo τ (num b) = lwin (σ 30) π (σ 32) (σ 36) b := by
  have e : num b = b := if_pos hb1
  have h1 := lte_te L W hb0 (by omega)
  have e2 : slb b = b := if_pos hb1
  rw [e2] at h1
  have r := te_rg W b
  unfold lwin
  rw [h1]
  have hf := fun s hs => lfen_p L (b := b) (s := s) hb0 (by omega) hs (fun h => by omega)
  rw [e] at hf ⊢
  unfold wo
  rw [if_neg (by omega)]
  by_cases q : (te τ b).2.2 = -1
  · rw [if_pos q, if_pos q]
  · rw [if_neg q, if_neg q]
    exact hf _ (by omega)
theorem wo_x {σ : TS} {π : Int → Int64} {τ : TS} (L : LW σ π τ) {b : Int} (hb0 : 5 < b) (hb1 : b ≤ 8) (h7 : σ 37 7 = 4) : wo τ (num b) = σ 36 (b - 5) := by
  have e : num b = 95 + b := if_neg (by omega)
  rw [e]
  unfold wo
  rw [if_pos (by omega), show 95 + b - 100 = b - 5 by omega]
  exact (L.2.2.2.2.2.1.1 h7).1 (b - 5) (by omega) (by omega)
/-- a bout is there, for the class -/
abbrev VBo (τ : TS) (b : Int) : Prop := (0 ≤ b ∧ b ≤ τ 9 0 - 1) ∨ (0 < τ 21 0 ∧ 101 ≤ b ∧ b ≤ 99 + τ 21 0)
theorem vbo {σ : TS} {τ : TS} (a : LA σ τ) {b : Int} (hb0 : 0 ≤ b) (hb1 : b ≤ 8) (h7 : 5 < b → σ 37 7 = 4) : VBo τ (num b) := by
  obtain ⟨⟨a1, a2, a3, a4, a5⟩, a6, a7, a8⟩ := a
  unfold VBo num
  rw [a5, a7]
  split
  · exact Or.inl ⟨by omega, by omega⟩
  · have := h7 (by omega)
    exact Or.inr ⟨by omega, by omega, by omega⟩
theorem num_rg {b : Int} (hb : 0 ≤ b ∧ b ≤ 8) : 0 ≤ num b ∧ num b ≤ 103 := by unfold num; split <;> omega
/-- open, by the class's words and by the law's -/
theorem open_i {σ : TS} {π : Int → Int64} {ρ τ : TS} {c : Int} (L : LW σ π τ) (M : LM σ) (R : RR ρ τ c) {b : Int} (hb0 : 0 ≤ b) (hb1 : b ≤ 8) (h7 : 5 < b → σ 37 7 = 4) (hf0 : 0 ≤ lfen (σ 36) b 0) (hf1 : 0 ≤ lfen (σ 36) b 1) : wo τ (num b) = -1 ↔ ltold (σ 30) π (σ 32) b < 100 := by
  have W := R.1
  have h1 := lte_te L W hb0 hb1
  have lr := lte_rg (w := σ 30) (π := π) (e := σ 32) (b := b)
  have ht : ltold (σ 30) π (σ 32) b < 100 ↔ (te τ (slb b)).2.2 = -1 := by
    rw [← h1]
    unfold ltold
    omega
  rw [ht]
  by_cases h : b < 6
  · rw [lwin_wo L W hb0 h]
    unfold lwin
    rw [h1]
    have r := te_rg W (slb b)
    have hq : (te τ (slb b)).2.2 = -1 ∨ (te τ (slb b)).2.2 = 0 ∨ (te τ (slb b)).2.2 = 1 := by omega
    rcases hq with q | q | q
    · rw [q]; exact ⟨fun _ => rfl, fun _ => if_pos rfl⟩
    · rw [q, if_neg (by decide)]; exact ⟨fun z => by omega, fun z => by omega⟩
    · rw [q, if_neg (by decide)]; exact ⟨fun z => by omega, fun z => by omega⟩
  · have h4 := h7 (by omega)
    have e : num b = 95 + b := if_neg h
    have es : slb b = 66 + (b - 5) := by unfold slb; rw [if_neg h]; omega
    have a7 := L.1.2.2.1
    have hs := (R.2.2.2.1.2.2.2.2.1 (b - 5) (by omega) (by omega)).2
    have hx0 := (L.2.2.2.2.2.1.1 h4).1 (2 * (b - 5)) (by omega) (by omega)
    have hx1 := (L.2.2.2.2.2.1.1 h4).1 (2 * (b - 5) + 1) (by omega) (by omega)
    unfold lfen at hf0 hf1
    rw [if_pos (by omega)] at hf0 hf1
    rw [Int.add_zero] at hf0
    rw [e]
    unfold wo
    rw [if_pos (by omega), show 95 + b - 100 = b - 5 by omega, hs, es]
    unfold fwin fnow
    rw [if_pos (by omega)]
    have r := te_rg W (66 + (b - 5))
    have hq : (te τ (66 + (b - 5))).2.2 = -1 ∨ (te τ (66 + (b - 5))).2.2 = 0 ∨ (te τ (66 + (b - 5))).2.2 = 1 := by omega
    rcases hq with q | q | q
    · rw [q, if_pos rfl]
    · rw [q, if_neg (by decide), if_pos rfl]; exact ⟨fun z => by omega, fun z => by omega⟩
    · rw [q, if_neg (by decide), if_neg (by decide)]; exact ⟨fun z => by omega, fun z => by omega⟩
