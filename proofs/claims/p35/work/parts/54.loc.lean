/-! WHAT THE CHANGE OF ONE PHRASE LEAVES ALONE -/
theorem jl_loc {F : Int} {c c' : Int → Int} {f : Int} : ∀ i : Nat, (∀ e : Int, f ≤ e → e < f + i → c' e = c e) → jl F c' f i = jl F c f i
  | 0, _ => rfl
  | i + 1, h => by
    have e := jl_loc (F := F) i (fun z a b => h z a (by omega))
    have e2 := h (f + i) (by omega) (by omega)
    unfold jl
    unfold litF cntF
    rw [e, e2]
theorem js_loc {F : Int} {c c' : Int → Int} {s f : Int} : ∀ i : Nat, (∀ e : Int, f < e → e < f + 1 + i → c' e = c e) → js F c' s f i = js F c s f i
  | 0, _ => rfl
  | i + 1, h => by
    have e := js_loc (F := F) (s := s) i (fun z a b => h z a (by omega))
    have e2 := h (f + 1 + i) (by omega) (by omega)
    unfold js
    unfold cntF
    rw [e, e2]
theorem tlF_loc {g : Int} {T T' : Int → Int} : ∀ i : Nat, (∀ e : Int, 0 ≤ e → e < i → T' e = T e) → tlF g T' i = tlF g T i
  | 0, _ => rfl
  | i + 1, h => by
    have e := tlF_loc (g := g) i (fun z a b => h z a (by omega))
    have e2 := h i (by omega) (by omega)
    unfold tlF
    rw [e, e2]
/-- the reference's states differ at the phrase f0 alone -/
def EQP (τ' τ : TS) (f0 : Int) : Prop := τ' 0 = τ 0 ∧ τ' 3 = τ 3 ∧ τ' 4 = τ 4 ∧ (∀ f, ¬ f = f0 → τ' 12 f = τ 12 f ∧ τ' 14 f = τ 14 f) ∧ (∀ z, (z < 2 * f0 ∨ 2 * f0 + 1 < z) → τ' 13 z = τ 13 z) ∧ ∀ z, (z < 8 * f0 ∨ 8 * f0 + 7 < z) → τ' 15 z = τ 15 z ∧ τ' 16 z = τ 16 z
theorem jd_E {τ' τ : TS} {f0 f : Int} (E : EQP τ' τ f0) (W : WF τ) (hf : 0 ≤ f) (h : ¬ f = f0) : jd τ' f = jd τ f := by
  obtain ⟨e0, e3, e4, e12, e13, e15⟩ := E
  obtain ⟨a1, a2⟩ := e12 f h
  have b12 := wf12 W f
  have hc : ∀ e : Int, 8 * f ≤ e → e < 8 * f + 8 → τ' 15 e = τ 15 e ∧ τ' 16 e = τ 16 e := fun e q1 q2 => e15 e (by omega)
  have e5 : jl (τ 0 0) (τ' 15) (8 * f) (τ 12 f).toNat = jl (τ 0 0) (τ 15) (8 * f) (τ 12 f).toNat := jl_loc _ (fun e q1 q2 => (hc e q1 (by omega)).1)
  have hin := (jl_in (F := τ 0 0) (c := τ 15) (f := 8 * f) (by omega) (wf15 W) (τ 12 f).toNat).1
  unfold jd jdF
  rw [e0, a1, a2]
  dsimp only
  rw [e5]
  by_cases q : (jl (τ 0 0) (τ 15) (8 * f) (τ 12 f).toNat).1 = -1
  · rw [if_pos q, if_pos q]
  · rw [if_neg q, if_neg q]
    generalize hz : (jl (τ 0 0) (τ 15) (8 * f) (τ 12 f).toNat).1 = z at hin q
    obtain ⟨h1, h2, h3⟩ := hin.resolve_left q
    obtain ⟨c1, c2⟩ := hc z (by omega) (by omega)
    rw [c1, c2]
    have e6 : js (τ 0 0) (τ' 15) (τ 15 z / 2) z (8 * f + τ 12 f - z - 1).toNat = js (τ 0 0) (τ 15) (τ 15 z / 2) z (8 * f + τ 12 f - z - 1).toNat := js_loc _ (fun e q1 q2 => (hc e (by omega) (by omega)).1)
    rw [e6]
    have hjn := js_in (F := τ 0 0) (c := τ 15) (s := τ 15 z / 2) (f := z) (by omega) (8 * f + τ 12 f - z - 1).toNat
    generalize js (τ 0 0) (τ 15) (τ 15 z / 2) z (8 * f + τ 12 f - z - 1).toNat = y at hjn
    by_cases q2 : y = -1
    · rw [if_pos (Or.inl q2), if_pos (Or.inl q2)]
    · obtain ⟨k1, k2, k3⟩ := hjn.resolve_left q2
      obtain ⟨d1, d2⟩ := hc y (by omega) (by omega)
      rw [d2]
      generalize (if τ 14 f = -2 then (jl (τ 0 0) (τ 15) (8 * f) (τ 12 f).toNat).2 else τ 14 f) = r
      by_cases q3 : r = τ 15 z / 2
      · rw [if_pos q3, c1]
      · rw [if_neg q3, d1]
theorem tch_E {τ' τ : TS} {f0 s n : Int} (E : EQP τ' τ f0) (W : WF τ) (hf : 0 ≤ 12 * s + n) (h : ¬ 12 * s + n = f0) : tch τ' s n = tch τ s n := by
  have e := jd_E E W hf h
  obtain ⟨e0, e3, e4, e12, e13, e15⟩ := E
  unfold tch stk
  rw [e, e3, e4, e13 _ (by omega), e13 _ (by omega)]
theorem te_E {τ' τ : TS} {f0 s : Int} (E : EQP τ' τ f0) (W : WF τ) (hs : 0 ≤ s) (h10 : τ' 10 s = τ 10 s) (h : ∀ j, 0 ≤ j → j < τ 10 s → ¬ 12 * s + j = f0) : te τ' s = te τ s := by
  have b10 := wf10 W s
  unfold te
  rw [h10, tlF_loc (g := gl3 s) (T := tch τ s) (T' := tch τ' s) (τ 10 s).toNat (fun e a b => tch_E E W (by omega) (h e a (by omega)))]
/-- the class's states differ at the phrase p alone -/
def EQR (ρ' ρ : TS) (p : Int) : Prop := ρ 47 1 ≤ ρ' 47 1 ∧ ρ 47 2 ≤ ρ' 47 2 ∧ (∀ q, ¬ q = p → ρ' 27 q = ρ 27 q ∧ ρ' 28 q = ρ 28 q ∧ ρ' 29 q = ρ 29 q ∧ ρ' 33 q = ρ 33 q ∧ ρ' 34 q = ρ 34 q ∧ ρ' 35 q = ρ 35 q ∧ ρ' 36 q = ρ 36 q ∧ ρ' 49 q = ρ 49 q) ∧ ∀ z, (z < 8 * p ∨ 8 * p + 7 < z) → ρ' 30 z = ρ 30 z ∧ ρ' 31 z = ρ 31 z ∧ ρ' 32 z = ρ 32 z
theorem PH_E {ρ' ρ τ' τ : TS} {p f0 q f : Int} (E : EQP τ' τ f0) (D : EQR ρ' ρ p) (W : WF τ) (hp : ¬ q = p) (hf : ¬ f = f0) (P : PH ρ τ q f) : PH ρ' τ' q f := by
  obtain ⟨e0, e3, e4, e12, e13, e15⟩ := E
  obtain ⟨d1, d2, d3, d4⟩ := D
  obtain ⟨a1, a2⟩ := e12 f hf
  obtain ⟨b1, b2, b3, b4, b5, b6, b7, b8⟩ := d3 q hp
  obtain ⟨h1, h2, h3, h4, h5, h6, h7, h8, h9⟩ := P
  have w12 := wf12 W f
  have hc : ∀ e, 0 ≤ e → e < τ 12 f → τ' 15 (8 * f + e) = τ 15 (8 * f + e) ∧ τ' 16 (8 * f + e) = τ 16 (8 * f + e) := fun e q1 q2 => e15 _ (by omega)
  have hd : ∀ e, 0 ≤ e → e < τ 12 f → ρ' 30 (8 * q + e) = ρ 30 (8 * q + e) ∧ ρ' 31 (8 * q + e) = ρ 31 (8 * q + e) ∧ ρ' 32 (8 * q + e) = ρ 32 (8 * q + e) := fun e q1 q2 => d4 _ (by omega)
  refine ⟨⟨h1.1, by omega⟩, ?_, ?_, ?_, ?_, ?_, ?_, fun e q1 q2 => ?_, fun e e' q1 q2 q3 => ?_⟩
  · rw [b1, b8, e0]; exact h2
  · rw [b2, e13 _ (by omega)]; exact ⟨h3.1, by omega⟩
  · rw [b3, e13 _ (by omega)]; exact ⟨h4.1, by omega⟩
  · rw [b4, a1]; exact h5
  · rw [b5, a2]; exact h6
  · rw [b6, a2]; exact h7
  · rw [a1] at q2
    obtain ⟨x1, x2, x3⟩ := hd e q1 q2
    obtain ⟨y1, y2⟩ := hc e q1 q2
    rw [x1, x2, x3, y1, y2]
    exact h8 e q1 q2
  · rw [a1] at q3
    rw [(hc e q1 (by omega)).2, (hc e' (by omega) q3).2]
    exact h9 e e' q1 q2 q3
theorem BB_E {ρ' ρ τ' τ : TS} {p f0 b : Int} (E : EQP τ' τ f0) (D : EQR ρ' ρ p) (W : WF τ) (hr : ∀ k, (k = 17 ∨ (20 ≤ k ∧ k ≤ 26) ∨ k = 48) → ρ' k = ρ k) (h10 : τ' 10 = τ 10) (h11 : τ' 11 = τ 11) (hd : ∀ j, 0 ≤ j → j < τ 10 b → ¬ 12 * b + j = f0 ∧ ¬ ρ 23 (12 * b + j) = p) (B : BB ρ τ b) : BB ρ' τ' b := by
  obtain ⟨⟨g1, g2, g3, g4, g5, g6⟩, ⟨t1, t2⟩, t3, t4⟩ := B
  have et := te_E E W g1.1 (congrFun h10 b) (fun j a c => (hd j a c).1)
  unfold BB BR TL
  rw [hr 48 (by decide), hr 17 (by decide), hr 24 (by decide), hr 20 (by decide), hr 23 (by decide), hr 25 (by decide), hr 26 (by decide), hr 21 (by decide), hr 22 (by decide), h10, h11, et]
  refine ⟨⟨g1, g2, g3, g4, g5, fun j a c => ?_⟩, ⟨t1, t2⟩, t3, t4⟩
  obtain ⟨q1, q2⟩ := hd j a c
  obtain ⟨r1, r2⟩ := g6 j a c
  refine ⟨PH_E E D W q2 q1 r1, ?_⟩
  rw [(D.2.2.1 _ q2).2.2.2.2.2.2.1, jd_E E W (by omega) q1]
  exact r2
/-- nodes and bouts, when just one phrase, that isn't kept, changes -/
theorem SN_E {ρ' ρ τ' τ : TS} {p f0 : Int} (S : SN ρ τ) (E : EQP τ' τ f0) (D : EQR ρ' ρ p) (W : WF τ) (hr : ∀ k, ((17 ≤ k ∧ k < 27) ∨ k = 7 ∨ (43 ≤ k ∧ k ≤ 46) ∨ k = 48) → ρ' k = ρ k) (ht : ∀ k, ((9 ≤ k ∧ k ≤ 11) ∨ k = 17 ∨ k = 21 ∨ k = 22 ∨ k = 24) → τ' k = τ k)
    (hd : ∀ b, LVb τ b → ∀ j, 0 ≤ j → j < τ 10 b → ¬ 12 * b + j = f0 ∧ ¬ ρ 23 (12 * b + j) = p) (s13 : WR ρ' τ') : SN ρ' τ' := by
  obtain ⟨s3, s4, s5, s6, s7, s8, s9, s10, s11, -⟩ := S
  have w21 := wf21 W 0
  have e9 := ht 9 (by decide)
  have e10 := ht 10 (by decide)
  have e11 := ht 11 (by decide)
  have e17 := ht 17 (by decide)
  have e21 := ht 21 (by decide)
  have e22 := ht 22 (by decide)
  have e24 := ht 24 (by decide)
  unfold SN LVb
  rw [hr 43 (by decide), hr 44 (by decide), hr 7 (by decide), hr 46 (by decide), hr 18 (by decide), hr 19 (by decide), e9, e10, e17, e21, e22, e24]
  refine ⟨s3, s4, fun b hb => BB_E E D W (fun k hk => hr k (by omega)) e10 e11 (hd b hb) (s5 b hb), s6, fun k a c => ?_, s8, s9, s10, s11, s13⟩
  have hl : LVb τ (66 + k) := Or.inr (by omega)
  have et := te_E E W (s := 66 + k) (by omega) (congrFun e10 _) (fun j x y => (hd _ hl j x y).1)
  unfold fwin
  rw [et, e22]
  exact s7 k a c
