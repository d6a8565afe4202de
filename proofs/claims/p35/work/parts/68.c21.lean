/-! THE CLASS: drawPools -/
theorem pls_pos {F m : Int} (h : 2 * m ≤ F ∧ F ≤ 12) (h' : 1 ≤ m ∧ m ≤ 4) : 1 ≤ (pls F m).length := by
  have e1 : F = 2 ∨ F = 3 ∨ F = 4 ∨ F = 5 ∨ F = 6 ∨ F = 7 ∨ F = 8 ∨ F = 9 ∨ F = 10 ∨ F = 11 ∨ F = 12 := by omega
  have e2 : m = 1 ∨ m = 2 ∨ m = 3 ∨ m = 4 := by omega
  rcases e1 with rfl | rfl | rfl | rfl | rfl | rfl | rfl | rfl | rfl | rfl | rfl <;> rcases e2 with rfl | rfl | rfl | rfl <;> first | decide +kernel | (exfalso; omega)
def okf (F : Int) (l : List (Int × Int)) : Prop := ∀ x ∈ l, (0 ≤ x.1 ∧ x.1 < F) ∧ 0 ≤ x.2 ∧ x.2 < F
theorem okf_app {F : Int} {a b : List (Int × Int)} (ha : okf F a) (hb : okf F b) : okf F (a ++ b) := fun x hx => (List.mem_append.mp hx).elim (ha x) (hb x)
theorem ofJ {F m k : Int} (hm : 1 ≤ m) (hk : 0 ≤ k ∧ k < F) : ∀ (f : Nat) (j : Int), 0 ≤ j → okf F (pJ F m k f j)
  | 0, _, _ => fun x hx => nomatch hx
  | f + 1, j, h0 => by
    unfold pJ
    by_cases c : j < F
    · rw [if_pos c]
      intro x hx
      rcases List.mem_cons.mp hx with rfl | hx
      · exact ⟨hk, h0, c⟩
      · exact ofJ hm hk f (j + m) (by omega) x hx
    · rw [if_neg c]
      exact fun x hx => nomatch hx
theorem ofK {F m : Int} (hm : 1 ≤ m) : ∀ (f : Nat) (k : Int), 0 ≤ k → okf F (pK F m f k)
  | 0, _, _ => fun x hx => nomatch hx
  | f + 1, k, h0 => by
    unfold pK
    by_cases c : k < F
    · rw [if_pos c]
      exact okf_app (ofJ hm ⟨h0, c⟩ 13 (k + m) (by omega)) (ofK hm f (k + m) (by omega))
    · rw [if_neg c]
      exact fun x hx => nomatch hx
theorem ofP {F m : Int} (hm : 1 ≤ m) : ∀ (f : Nat) (p : Int), 0 ≤ p → okf F (pP F m f p)
  | 0, _, _ => fun x hx => nomatch hx
  | f + 1, p, h0 => by
    unfold pP
    by_cases c : p < m
    · rw [if_pos c]
      exact okf_app (ofK hm 13 p h0) (ofP hm f (p + 1) (by omega))
    · rw [if_neg c]
      exact fun x hx => nomatch hx
/-- while the pools are drawn -/
def RQ (ρ τ : TS) (c : Int) : Prop := WF τ ∧ WK ρ ∧ (ρ 0 0 = τ 0 0 ∧ ρ 1 0 = τ 1 0 ∧ ρ 47 0 = τ 1 0 ∧ ρ 2 0 = τ 5 0 ∧ ρ 47 1 = τ 5 0 ∧ ρ 3 0 = τ 9 0 ∧ 0 ≤ ρ 47 2 ∧ ρ 47 2 ≤ c) ∧
  (∀ i, 0 ≤ i → i < τ 1 0 → ρ 4 i = i ∧ ρ 8 i = i) ∧ (∀ i, 0 ≤ i → i < τ 5 0 → ρ 5 i = i ∧ ρ 13 i = i ∧ ρ 14 i = τ 2 i) ∧ (∀ i, τ 5 0 ≤ i → τ 4 i = 0) ∧
  (∀ s, 0 ≤ s → s < τ 9 0 → ρ 6 s = s ∧ ρ 18 s = τ 6 s ∧ ρ 19 s = τ 7 s ∧ τ 6 s < τ 1 0 ∧ τ 7 s < τ 1 0) ∧
  (τ 21 0 = 0 ∧ τ 17 0 = -1 ∧ τ 19 0 = 0 ∧ ρ 43 0 = τ 21 0 ∧ ρ 44 0 = τ 24 0) ∧ (ρ 41 0 = -1 ∧ ρ 37 0 = -1 ∧ ρ 38 0 = -1 ∧ ρ 39 0 = -1 ∧ ρ 40 0 = -1) ∧
  (∀ b, LVb τ b → BB ρ τ b) ∧ WR ρ τ ∧ FRE ρ τ
theorem ib_at {ρ : TS} {f s b : Int} : ib ρ f s 17 b = (if b = ρ 3 0 then 1 else ρ 17 b) ∧ ib ρ f s 18 b = (if b = ρ 3 0 then f else ρ 18 b) ∧ ib ρ f s 19 b = (if b = ρ 3 0 then s else ρ 19 b) ∧ ib ρ f s 20 b = (if b = ρ 3 0 then 0 else ρ 20 b) ∧ ib ρ f s 21 b = (if b = ρ 3 0 then 2 else ρ 21 b) ∧ ib ρ f s 22 b = (if b = ρ 3 0 then 2 else ρ 22 b) ∧ ib ρ f s 24 b = (if b = ρ 3 0 then 3 else ρ 24 b) ∧ ib ρ f s 25 b = (if b = ρ 3 0 then 0 else ρ 25 b) ∧ ib ρ f s 26 b = (if b = ρ 3 0 then 0 else ρ 26 b) ∧ ib ρ f s 6 b = (if b = ρ 3 0 then ρ 3 0 else ρ 6 b) := by
  have e : ∀ k, ¬ k = 6 ∧ ¬ k = 3 ∧ ¬ k = 24 ∧ ¬ k = 25 ∧ ¬ k = 26 → ib ρ f s k = nbt ρ (ρ 3 0) 1 f s k := fun k hk => by
    unfold ib nb2
    rw [ts_n (by omega), ts_n (by omega), ts_n (by omega), ts_n (by omega), ts_n (by omega)]
  have e24 : ib ρ f s 24 b = if b = ρ 3 0 then 3 else ρ 24 b := by
    unfold ib nb2
    rw [tsN (by decide), tsN (by decide), tsN (by decide), tsN (by decide), ts_s, nbt_24]
    unfold upZ
    by_cases z : b = ρ 3 0
    · rw [if_pos z, if_pos z]; rfl
    · rw [if_neg z, if_neg z, if_neg z]
  have e25 : ib ρ f s 25 b = if b = ρ 3 0 then 0 else ρ 25 b := by
    unfold ib nb2
    rw [tsN (by decide), tsN (by decide), tsN (by decide), ts_s, ts_n (by decide), nbt_25]
    unfold upZ
    by_cases z : b = ρ 3 0
    · simp only [if_pos z]
    · simp only [if_neg z]
  have e26 : ib ρ f s 26 b = if b = ρ 3 0 then 0 else ρ 26 b := by
    unfold ib nb2
    rw [tsN (by decide), tsN (by decide), ts_s, ts_n (by decide), ts_n (by decide), nbt_26]
    unfold upZ
    by_cases z : b = ρ 3 0
    · simp only [if_pos z]
    · simp only [if_neg z]
  have e6 : ib ρ f s 6 b = if b = ρ 3 0 then ρ 3 0 else ρ 6 b := by
    unfold ib
    rw [tsN (by decide), ts_s, nb2_k (by decide)]
    rfl
  rw [e 17 (by decide), e 18 (by decide), e 19 (by decide), e 20 (by decide), e 21 (by decide), e 22 (by decide), e24, e25, e26, e6, nbt_17, nbt_18, nbt_19, nbt_20, nbt_21, nbt_22]
  exact ⟨rfl, rfl, rfl, rfl, rfl, rfl, rfl, rfl, rfl, rfl⟩
theorem ib_23 {ρ : TS} {f s : Int} : ib ρ f s 23 = rw0 (ρ 23) (ρ 3 0) 12 := by
  unfold ib nb2
  rw [ts_n (by decide), ts_n (by decide), ts_n (by decide), ts_n (by decide), ts_n (by decide), nbt_23]
theorem WK_ib {ρ : TS} (V : WK ρ) {f s : Int} (hf : 0 ≤ f ∧ f ≤ 11) (hs : 0 ≤ s ∧ s ≤ 11) (h3 : 0 ≤ ρ 3 0 ∧ ρ 3 0 < 66) : WK (ib ρ f s) := by
  have hr : ∀ i, (-1 : Int) ≤ rw0 (ρ 23) (ρ 3 0) 12 i ∧ rw0 (ρ 23) (ρ 3 0) 12 i ≤ 100000 := fun i => by
    have := wk23 V i
    unfold rw0
    split <;> omega
  have V1 : WK (nbt ρ (ρ 3 0) 1 f s) := by
    intro k j k1 k2
    unfold nbt
    rw [ts_n (by omega)]
    exact WK_ts (WK_ts (WK_ts (WK_ts (WK_ts (WK_ts (WK_ts (WK_ts (WK_ts (WK_fs V hr) (by decide)) (show (-1 : Int) ≤ _ ∧ _ ≤ (11 : Int) by omega)) (show (-1 : Int) ≤ _ ∧ _ ≤ (11 : Int) by omega)) (by decide)) (by decide)) (by decide)) (by decide)) (by decide)) (by decide) k j k1 k2
  exact WK_ts (WK_ts (WK_ts (WK_ts (WK_ts V1 (by decide)) (by decide)) (by decide)) (show (-1 : Int) ≤ _ ∧ _ ≤ (65 : Int) by omega)) (show (0 : Int) ≤ _ ∧ _ ≤ (66 : Int) by omega)
theorem RQ_s {ρ τ : TS} {c f s : Int} (R : RQ ρ τ c) (h9 : τ 9 0 < 66) (hf : 0 ≤ f ∧ f < τ 1 0) (hs : 0 ≤ s ∧ s < τ 1 0) : RQ (ib ρ f s) (in1 τ f s) c := by
  obtain ⟨W, V, ⟨a1, a2, a3, a4, a5, a6, a7, a8⟩, b1, b2, b3, b4, ⟨d1, d2, d3, d4, d5⟩, ⟨p1, p2, p3, p4, p5⟩, hB, hWR, hF⟩ := R
  have w1 := wf1 W 0
  have w9 := wf9 W 0
  have ek : ∀ k, ¬ (17 ≤ k ∧ k ≤ 26) ∧ ¬ k = 48 ∧ ¬ k = 3 ∧ ¬ k = 6 → ib ρ f s k = ρ k := fun k hk => ib_k hk
  have et : ∀ k, ¬ k = 6 ∧ ¬ k = 7 ∧ ¬ k = 9 → in1 τ f s k = τ k := fun k hk => by unfold in1; rw [ts_n (by omega), ts_n (by omega), ts_n (by omega)]
  have t6 : ∀ i, in1 τ f s 6 i = if i = τ 9 0 then f else τ 6 i := fun i => by unfold in1; rw [tsN (by decide), tsN (by decide), ts_s]; rfl
  have t7 : ∀ i, in1 τ f s 7 i = if i = τ 9 0 then s else τ 7 i := fun i => by unfold in1; rw [tsN (by decide), ts_s]; rfl
  have t9 : in1 τ f s 9 0 = τ 9 0 + 1 := in1_9
  have W' : WF (in1 τ f s) := WF_ts (WF_ts (WF_ts W (show (0 : Int) ≤ _ ∧ _ ≤ (11 : Int) by omega)) (show (0 : Int) ≤ _ ∧ _ ≤ (11 : Int) by omega)) (show (0 : Int) ≤ _ ∧ _ ≤ (66 : Int) by omega)
  have V' : WK (ib ρ f s) := WK_ib V (by omega) (by omega) (by omega)
  have htc : tch (in1 τ f s) = tch τ := tch_k (et 0 (by decide)) (fun k hk => et k (by omega)) (et 3 (by decide)) (et 4 (by decide))
  have hte : te (in1 τ f s) = te τ := by funext b; exact te_eq htc (by rw [et 10 (by decide)])
  have hj : jd (in1 τ f s) = jd τ := jd_k2 (et 0 (by decide)) (fun k hk => et k (by omega))
  refine ⟨W', V', ?_, ?_, ?_, ?_, ?_, ?_, ?_, ?_, ?_, ?_⟩
  · rw [ek 0 (by decide), ek 1 (by decide), ek 2 (by decide), ek 47 (by decide), ib_3, et 0 (by decide), et 1 (by decide), et 5 (by decide), t9]
    exact ⟨a1, a2, a3, a4, a5, by omega, a7, a8⟩
  · rw [ek 4 (by decide), ek 8 (by decide), et 1 (by decide)]; exact b1
  · rw [ek 5 (by decide), ek 13 (by decide), ek 14 (by decide), et 5 (by decide), et 2 (by decide)]; exact b2
  · rw [et 5 (by decide), et 4 (by decide)]; exact b3
  · intro x x0 x1
    rw [t9] at x1
    obtain ⟨-, y18, y19, -, -, -, -, -, -, y6⟩ := ib_at (ρ := ρ) (f := f) (s := s) (b := x)
    rw [y6, y18, y19, t6, t7, et 1 (by decide)]
    by_cases z : x = τ 9 0
    · have zr : x = ρ 3 0 := by omega
      simp only [if_pos z, if_pos zr]
      exact ⟨by omega, trivial, trivial, hf.2, hs.2⟩
    · have zr : ¬ x = ρ 3 0 := by omega
      simp only [if_neg z, if_neg zr]
      exact b4 x x0 (by omega)
  · rw [et 21 (by decide), et 17 (by decide), et 19 (by decide), et 24 (by decide), ek 43 (by decide), ek 44 (by decide)]
    exact ⟨d1, d2, d3, d4, d5⟩
  · rw [ek 41 (by decide), ek 37 (by decide), ek 38 (by decide), ek 39 (by decide), ek 40 (by decide)]
    exact ⟨p1, p2, p3, p4, p5⟩
  · intro b hb
    unfold LVb at hb
    rw [t9, et 21 (by decide), d1] at hb
    obtain ⟨y17, y18, y19, y20, y21, y22, y24, y25, y26, y6⟩ := ib_at (ρ := ρ) (f := f) (s := s) (b := b)
    by_cases z : b = τ 9 0
    · have z3 : b = ρ 3 0 := by omega
      obtain ⟨f10, f11, f11b, f48⟩ := hF b (by omega) (by omega) (fun y => by unfold LVb at y; rw [d1] at y; omega)
      unfold BB BR TL
      rw [y17, y20, y21, y22, y24, y25, y26, if_pos z3, if_pos z3, if_pos z3, if_pos z3, if_pos z3, if_pos z3, if_pos z3, ib_48, et 10 (by decide), et 11 (by decide), f10, f11, f11b, hte, te_0 f10]
      refine ⟨⟨by omega, by rw [z3]; exact upZ_at, by rw [if_pos (by omega)], by unfold gl3; rw [if_pos (by omega)], rfl, fun j j0 j1 => by omega⟩, ⟨rfl, rfl⟩, rfl, rfl⟩
    · have z3 : ¬ b = ρ 3 0 := by omega
      have hb' : LVb τ b := by unfold LVb; rw [d1]; omega
      obtain ⟨⟨g1, g2, g3, g4, g5, g6⟩, ⟨u1, u2⟩, u3, u4⟩ := hB b hb'
      have w10 := wf10 W b
      unfold BB BR TL
      rw [y17, y20, y21, y22, y24, y25, y26, if_neg z3, if_neg z3, if_neg z3, if_neg z3, if_neg z3, if_neg z3, if_neg z3, ib_48, upZ_ne z3, et 10 (by decide), et 11 (by decide), hte, ib_23, ek 36 (by decide), hj]
      refine ⟨⟨g1, g2, g3, g4, g5, fun j j0 j1 => ?_⟩, ⟨u1, u2⟩, u3, u4⟩
      have e23 : rw0 (ρ 23) (ρ 3 0) 12 (12 * b + j) = ρ 23 (12 * b + j) := by unfold rw0; rw [if_neg (by omega)]
      rw [e23]
      exact ⟨PH_same (g6 j j0 j1).1 (fun k hk => ek k (by omega)) (by rw [ek 47 (by decide)]; omega) (by rw [ek 47 (by decide)]; omega) (fun k hk => et k (by omega)), (g6 j j0 j1).2⟩
  · unfold WR
    rw [ek 47 (by decide)]
    have y15 : ib ρ f s 15 = ρ 15 := ek 15 (by decide)
    have y16 : ib ρ f s 16 = ρ 16 := ek 16 (by decide)
    rw [y15, y16, et 3 (by decide), et 4 (by decide)]
    exact hWR
  · intro b x0 x1 hb
    unfold LVb at hb
    rw [t9, et 21 (by decide)] at hb
    rw [et 10 (by decide), et 11 (by decide), ib_48, upZ_ne (by omega)]
    exact hF b x0 x1 (fun y => by unfold LVb at y; omega)
theorem RQ_L : ∀ (l : List (Int × Int)) (ρ τ : TS) (c : Int), RQ ρ τ c → okf (τ 1 0) l → τ 9 0 + l.length ≤ 66 → RQ (ibL ρ l) (inL τ l) c
  | [], _, _, _, R, _, _ => R
  | x :: l, ρ, τ, c, R, ho, hl => by
    rw [List.length_cons] at hl
    have hx := ho x List.mem_cons_self
    have R1 := RQ_s R (by omega) hx.1 hx.2
    have e1 : in1 τ x.1 x.2 1 = τ 1 := by unfold in1; rw [ts_n (by decide), ts_n (by decide), ts_n (by decide)]
    exact RQ_L l _ _ c R1 (by rw [e1]; exact fun y hy => ho y (List.mem_cons_of_mem _ hy)) (by rw [in1_9]; omega)
theorem RR_pools {ρ τ : TS} {c m : Int} (R : RR ρ τ c) (hm : 1 ≤ m ∧ m ≤ 4) (h8 : τ 8 0 = 0) (h2 : 2 * m ≤ τ 1 0) : RR (ibL ρ (pls (τ 1 0) m)) (inL (ts τ 8 0 m) (pls (τ 1 0) m)) c ∧ ibL ρ (pls (τ 1 0) m) 3 0 = ((pls (τ 1 0) m).length : Int) ∧ dpC ρ (τ 1 0) (pls (τ 1 0) m).length := by
  obtain ⟨W, V, ⟨⟨a1, a2, a3, a4, a5, a6, a7, a8⟩, b1, b2, b3, b4, b5, b6⟩, S, Q, F⟩ := R
  have w1 := wf1 W 0
  have w21 := wf21 W 0
  have w17 := wf17 W 0
  have hlen := pls_len (F := τ 1 0) w1 hm
  have hpos := pls_pos (F := τ 1 0) ⟨h2, w1.2⟩ hm
  have h9 : τ 9 0 = 0 := b5.mp h8
  have h21 : τ 21 0 = 0 := by
    by_cases z : 0 < τ 21 0
    · exact absurd h9 (b6 z)
    · omega
  have hvb : ∀ b, ¬ VB τ b := fun b z => by unfold VB at z; omega
  have h19 : τ 19 0 = 0 := Classical.byContradiction (fun z => hvb _ (Q.2 z).2.1)
  obtain ⟨q1, q2, q3, q4⟩ := Q.1 h19
  have h17 : τ 17 0 = -1 := Classical.byContradiction (fun z => hvb _ (q4 z).1)
  obtain ⟨s3, s4, s5, s6, s7, s8, s9, s10, s11, s13⟩ := S
  have W1 : WF (ts τ 8 0 m) := WF_ts W (show (0 : Int) ≤ _ ∧ _ ≤ (4 : Int) by omega)
  have R0 : RQ ρ (ts τ 8 0 m) c := ⟨W1, V, ⟨a1, a2, a3, a4, a5, a6, a7, a8⟩, b1, b2, b3, b4, ⟨h21, h17, h19, s3.1, s3.2.1⟩, ⟨q1, by rw [q2, h17], (q3 h17).1, (q3 h17).2.1, (q3 h17).2.2⟩, fun b hb => s5 b hb, s13, F⟩
  have R1 := RQ_L (pls (τ 1 0) m) ρ (ts τ 8 0 m) c R0 (ofP hm.1 5 0 (by omega)) (by show τ 9 0 + _ ≤ 66; omega)
  obtain ⟨W', V', ⟨c1, c2, c3, c4, c5, c6, c7, c8⟩, e1, e2, e3, e4, ⟨d1, d2, d3, d4, d5⟩, ⟨p1, p2, p3, p4, p5⟩, hB, hWR, hF⟩ := R1
  have t9 : inL (ts τ 8 0 m) (pls (τ 1 0) m) 9 0 = ((pls (τ 1 0) m).length : Int) := by rw [inL_9]; show τ 9 0 + _ = _; omega
  have t8 : inL (ts τ 8 0 m) (pls (τ 1 0) m) 8 0 = m := by rw [inL_k (by decide)]; exact ts_self
  refine ⟨⟨W', V', ⟨⟨c1, c2, c3, c4, c5, c6, c7, c8⟩, e1, e2, e3, e4, ?_, ?_⟩, ⟨⟨d4, d5, by omega⟩, fun k k1 k2 => by omega, hB, fun k k1 k2 => by omega, fun k k1 k2 => by omega, fun k k1 k2 => by omega, fun k k1 k2 => by omega, fun k k1 k2 => by omega, fun k k1 k2 => by omega, hWR⟩, ⟨fun _ => ⟨p1, by rw [p2, d2], fun _ => ⟨p3, p4, p5⟩, fun z => absurd d2 z⟩, fun z => absurd d3 z⟩, hF⟩, by rw [c6, t9], ⟨a2, by omega, by omega, fun b x0 x1 => ?_⟩⟩
  · rw [t8, t9]; omega
  · intro z; omega
  · exact (F b (by omega) (by omega) (fun z => by unfold LVb at z; omega)).2.2.2
set_option maxRecDepth 100000 in
set_option maxHeartbeats 4000000 in
theorem dpp {X : GX} {h : LH} {k n : Nat} {Q : LO → LH → Prop} {F m : Int} (hF : 0 ≤ F ∧ F ≤ 12) (hm1 : 1 ≤ m ∧ m ≤ 4) : ∀ (f g : Nat) (p : Int) (ρ : TS), 0 ≤ p → p + f = m → f ≤ g → dpC ρ F (pP F m g p).length → J X mX7_drawPools 68 [some (vR (some (1, 0))), some (vI (iI m)), none] [] (hk h (ibL ρ (pP F m g p))) k n Q → J X mX7_drawPools 51 [some (vR (some (1, 0))), some (vI (iI m)), some (vI (iI p))] [] (hk h ρ) (k + 198 * f) (n + 1518 * f) Q := by
  intro f
  induction f with
  | zero =>
    intro g p ρ h0 h1 h2 hC kk
    have eL : pP F m g p = [] := by
      cases g with
      | zero => rfl
      | succ g => exact if_neg (by omega)
    rw [eL] at kk
    refine J_iload_n (M := mX7_drawPools) dX7_drawPools_51 rfl rfl ?_
    refine J_iload_n (M := mX7_drawPools) dX7_drawPools_52 rfl rfl ?_
    refine Z_ic_ge (M := mX7_drawPools) (tgt := 68) (by first | assumption | exact pI_rg _ | (unfold rg; omega)) (by first | assumption | exact pI_rg _ | (unfold rg; omega)) dX7_drawPools_53 (by decide) (fun c_53 => ?_) (fun c_53 => ?_)
    · exact J_sub kk (And.intro rfl (And.intro rfl trivial))
    · omega
  | succ f ih =>
    intro g p ρ h0 h1 h2 hC kk
    obtain ⟨g', rfl⟩ : ∃ g', g = g' + 1 := ⟨g - 1, by omega⟩
    have eL : pP F m (g' + 1) p = pK F m 13 p ++ pP F m g' (p + 1) := if_pos (by omega)
    rw [eL, List.length_append] at hC
    rw [eL, ibL_app] at kk
    have kk2 := ih g' (p + 1) (ibL ρ (pK F m 13 p)) (by omega) (by omega) (by omega) (dpC_L _ ρ F _ hC) kk
    refine J_le (k' := k + 198 * f + 198) (n' := n + 1518 * f + 1518) (by omega) (by omega) ?_
    refine J_iload_n (M := mX7_drawPools) dX7_drawPools_51 rfl rfl ?_
    refine J_iload_n (M := mX7_drawPools) dX7_drawPools_52 rfl rfl ?_
    refine Z_ic_ge (M := mX7_drawPools) (tgt := 68) (by first | assumption | exact pI_rg _ | (unfold rg; omega)) (by first | assumption | exact pI_rg _ | (unfold rg; omega)) dX7_drawPools_53 (by decide) (fun c_53 => ?_) (fun c_53 => ?_)
    · omega
    · refine J_aload_n (M := mX7_drawPools) dX7_drawPools_56 rfl rfl ?_
      refine J_iload_n (M := mX7_drawPools) dX7_drawPools_57 rfl rfl ?_
      refine J_iload_n (M := mX7_drawPools) dX7_drawPools_58 rfl rfl ?_
      refine J_callV (M := mX7_drawPools) (as := [_, _]) dX7_drawPools_59 ca_X7_281 ⟨by decide, by decide⟩ (hk_1 (by first | exact rfl | assumption | exact Or.inl (by assumption) | exact Or.inr rfl | (show 0 ≤ _ ∧ _ < _; omega))) rfl (Nat.le_of_ble_eq_true rfl) (k' := k + 198 * f) (n' := n + 1518 * f) (Nat.le_refl _) (Nat.le_refl _) (kX7_drawPool hF hm1 ⟨by omega, by omega⟩ (dpC_le hC (by omega))) (fun v_59 h_59 hv_59 => ?_)
      obtain ⟨r_59, rfl, hv_59⟩ := hv_59
      obtain ⟨rfl, e_59⟩ := hv_59
      rw [e_59]
      refine Z_iinc (M := mX7_drawPools) dX7_drawPools_62 rfl (by decide) ?_
      refine J_goto (M := mX7_drawPools) (tgt := 51) dX7_drawPools_65 (by decide) ?_
      exact J_sub kk2 (And.intro rfl (And.intro rfl (And.intro rfl trivial)))

set_option maxRecDepth 100000 in
set_option maxHeartbeats 4000000 in
theorem p_drawPools {X : GX} {h : LH} {ρ τ : TS} {c : Int} (R : RR ρ τ c) {m : Int} (hm : rg m) : CX X mX7_drawPools [vR (some (1, 0)), vI (iI m)] h ρ (PX (gl (pI (1 ≤ m ∧ m ≤ 4)) (pI ((1 ≤ m ∧ m ≤ 4) ∧ τ 8 0 = 0 ∧ 2 * m ≤ τ 1 0)) 1) ((pls (τ 1 0) m).length : Int) (fun r => RR r (inL (ts τ 8 0 m) (pls (τ 1 0) m)) c)) (EM [1, 0] (gl (pI (1 ≤ m ∧ m ≤ 4)) (pI ((1 ≤ m ∧ m ≤ 4) ∧ τ 8 0 = 0 ∧ 2 * m ≤ τ 1 0)) 1)) := by
  have W := R.1
  have V := R.2.1
  have w1 := wf1 W 0
  have a0 := R.2.2.1.1
  have b5 := R.2.2.1.2.2.2.2.2.1
  have w9 := wf9 W 0
  refine CT_of (by decide +kernel) rfl (Nat.le_of_ble_eq_true rfl) ?_
  refine J_iload_n (M := mX7_drawPools) dX7_drawPools_0 rfl rfl ?_
  refine Z_iconst (M := mX7_drawPools) dX7_drawPools_1 ?_
  refine Z_ic_lt (M := mX7_drawPools) (tgt := 10) (by first | assumption | exact pI_rg _ | (unfold rg; omega)) (by first | assumption | exact pI_rg _ | (unfold rg; omega)) dX7_drawPools_2 (by decide) (fun c_2 => ?_) (fun c_2 => ?_)
  · refine K_thr (M := mX7_drawPools) rfl rfl ti_93_277_97 (by decide) (by decide) (by decide) (by decide) (Or.inr ⟨dX7_drawPools_10, dX7_drawPools_13, dX7_drawPools_14, dX7_drawPools_17, dX7_drawPools_20⟩) ?_
    first
      | exact EM_1 (pI_f (by omega)) rfl
      | exact EM_2 (pI_n0.mpr (by omega)) (pI_f (by omega)) rfl
      | exact EM_3 (pI_n0.mpr (by omega)) (pI_n0.mpr (by omega)) (pI_f (by omega)) rfl
  · refine J_iload_n (M := mX7_drawPools) dX7_drawPools_5 rfl rfl ?_
    refine Z_iconst (M := mX7_drawPools) dX7_drawPools_6 ?_
    refine Z_ic_le (M := mX7_drawPools) (tgt := 21) (by first | assumption | exact pI_rg _ | (unfold rg; omega)) (by first | assumption | exact pI_rg _ | (unfold rg; omega)) dX7_drawPools_7 (by decide) (fun c_7 => ?_) (fun c_7 => ?_)
    · refine J_aload_n (M := mX7_drawPools) dX7_drawPools_21 rfl rfl ?_
      refine J_callV (M := mX7_drawPools) (as := []) dX7_drawPools_22 ca_X7_56 ⟨by decide, by decide⟩ (hk_1 (by first | exact rfl | assumption | exact Or.inl (by assumption) | exact Or.inr rfl | (show 0 ≤ _ ∧ _ < _; omega))) rfl (Nat.le_of_ble_eq_true rfl) (k' := 792) (n' := 6072) (by decide) (by decide) (kX7_arePoolsDrawn V) (fun v_22 h_22 hv_22 => ?_)
      obtain ⟨r_22, rfl, hv_22⟩ := hv_22
      obtain ⟨rfl, e_22⟩ := hv_22
      rw [e_22]
      first
        | refine Z_pt (M := mX7_drawPools) (tgt := 38) dX7_drawPools_25 (by decide) (fun c_25 => ?_) (fun c_25 => ?_)
        | refine Z_if_ne (M := mX7_drawPools) (tgt := 38) (by first | assumption | exact pI_rg _ | (unfold rg; omega)) dX7_drawPools_25 (by decide) (fun c_25 => ?_) (fun c_25 => ?_)
      · refine K_thr (M := mX7_drawPools) rfl rfl ti_60_279_64 (by decide) (by decide) (by decide) (by decide) (Or.inr ⟨dX7_drawPools_38, dX7_drawPools_41, dX7_drawPools_42, dX7_drawPools_45, dX7_drawPools_48⟩) ?_
        first
          | exact EM_1 (pI_f (by omega)) rfl
          | exact EM_2 (pI_n0.mpr (by omega)) (pI_f (by omega)) rfl
          | exact EM_3 (pI_n0.mpr (by omega)) (pI_n0.mpr (by omega)) (pI_f (by omega)) rfl
      · refine J_aload_n (M := mX7_drawPools) dX7_drawPools_28 rfl rfl ?_
        refine J_getf (M := mX7_drawPools) dX7_drawPools_29 fi_X7_52 (hk_1 (by first | exact rfl | assumption | exact Or.inl (by assumption) | exact Or.inr rfl | (show 0 ≤ _ ∧ _ < _; omega))) rfl ?_
        refine Z_wb (M := mX7_drawPools) (g := ρ 1) (wk1 V) rfl (fun wb_1_17 => ?_)
        refine Z_iconst (M := mX7_drawPools) dX7_drawPools_32 ?_
        refine J_iload_n (M := mX7_drawPools) dX7_drawPools_33 rfl rfl ?_
        refine Z_imul (M := mX7_drawPools) dX7_drawPools_34 ?_
        refine Z_ic_ge (M := mX7_drawPools) (tgt := 49) (by first | assumption | exact pI_rg _ | (unfold rg; omega)) (by first | assumption | exact pI_rg _ | (unfold rg; omega)) dX7_drawPools_35 (by decide) (fun c_35 => ?_) (fun c_35 => ?_)
        · refine Z_iconst (M := mX7_drawPools) dX7_drawPools_49 ?_
          refine J_istore_n (M := mX7_drawPools) dX7_drawPools_50 rfl (by decide) ?_
          have hm1 : 1 ≤ m ∧ m ≤ 4 := by omega
          have h8 : τ 8 0 = 0 := by omega
          have h2 : 2 * m ≤ τ 1 0 := by omega
          obtain ⟨hR, h3, hC⟩ := RR_pools R hm1 h8 h2
          refine J_le (M := mX7_drawPools) (k' := 0 + 198 * m.toNat) (n' := 0 + 1518 * m.toNat) (by show _ ≤ 792; omega) (by show _ ≤ 6072; omega) ?_
          refine J_sub (M := mX7_drawPools) (dpp w1 hm1 m.toNat 5 0 ρ (by omega) (by omega) (by omega) hC ?_) (And.intro rfl (And.intro rfl (And.intro rfl trivial)))
          refine J_aload_n (M := mX7_drawPools) dX7_drawPools_68 rfl rfl ?_
          refine J_getf (M := mX7_drawPools) dX7_drawPools_69 fi_X7_284 (hk_1 (by first | exact rfl | assumption | exact Or.inl (by assumption) | exact Or.inr rfl | (show 0 ≤ _ ∧ _ < _; omega))) rfl ?_
          refine K_iretE dX7_drawPools_72 rfl ?_
          exact ⟨(gl_0 ⟨(by first | exact n10 | exact pI_n0.mpr (by omega)), (by first | exact n10 | exact pI_n0.mpr (by omega)), (by first | exact n10 | exact pI_n0.mpr (by omega))⟩), (by rw [show ibL ρ (pP (τ 1 0) m 5 0) 3 0 = ibL ρ (pls (τ 1 0) m) 3 0 from rfl, h3]), hR⟩
        · refine K_thr (M := mX7_drawPools) rfl rfl ti_60_279_64 (by decide) (by decide) (by decide) (by decide) (Or.inr ⟨dX7_drawPools_38, dX7_drawPools_41, dX7_drawPools_42, dX7_drawPools_45, dX7_drawPools_48⟩) ?_
          first
            | exact EM_1 (pI_f (by omega)) rfl
            | exact EM_2 (pI_n0.mpr (by omega)) (pI_f (by omega)) rfl
            | exact EM_3 (pI_n0.mpr (by omega)) (pI_n0.mpr (by omega)) (pI_f (by omega)) rfl
    · refine K_thr (M := mX7_drawPools) rfl rfl ti_93_277_97 (by decide) (by decide) (by decide) (by decide) (Or.inr ⟨dX7_drawPools_10, dX7_drawPools_13, dX7_drawPools_14, dX7_drawPools_17, dX7_drawPools_20⟩) ?_
      first
        | exact EM_1 (pI_f (by omega)) rfl
        | exact EM_2 (pI_n0.mpr (by omega)) (pI_f (by omega)) rfl
        | exact EM_3 (pI_n0.mpr (by omega)) (pI_n0.mpr (by omega)) (pI_f (by omega)) rfl
