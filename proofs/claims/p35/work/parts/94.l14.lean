/-! THE LAW: the acts -/
/-- what the tests of the rest tell -/
noncomputable def tsT (τ : TS) (w f m : Int) : TS := ts (ts τ 3 w (if ((500 ≤ f ∧ f ≤ 770) ∧ m ≤ 15) then 1 else 2)) 4 w (pI (¬ ((500 ≤ f ∧ f ≤ 770) ∧ m ≤ 15) ∧ τ 21 0 = 0))
theorem tw_no {X : GX} {g : LH} {σh ρ τ : TS} {π : Int → Int64} {c w f m : Int} (R : RR ρ τ c) (hw : 0 ≤ w ∧ w < τ 5 0) (hf : 0 ≤ f ∧ f ≤ 2000) (hm : 0 ≤ m ∧ m ≤ 100) (h : τ 3 w = 2) : CT X mL_tested [vR (some (1, 0)), vI (iI w), vI (iI f), vI (iI m)] (HW g σh π ρ) (rQ (fun o h' => o = some (vI (iI (-7))) ∧ h' = HW g σh π ρ)) := by
  have w5 := wf5 R.1 0
  have hn := gl3' (p := 0 ≤ w ∧ w ≤ τ 5 0 - 1) (q := (0 ≤ f ∧ f ≤ 2000) ∧ 0 ≤ m ∧ m ≤ 100) (r := (0 ≤ w ∧ w ≤ τ 5 0 - 1) ∧ ¬ τ 3 w = 2 ∧ τ 19 0 = 0) (by omega) ⟨hf, hm⟩ (fun z => z.2.1 h)
  refine CT.mono (fun o h' hq => ?_) (wL_tested (Or.inr hn) (p_test (h := HL σh π g) R (w := w) (f := f) (m := m) (by unfold rg; omega) (by unfold rg; omega) (by unfold rg; omega)))
  cases o with
  | inl o =>
    rcases hq with ⟨h1, rfl, rfl⟩ | ⟨h0, -⟩
    · exact ⟨rfl, rfl⟩
    · rw [hn] at h0
      exact absurd h0 (by decide)
  | inr k => exact hq
theorem tw_yes {X : GX} {g : LH} {σh ρ τ : TS} {π : Int → Int64} {c w f m : Int} (R : RR ρ τ c) (hw : 0 ≤ w ∧ w < τ 5 0) (hf : 0 ≤ f ∧ f ≤ 2000) (hm : 0 ≤ m ∧ m ≤ 100) (h : ¬ τ 3 w = 2) (h19 : τ 19 0 = 0) : CT X mL_tested [vR (some (1, 0)), vI (iI w), vI (iI f), vI (iI m)] (HW g σh π ρ) (rQ (LQ0 g σh π (pI ((500 ≤ f ∧ f ≤ 770) ∧ m ≤ 15)) (fun r => RR r (fol (tsT τ w f m)) c))) := by
  have w5 := wf5 R.1 0
  have hn := gl0 (p := 0 ≤ w ∧ w ≤ τ 5 0 - 1) (q := (0 ≤ f ∧ f ≤ 2000) ∧ 0 ≤ m ∧ m ≤ 100) (r := (0 ≤ w ∧ w ≤ τ 5 0 - 1) ∧ ¬ τ 3 w = 2 ∧ τ 19 0 = 0) (by omega) ⟨hf, hm⟩ ⟨by omega, h, h19⟩
  refine CT.mono (fun o h' hq => ?_) (wL_tested (Or.inl hn) (p_test (h := HL σh π g) R (w := w) (f := f) (m := m) (by unfold rg; omega) (by unfold rg; omega) (by unfold rg; omega)))
  cases o with
  | inl o =>
    rcases hq with ⟨h1, -⟩ | ⟨h0, rfl, r, hT, rfl⟩
    · exact absurd hn h1
    · exact ⟨rfl, r, hT, rfl⟩
  | inr k => exact hq
theorem tsT_k {τ : TS} {w f m : Int} {k : Nat} (h : ¬ (k = 3 ∨ k = 4)) : tsT τ w f m k = τ k := by
  unfold tsT
  rw [ts_n (by omega), ts_n (by omega)]
theorem WF_tsT {τ : TS} (W : WF τ) {w f m : Int} : WF (tsT τ w f m) := by
  have h1 : (bnd 3).1 ≤ (if ((500 ≤ f ∧ f ≤ 770) ∧ m ≤ 15) then (1 : Int) else 2) ∧ (if ((500 ≤ f ∧ f ≤ 770) ∧ m ≤ 15) then (1 : Int) else 2) ≤ (bnd 3).2 := by
    show (0 : Int) ≤ _ ∧ _ ≤ (2 : Int)
    split <;> omega
  have h2 : (bnd 4).1 ≤ pI (¬ ((500 ≤ f ∧ f ≤ 770) ∧ m ≤ 15) ∧ τ 21 0 = 0) ∧ pI (¬ ((500 ≤ f ∧ f ≤ 770) ∧ m ≤ 15) ∧ τ 21 0 = 0) ≤ (bnd 4).2 := by
    have h := pI_01 (¬ ((500 ≤ f ∧ f ≤ 770) ∧ m ≤ 15) ∧ τ 21 0 = 0)
    show (0 : Int) ≤ _ ∧ _ ≤ (1 : Int)
    omega
  exact WF_ts (WF_ts W h1) h2
/-- the law's mark of a test -/
def mkT (σ : TS) (f m : Int) : Int := if ((500 ≤ f ∧ f ≤ 770) ∧ m ≤ 15) then 1 else if σ 37 7 = 0 then 3 else 2
def tsS (σ : TS) (w f m : Int) : TS := ts σ 30 (2 * w + 1) (mkT σ f m)
theorem tsS_k {σ : TS} {w f m : Int} {k : Nat} (h : ¬ k = 30) : tsS σ w f m k = σ k := ts_n h
theorem mkT_rg {σ : TS} {f m : Int} : 1 ≤ mkT σ f m ∧ mkT σ f m ≤ 3 := by
  unfold mkT
  split
  · omega
  · split <;> omega
theorem LW_t {σ : TS} {π : Int → Int64} {τ : TS} {w f m : Int} (L : LW σ π τ) (hw : 0 ≤ w ∧ w < σ 37 0) : LW (tsS σ w f m) π (tsT τ w f m) := by
  obtain ⟨⟨⟨a1, a2, a3, a4, a5⟩, a6, a7, a8⟩, p, x, ⟨g1, g2⟩, q, n, B⟩ := L
  have k37 : tsS σ w f m 37 = σ 37 := tsS_k (by decide)
  refine ⟨⟨⟨?_, ?_, ?_, ?_, ?_⟩, ?_, ?_, ?_⟩, ?_, ?_, ⟨?_, ?_⟩, ?_, ?_, ?_⟩
  · rw [tsT_k (by decide), k37]; exact a1
  · rw [tsT_k (by decide)]; exact a2
  · rw [tsT_k (by decide), k37]; exact a3
  · rw [tsT_k (by decide)]; exact a4
  · rw [tsT_k (by decide)]; exact a5
  · rw [tsT_k (by decide)]; exact a6
  · rw [tsT_k (by decide), k37]; exact a7
  · rw [tsT_k (by decide), k37]; exact a8
  · unfold LPo
    rw [tsT_k (k := 6) (by decide), tsT_k (k := 7) (by decide)]
    exact p
  · intro i i0 i1
    rw [k37] at i1
    obtain ⟨x1, x2, x3, x4⟩ := x i i0 i1
    have t3 : tsT τ w f m 3 i = if i = w then (if ((500 ≤ f ∧ f ≤ 770) ∧ m ≤ 15) then 1 else 2) else τ 3 i := rfl
    have t4 : tsT τ w f m 4 i = if i = w then pI (¬ ((500 ≤ f ∧ f ≤ 770) ∧ m ≤ 15) ∧ τ 21 0 = 0) else τ 4 i := rfl
    have s0 : tsS σ w f m 30 (2 * i) = if 2 * i = 2 * w + 1 then mkT σ f m else σ 30 (2 * i) := rfl
    have s1 : tsS σ w f m 30 (2 * i + 1) = if 2 * i + 1 = 2 * w + 1 then mkT σ f m else σ 30 (2 * i + 1) := rfl
    rw [tsT_k (k := 2) (by decide), t3, t4, s0, s1, if_neg (by omega)]
    by_cases e : i = w
    · rw [if_pos e, if_pos e, if_pos (by omega)]
      have r := mkT_rg (σ := σ) (f := f) (m := m)
      refine ⟨x1, by omega, ?_, ?_⟩
      · unfold mkT
        by_cases c : (500 ≤ f ∧ f ≤ 770) ∧ m ≤ 15
        · rw [if_pos c, if_pos c, if_neg (by decide)]
        · rw [if_neg c, if_neg c]
          by_cases c2 : σ 37 7 = 0
          · rw [if_pos c2, if_pos rfl]
          · rw [if_neg c2, if_neg (by decide)]
      · unfold mkT
        by_cases c : (500 ≤ f ∧ f ≤ 770) ∧ m ≤ 15
        · rw [if_pos c, pI_f (fun z => z.1 c)]
          omega
        · rw [if_neg c]
          by_cases c2 : σ 37 7 = 0
          · rw [if_pos c2, pI_t ⟨c, by omega⟩]
            omega
          · rw [if_neg c2, pI_f (fun z => c2 (by omega))]
            omega
    · rw [if_neg e, if_neg e, if_neg (by omega)]
      exact ⟨x1, x2, x3, x4⟩
  · intro h
    rw [k37] at h
    rw [tsT_k (by decide)]
    exact g1 h
  · intro h
    rw [k37] at h ⊢
    rw [tsT_k (k := 17) (by decide), tsT_k (k := 18) (by decide), tsT_k (k := 20) (by decide)]
    exact g2 h
  · unfold LE
    rw [tsT_k (k := 10) (by decide), tsT_k (k := 11) (by decide), tsS_k (k := 32) (by decide), tsS_k (k := 33) (by decide)]
    exact q
  · unfold LN
    rw [tsT_k (k := 22) (by decide), tsS_k (k := 36) (by decide), tsS_k (k := 32) (by decide), k37]
    exact n
  · intro b j b0 b1 j0 j1
    rw [tsS_k (k := 32) (by decide)] at j1
    have P := B b j b0 b1 j0 j1
    have ed : jd (tsT τ w f m) = jd τ := jd_k2 (tsT_k (by decide)) (fun k hk2 => tsT_k (by omega))
    have ej : jr (tsT τ w f m) = jr τ := by
      funext u v
      unfold jr
      rw [tsT_k (k := 0) (by decide), tsT_k (k := 12) (by decide), tsT_k (k := 15) (by decide), tsT_k (k := 16) (by decide)]
    unfold PB at P ⊢
    rw [tsT_k (k := 13) (by decide), ed, ej, k37]
    exact P
theorem LW_c {σ : TS} {π : Int → Int64} {τ : TS} {s w : Int} (L : LW σ π τ) (hs : s = 0 ∨ s = 1) (h1 : 0 ≤ σ 37 1) (hw : 0 ≤ w ∧ w < σ 37 0) : LW (ts σ 37 (2 + s) w) π (ts τ 18 s w) := by
  obtain ⟨⟨⟨a1, a2, a3, a4, a5⟩, a6, a7, a8⟩, p, x, ⟨g1, g2⟩, q, n, B⟩ := L
  have k37 : ∀ z, ¬ (z = 2 ∨ z = 3) → ts σ 37 (2 + s) w 37 z = σ 37 z := fun z hz => ts_else (by omega)
  have kt : ∀ k, ¬ k = 18 → ts τ 18 s w k = τ k := fun k hk => ts_n hk
  have ks : ∀ k, ¬ k = 37 → ts σ 37 (2 + s) w k = σ k := fun k hk => ts_n hk
  refine ⟨⟨⟨?_, ?_, ?_, ?_, ?_⟩, ?_, ?_, ?_⟩, ?_, ?_, ⟨?_, ?_⟩, ?_, ?_, ?_⟩
  · rw [kt 0 (by decide), k37 9 (by decide)]; exact a1
  · rw [kt 1 (by decide)]; exact a2
  · rw [kt 5 (by decide), k37 0 (by decide)]; exact a3
  · rw [kt 8 (by decide)]; exact a4
  · rw [kt 9 (by decide)]; exact a5
  · rw [kt 19 (by decide)]; exact a6
  · rw [kt 21 (by decide), k37 7 (by decide)]; exact a7
  · rw [kt 24 (by decide), k37 8 (by decide)]; exact a8
  · unfold LPo
    rw [kt 6 (by decide), kt 7 (by decide)]
    exact p
  · unfold LX
    rw [kt 2 (by decide), kt 3 (by decide), kt 4 (by decide), ks 30 (by decide), k37 0 (by decide)]
    exact x
  · intro h
    rw [k37 1 (by decide)] at h
    omega
  · intro _
    obtain ⟨⟨k1, k2, k3, k4⟩, k5, k6, k7⟩ := g2 h1
    rw [kt 17 (by decide), kt 20 (by decide), k37 1 (by decide), k37 6 (by decide), k37 0 (by decide), k37 7 (by decide)]
    rcases hs with e | e
    · subst e
      have z1 : ts σ 37 (2 + 0) w 37 2 = w := ts_self
      have z2 : ts σ 37 (2 + 0) w 37 3 = σ 37 3 := ts_else (by decide)
      have z3 : ts τ 18 0 w 18 0 = w := ts_self
      have z4 : ts τ 18 0 w 18 1 = τ 18 1 := ts_else (by decide)
      rw [z1, z2, z3, z4]
      exact ⟨⟨k1, rfl, k3, k4⟩, hw.2, k6, k7⟩
    · subst e
      have z1 : ts σ 37 (2 + 1) w 37 2 = σ 37 2 := ts_else (by decide)
      have z2 : ts σ 37 (2 + 1) w 37 3 = w := ts_self
      have z3 : ts τ 18 1 w 18 0 = τ 18 0 := ts_else (by decide)
      have z4 : ts τ 18 1 w 18 1 = w := ts_self
      rw [z1, z2, z3, z4]
      exact ⟨⟨k1, k2, rfl, k4⟩, k5, hw.2, k7⟩
  · unfold LE
    rw [kt 10 (by decide), kt 11 (by decide), ks 32 (by decide), ks 33 (by decide)]
    exact q
  · unfold LN
    rw [kt 22 (by decide), ks 36 (by decide), ks 32 (by decide), k37 7 (by decide)]
    exact n
  · intro b j b0 b1 j0 j1
    rw [ks 32 (by decide)] at j1
    have P := B b j b0 b1 j0 j1
    have ed : jd (ts τ 18 s w) = jd τ := jd_k2 (kt 0 (by decide)) (fun k hk2 => kt k (by omega))
    have ej : jr (ts τ 18 s w) = jr τ := by
      funext u v
      unfold jr
      rw [kt 0 (by decide), kt 12 (by decide), kt 15 (by decide), kt 16 (by decide)]
    unfold PB at P ⊢
    rw [kt 13 (by decide), ed, ej, k37 0 (by decide)]
    exact P
/-- a weapon can be changed -/
def CNC (σ : TS) (s w : Int) : Prop := 0 ≤ σ 37 1 ∧ σ 30 (2 * w + 1) = 1 ∧ σ 30 (2 * w) = lfen (σ 36) (σ 37 1) s
theorem cnc_i {σ : TS} {π : Int → Int64} {τ : TS} {s w : Int} (L : LW σ π τ) (M : LM σ) (hs : s = 0 ∨ s = 1) (hw : 0 ≤ w ∧ w < σ 37 0) : (((0 ≤ s ∧ s ≤ 1) ∧ 0 ≤ w ∧ w ≤ τ 5 0 - 1) ∧ ¬ τ 17 0 = -1 ∧ τ 19 0 = 0 ∧ τ 3 w = 1 ∧ fa τ (τ 17 0) s = τ 2 w) ↔ CNC σ s w := by
  have a3 := L.1.1.2.2.1
  have a6 := L.1.2.1
  have m1 := M.2.1
  obtain ⟨x1, x2, x3, -⟩ := L.2.2.1 w hw.1 hw.2
  have h3 : τ 3 w = 1 ↔ σ 30 (2 * w + 1) = 1 := by rw [x3]; split <;> omega
  unfold CNC
  by_cases h : 0 ≤ σ 37 1
  · obtain ⟨⟨k1, -⟩, -, -, k7⟩ := L.2.2.2.1.2 h
    have nr := num_rg (b := σ 37 1) ⟨h, m1.2⟩
    have hfa := lfen_p L h m1.2 hs k7
    rw [k1, hfa, h3, x1]
    constructor
    · rintro ⟨-, -, -, z1, z2⟩
      exact ⟨h, z1, z2.symm⟩
    · rintro ⟨-, z1, z2⟩
      exact ⟨⟨by omega, by omega⟩, by omega, a6, z1, z2.symm⟩
  · have e := L.2.2.2.1.1 (by omega)
    constructor
    · rintro ⟨-, z, -⟩
      exact absurd e z
    · rintro ⟨z, -⟩
      exact absurd z h
theorem ch_no {X : GX} {g : LH} {σ σh ρ τ : TS} {π : Int → Int64} {c s w : Int} (L : LW σ π τ) (M : LM σ) (R : RR ρ τ c) (hs : s = 0 ∨ s = 1) (hw : 0 ≤ w ∧ w < σ 37 0) (h : ¬ CNC σ s w) : CT X mL_changed [vR (some (1, 0)), vI (iI s), vI (iI w)] (HW g σh π ρ) (rQ (fun o h' => o = some (vI (iI (-7))) ∧ h' = HW g σh π ρ)) := by
  have a3 := L.1.1.2.2.1
  have m0 := M.1
  have hn := gl2 (p := (0 ≤ s ∧ s ≤ 1) ∧ 0 ≤ w ∧ w ≤ τ 5 0 - 1) (c := 1) (by omega) (fun z => h ((cnc_i L M hs hw).mp z))
  refine CT.mono (fun o h' hq => ?_) (wL_changed (Or.inr hn) (p_change (h := HL σh π g) R (s := s) (w := w) (by unfold rg; omega) (by unfold rg; omega)))
  cases o with
  | inl o =>
    rcases hq with ⟨h1, rfl, rfl⟩ | ⟨h0, -⟩
    · exact ⟨rfl, rfl⟩
    · rw [hn] at h0
      exact absurd h0 (by decide)
  | inr k => exact hq
theorem ch_yes {X : GX} {g : LH} {σ σh ρ τ : TS} {π : Int → Int64} {c s w : Int} (L : LW σ π τ) (M : LM σ) (R : RR ρ τ c) (hs : s = 0 ∨ s = 1) (hw : 0 ≤ w ∧ w < σ 37 0) (h : CNC σ s w) : CT X mL_changed [vR (some (1, 0)), vI (iI s), vI (iI w)] (HW g σh π ρ) (rQ (LQ0 g σh π (σ 37 (2 + s)) (fun r => RR r (ts τ 18 s w) c))) := by
  have a3 := L.1.1.2.2.1
  have m0 := M.1
  obtain ⟨⟨-, k2, k3, -⟩, -⟩ := L.2.2.2.1.2 h.1
  have e : τ 18 s = σ 37 (2 + s) := by
    rcases hs with e | e
    · subst e; exact k2
    · subst e; exact k3
  have hn := gl01 (p := (0 ≤ s ∧ s ≤ 1) ∧ 0 ≤ w ∧ w ≤ τ 5 0 - 1) (by omega) ((cnc_i L M hs hw).mpr h)
  refine CT.mono (fun o h' hq => ?_) (wL_changed (Or.inl hn) (p_change (h := HL σh π g) R (s := s) (w := w) (by unfold rg; omega) (by unfold rg; omega)))
  cases o with
  | inl o =>
    rcases hq with ⟨h1, -⟩ | ⟨h0, rfl, r, hT, rfl⟩
    · exact absurd hn h1
    · exact ⟨by rw [e], r, hT, rfl⟩
  | inr k => exact hq
/-- the tableau can be drawn -/
def D7 (σ : TS) (π : Int → Int64) (i : Nat) : Prop := σ 37 7 = 0 ∧ ∀ j : Nat, j < i → 100 ≤ ltold (σ 30) π (σ 32) j
theorem D7_0 {σ : TS} {π : Int → Int64} : D7 σ π 0 ↔ σ 37 7 = 0 := ⟨fun z => z.1, fun z => ⟨z, fun j hj => absurd hj (by omega)⟩⟩
theorem D7_s {σ : TS} {π : Int → Int64} {i : Nat} : D7 σ π (i + 1) ↔ D7 σ π i ∧ 100 ≤ ltold (σ 30) π (σ 32) i := by
  constructor
  · rintro ⟨z, y⟩
    exact ⟨⟨z, fun j hj => y j (by omega)⟩, y i (by omega)⟩
  · rintro ⟨⟨z, y⟩, x⟩
    refine ⟨z, fun j hj => ?_⟩
    by_cases e : j = i
    · subst e; exact x
    · exact y j (by omega)
theorem D7_d {σ : TS} {π : Int → Int64} {τ : TS} (L : LW σ π τ) (W : WF τ) : ∀ i : Nat, i ≤ 6 → ((∀ j : Nat, j < i → 100 ≤ ltold (σ 30) π (σ 32) j) ↔ dcd τ i)
  | 0, _ => ⟨fun _ => trivial, fun _ j hj => absurd hj (by omega)⟩
  | i + 1, h => by
    have ih := D7_d L W i (by omega)
    have ht := lte_te L W (b := i) (by omega) (by omega)
    have es : slb (i : Int) = i := if_pos (by omega)
    rw [es] at ht
    have tr := lte_rg (w := σ 30) (π := π) (e := σ 32) (b := i)
    have e1 : 100 ≤ ltold (σ 30) π (σ 32) i ↔ ¬ (te τ i).2.2 = -1 := by
      rw [← ht]
      unfold ltold
      omega
    show _ ↔ dcd τ i ∧ ¬ (te τ i).2.2 = -1
    rw [← ih, ← e1]
    constructor
    · intro y
      exact ⟨fun j hj => y j (by omega), y i (by omega)⟩
    · rintro ⟨y, x⟩ j hj
      by_cases e : j = i
      · subst e; exact x
      · exact y j (by omega)
theorem d7_i {σ : TS} {π : Int → Int64} {τ : TS} (L : LW σ π τ) (W : WF τ) : (0 < τ 8 0 ∧ τ 21 0 = 0 ∧ τ 19 0 = 0 ∧ dcd τ (τ 9 0).toNat) ↔ D7 σ π 6 := by
  obtain ⟨⟨a1, a2, a3, a4, a5⟩, a6, a7, a8⟩ := L.1
  rw [a5, show (6 : Int).toNat = 6 from rfl, ← D7_d L W 6 (Nat.le_refl _)]
  unfold D7
  constructor
  · rintro ⟨-, z, -, y⟩
    exact ⟨by omega, y⟩
  · rintro ⟨z, y⟩
    exact ⟨by omega, by omega, a6, y⟩
theorem dr_no {X : GX} {g : LH} {σ σh ρ τ : TS} {π : Int → Int64} {c : Int} (L : LW σ π τ) (R : RR ρ τ c) (h : ¬ D7 σ π 6) : CT X mL_drawn [vR (some (1, 0))] (HW g σh π ρ) (rQ (fun o h' => o = some (vI (iI (-7))) ∧ h' = HW g σh π ρ)) := by
  have hn := gl1 (b := 1) (c := 1) (fun z => h ((d7_i L R.1).mp z))
  refine CT.mono (fun o h' hq => ?_) (wL_drawn (p_drawTableau (h := HL σh π g) R))
  cases o with
  | inl o =>
    rcases hq with ⟨h1, rfl, rfl⟩ | ⟨h0, -⟩
    · exact ⟨rfl, rfl⟩
    · rw [hn] at h0
      exact absurd h0 (by decide)
  | inr k => exact hq
theorem dr_yes {X : GX} {g : LH} {σ σh ρ τ : TS} {π : Int → Int64} {c : Int} (L : LW σ π τ) (R : RR ρ τ c) (h : D7 σ π 6) : CT X mL_drawn [vR (some (1, 0))] (HW g σh π ρ) (rQ (LQ0 g σh π 4 (fun r => RR r (fol (dt4 τ)) c))) := by
  have hn := gl011 ((d7_i L R.1).mpr h)
  refine CT.mono (fun o h' hq => ?_) (wL_drawn (p_drawTableau (h := HL σh π g) R))
  cases o with
  | inl o =>
    rcases hq with ⟨h1, -⟩ | ⟨h0, rfl, r, hT, rfl⟩
    · exact absurd hn h1
    · exact ⟨by rw [L.1.1.2.1]; rfl, r, hT τ R.1 SQ_rfl, rfl⟩
  | inr k => exact hq
theorem lfen_x {x y : Int → Int} {b s : Int} (h : b < 6) : lfen x b s = lfen y b s := by
  have e1 : ¬ 5 < b := by omega
  unfold lfen
  rw [if_neg e1, if_neg e1]
theorem lsm_x {w : Int → Int} {π : Int → Int64} {e x y : Int → Int} {f g : Int} : ∀ i : Nat, i ≤ 6 → lsm w π e x f g i = lsm w π e y f g i
  | 0, _ => rfl
  | i + 1, h => by
    have ih := lsm_x (w := w) (π := π) (e := e) (x := x) (y := y) (f := f) (g := g) i (by omega)
    have h1 : lsd x f i = lsd y f i := by
      unfold lsd
      rw [lfen_x (x := x) (y := y) (b := i) (s := 0) (by omega), lfen_x (x := x) (y := y) (b := i) (s := 1) (by omega)]
    show lsm w π e x f g i + lad g (lte w π e i) (lsd x f i) = lsm w π e y f g i + lad g (lte w π e i) (lsd y f i)
    rw [ih, h1]
theorem lah_x {w : Int → Int} {π : Int → Int64} {e x y : Int → Int} : lah w π e x = lah w π e y := by
  funext a b
  unfold lah
  rw [lsm_x (x := x) (y := y) (f := a) (g := 0) 6 (Nat.le_refl _), lsm_x (x := x) (y := y) (f := a) (g := 1) 6 (Nat.le_refl _), lsm_x (x := x) (y := y) (f := b) (g := 0) 6 (Nat.le_refl _), lsm_x (x := x) (y := y) (f := b) (g := 1) 6 (Nat.le_refl _)]
theorem lcn_x {w : Int → Int} {π : Int → Int64} {e x y : Int → Int} {i : Int} : ∀ m : Nat, lcn w π e x i m = lcn w π e y i m
  | 0 => rfl
  | m + 1 => by
    show lcn w π e x i m + pI (¬ i = (m : Int) ∧ lah w π e x m i) = lcn w π e y i m + pI (¬ i = (m : Int) ∧ lah w π e y m i)
    rw [lcn_x (x := x) (y := y) m, lah_x (x := x) (y := y)]
theorem lrk_x {w : Int → Int} {π : Int → Int64} {e x y : Int → Int} {p : Int} : ∀ m : Nat, lrk w π e x p m = lrk w π e y p m
  | 0 => rfl
  | m + 1 => by
    show (if lcn w π e x m 4 = p then (m : Int) else lrk w π e x p m) = (if lcn w π e y m 4 = p then (m : Int) else lrk w π e y p m)
    rw [lcn_x (x := x) (y := y) 4, lrk_x (x := x) (y := y) m]
theorem lrk_0 {σ : TS} {π : Int → Int64} {τ : TS} (L : LW σ π τ) (W : WF τ) {p : Int} (hp : 0 ≤ p ∧ p ≤ 3) : 0 ≤ lrk (σ 30) π (σ 32) (σ 36) p 4 ∧ lrk (σ 30) π (σ 32) (σ 36) p 4 ≤ 3 := by
  have h := rank_i L W hp
  have r := lrk_rg (w := σ 30) (π := π) (e := σ 32) (x := σ 36) (p := p) 4
  have k := rkF_lt (u := sm τ) (p := p) (n := τ 1 0) (τ 1 0).toNat
  omega
/-- the tableau's four -/
def drS (σ : TS) (r0 r1 r2 r3 : Int) : TS := ts (ts (ts (ts (ts (ts σ 36 4 r0) 36 6 r1) 36 7 r2) 36 5 r3) 37 7 4) 37 1 (-1)
theorem drS_k {σ : TS} {a b d e : Int} {k : Nat} (h : ¬ (k = 36 ∨ k = 37)) : drS σ a b d e k = σ k := by
  unfold drS
  rw [ts_n (by omega), ts_n (by omega), ts_n (by omega), ts_n (by omega), ts_n (by omega), ts_n (by omega)]
theorem drS_37 {σ : TS} {a b d e z : Int} (h : ¬ (z = 1 ∨ z = 7)) : drS σ a b d e 37 z = σ 37 z := by
  unfold drS
  rw [ts_else (by omega), ts_else (by omega), ts_n (by decide), ts_n (by decide), ts_n (by decide), ts_n (by decide)]
theorem drS_36 {σ : TS} {a b d e z : Int} : drS σ a b d e 36 z = if z = 5 then e else if z = 7 then d else if z = 6 then b else if z = 4 then a else σ 36 z := by
  unfold drS
  rw [ts_n (by decide), ts_n (by decide), ts_s, ts_s, ts_s, ts_s]
  rfl
theorem lf_r {σ : TS} {π : Int → Int64} {τ : TS} (L : LW σ π τ) (W : WF τ) {p c : Int} (hc : sq0 (τ 28) 2 c = p + 1) (hp : 0 ≤ p ∧ p ≤ 3) : lf (sm (dt3 τ)) c = lrk (σ 30) π (σ 32) (σ 36) p 4 := by
  have a2 := L.1.1.2.1
  have hl : sq0 (τ 28) (itd (τ 1 0)) c = p + 1 := by rw [a2]; exact hc
  rw [lf_v, hl, if_neg (by omega), ← rank_i L W hp]
  have hS : SU4 (sm (dt3 τ)) (sm τ) (τ 1 0) := fun a a0 a1 => by
    have := SU_3 W a a0 (by omega)
    omega
  rw [show p + 1 - 1 = p by omega, rkF_loc hS _ (by omega)]
theorem d4_v {σ : TS} {π : Int → Int64} {τ : TS} (L : LW σ π τ) (W : WF τ) (h7 : σ 37 7 = 0) : (∀ k, 1 ≤ k → k ≤ 7 → dt4 τ 22 k = drS σ (lrk (σ 30) π (σ 32) (σ 36) 0 4) (lrk (σ 30) π (σ 32) (σ 36) 1 4) (lrk (σ 30) π (σ 32) (σ 36) 2 4) (lrk (σ 30) π (σ 32) (σ 36) 3 4) 36 k) := by
  intro k k0 k1
  have a2 := L.1.1.2.1
  have n := (L.2.2.2.2.2.1.2 h7).1
  have e4 : its 4 = 4 := rfl
  have h22 : dt4 τ 22 k = wl (wz (τ 22) 4) (lf (sm (dt3 τ))) 4 4 k := by rw [d4_22, a2]; rfl
  rw [h22, drS_36]
  have hk : k = 1 ∨ k = 2 ∨ k = 3 ∨ k = 4 ∨ k = 5 ∨ k = 6 ∨ k = 7 := by omega
  have wlo : ∀ z, z < 4 → 1 ≤ z → wl (wz (τ 22) 4) (lf (sm (dt3 τ))) 4 4 z = -1 := fun z z0 z1 => by
    unfold wl wz
    rw [if_neg (by omega), if_pos ⟨z1, z0⟩]
  have whi : ∀ z, 4 ≤ z → z ≤ 7 → wl (wz (τ 22) 4) (lf (sm (dt3 τ))) 4 4 z = lf (sm (dt3 τ)) (z - 4) := fun z z0 z1 => by
    unfold wl
    rw [if_pos (by omega)]
  rcases hk with rfl | rfl | rfl | rfl | rfl | rfl | rfl
  · rw [wlo 1 (by decide) (by decide), if_neg (by decide), if_neg (by decide), if_neg (by decide), if_neg (by decide), n]
  · rw [wlo 2 (by decide) (by decide), if_neg (by decide), if_neg (by decide), if_neg (by decide), if_neg (by decide), n]
  · rw [wlo 3 (by decide) (by decide), if_neg (by decide), if_neg (by decide), if_neg (by decide), if_neg (by decide), n]
  · rw [whi 4 (by decide) (by decide), if_neg (by decide), if_neg (by decide), if_neg (by decide), if_pos rfl, lf_r L W (p := 0) rfl (by decide)]
  · rw [whi 5 (by decide) (by decide), if_pos rfl, lf_r L W (p := 3) rfl (by decide)]
  · rw [whi 6 (by decide) (by decide), if_neg (by decide), if_neg (by decide), if_pos rfl, lf_r L W (p := 1) rfl (by decide)]
  · rw [whi 7 (by decide) (by decide), if_neg (by decide), if_pos rfl, lf_r L W (p := 2) rfl (by decide)]
theorem LW_d {σ : TS} {π : Int → Int64} {τ : TS} (L : LW σ π τ) (W : WF τ) (h7 : σ 37 7 = 0) : LW (drS σ (lrk (σ 30) π (σ 32) (σ 36) 0 4) (lrk (σ 30) π (σ 32) (σ 36) 1 4) (lrk (σ 30) π (σ 32) (σ 36) 2 4) (lrk (σ 30) π (σ 32) (σ 36) 3 4)) π (dt4 τ) := by
  have hv := d4_v L W h7
  have q0 := lrk_0 L W (p := 0) (by decide)
  have q1 := lrk_0 L W (p := 1) (by decide)
  have q2 := lrk_0 L W (p := 2) (by decide)
  have q3 := lrk_0 L W (p := 3) (by decide)
  obtain ⟨⟨⟨a1, a2, a3, a4, a5⟩, a6, a7, a8⟩, p, x, ⟨g1, g2⟩, q, n, B⟩ := L
  generalize lrk (σ 30) π (σ 32) (σ 36) 0 4 = r0 at hv q0 ⊢
  generalize lrk (σ 30) π (σ 32) (σ 36) 1 4 = r1 at hv q1 ⊢
  generalize lrk (σ 30) π (σ 32) (σ 36) 2 4 = r2 at hv q2 ⊢
  generalize lrk (σ 30) π (σ 32) (σ 36) 3 4 = r3 at hv q3 ⊢
  have s1 : drS σ r0 r1 r2 r3 37 1 = -1 := ts_self
  have s7 : drS σ r0 r1 r2 r3 37 7 = 4 := by
    unfold drS
    rw [ts_else (by decide)]
    exact ts_self
  refine ⟨⟨⟨?_, ?_, ?_, ?_, ?_⟩, ?_, ?_, ?_⟩, ?_, ?_, ⟨?_, ?_⟩, ?_, ⟨?_, ?_⟩, ?_⟩
  · rw [d4_k (by decide), drS_37 (by decide)]; exact a1
  · rw [d4_k (by decide)]; exact a2
  · rw [d4_k (by decide), drS_37 (by decide)]; exact a3
  · rw [d4_k (by decide)]; exact a4
  · rw [d4_k (by decide)]; exact a5
  · rw [d4_k (by decide)]; exact a6
  · rw [d4_21, s7, a2]; rfl
  · rw [d4_k (by decide), drS_37 (by decide)]; exact a8
  · unfold LPo
    rw [d4_k (k := 6) (by decide), d4_k (k := 7) (by decide)]
    exact p
  · unfold LX
    rw [d4_k (k := 2) (by decide), d4_k (k := 3) (by decide), d4_k (k := 4) (by decide), drS_k (k := 30) (by decide), drS_37 (z := 0) (by decide)]
    exact x
  · intro _
    exact d4_17
  · intro h
    rw [s1] at h
    exact absurd h (by decide)
  · unfold LE
    rw [d4_k (k := 10) (by decide), d4_k (k := 11) (by decide), drS_k (k := 32) (by decide), drS_k (k := 33) (by decide)]
    exact q
  · intro _
    refine ⟨hv, fun k k0 k1 => ?_⟩
    rw [drS_36]
    split
    · omega
    · split
      · omega
      · split
        · omega
        · split <;> omega
  · intro h
    rw [s7] at h
    exact absurd h (by decide)
  · intro b j b0 b1 j0 j1
    rw [drS_k (k := 32) (by decide)] at j1
    have P := B b j b0 b1 j0 j1
    have ed : jd (dt4 τ) = jd τ := jd_k2 (d4_k (by decide)) (fun k hk2 => d4_k (by omega))
    have ej : jr (dt4 τ) = jr τ := by
      funext u v
      unfold jr
      rw [d4_k (k := 0) (by decide), d4_k (k := 12) (by decide), d4_k (k := 15) (by decide), d4_k (k := 16) (by decide)]
    unfold PB at P ⊢
    rw [d4_k (k := 13) (by decide), ed, ej, drS_37 (by decide)]
    exact P
theorem SQ_d {σ : TS} {π : Int → Int64} {τ : TS} (L : LW σ π τ) (W : WF τ) (h7 : σ 37 7 = 0) : SQ (fol (dt4 τ)) (dt4 τ) := by
  have hv := d4_v L W h7
  obtain ⟨n1, n2⟩ := L.2.2.2.2.2.1.2 h7
  have v : ∀ k, 1 ≤ k → k ≤ 3 → dt4 τ 22 k = -1 := fun k k0 k1 => by
    rw [hv k k0 (by omega), drS_36, if_neg (by omega), if_neg (by omega), if_neg (by omega), if_neg (by omega), n1]
  have t : ∀ k, 1 ≤ k → k ≤ 3 → (te (dt4 τ) (66 + k)).2.2 = -1 := fun k k0 k1 => by
    have q := (L.2.2.2.2.1 (5 + k) (by omega) (by omega)).1
    have e : slb (5 + k) = 66 + k := by unfold slb; rw [if_neg (by omega)]; omega
    rw [e, n2 (5 + k) (by omega) (by omega)] at q
    have e10 : dt4 τ 10 (66 + k) = 0 := by rw [d4_k (by decide)]; exact q
    unfold te
    rw [e10]
    rfl
  refine fol_st (WF_d4 W) (fun k k0 k1 => ?_)
  rw [d4_21, L.1.1.2.1] at k1
  have k3 : k ≤ 3 := by have : its 4 = 4 := rfl; omega
  rw [v k k0 k3]
  unfold fwin fnow
  rw [t k k0 k3]
  by_cases e : k = 1
  · subst e
    have v2 := v 2 (by decide) (by decide)
    have v3 := v 3 (by decide) (by decide)
    rw [show (2 : Int) * 1 = 2 from rfl, show (2 : Int) + 1 = 3 from rfl, v2, v3]
    rfl
  · have l0 := lrk_0 L W (p := 0) (by decide)
    have l1 := lrk_0 L W (p := 1) (by decide)
    have l2 := lrk_0 L W (p := 2) (by decide)
    have l3 := lrk_0 L W (p := 3) (by decide)
    have hp : ∀ z, 4 ≤ z → z ≤ 7 → 0 ≤ dt4 τ 22 z := fun z z0 z1 => by
      rw [hv z (by omega) z1, drS_36]
      split
      · omega
      · split
        · omega
        · split
          · omega
          · split <;> omega
    rw [if_pos ⟨hp (2 * k) (by omega) (by omega), hp (2 * k + 1) (by omega) (by omega)⟩, if_pos rfl]
set_option maxRecDepth 100000 in
set_option maxHeartbeats 4000000 in
theorem act_dl {X : GX} {g : LH} {σ ρ : TS} {π : Int → Int64} {q w z : Int} {k n : Nat} {Q : LO → LH → Prop} (W : WL σ) (kk : J X mL_acts 546 [some (vR (some (1, 0))), some (vR (some (30, 0))), some (vR (some (31, 0))), some (vR (some (32, 0))), some (vR (some (33, 0))), some (vR (some (34, 0))), some (vR (some (35, 0))), some (vR (some (36, 0))), some (vR (some (37, 0))), some (vR (some tScr)), some (vI (iI q)), some (vI (iI w)), some (vI (iI z)), some (vI (iI (pI (D7 σ π 6)))), none, none, none, none] [] (HW g σ π ρ) k n Q) : ∀ (a i : Nat), i + a = 6 → J X mL_acts 508 [some (vR (some (1, 0))), some (vR (some (30, 0))), some (vR (some (31, 0))), some (vR (some (32, 0))), some (vR (some (33, 0))), some (vR (some (34, 0))), some (vR (some (35, 0))), some (vR (some (36, 0))), some (vR (some (37, 0))), some (vR (some tScr)), some (vI (iI q)), some (vI (iI w)), some (vI (iI z)), some (vI (iI (pI (D7 σ π i)))), some (vI (iI i)), none, none, none] [] (HW g σ π ρ) k n Q := by
  intro a
  induction a with
  | zero =>
    intro i hi
    have e6 : i = 6 := by omega
    subst e6
    refine J_iload (M := mL_acts) dL_acts_508 rfl ?_
    refine Z_bipush (M := mL_acts) dL_acts_510 rfl ?_
    refine Z_ic_ge (M := mL_acts) (tgt := 546) (by first | assumption | exact pI_rg _ | (unfold rg; omega)) (by first | assumption | exact pI_rg _ | (unfold rg; omega)) dL_acts_512 (by decide) (fun c_512 => ?_) (fun c_512 => ?_)
    · exact J_sub kk (And.intro rfl (And.intro rfl (And.intro rfl (And.intro rfl (And.intro rfl (And.intro rfl (And.intro rfl (And.intro rfl (And.intro rfl (And.intro rfl (And.intro rfl (And.intro rfl (And.intro rfl (And.intro rfl trivial))))))))))))))
    · omega
  | succ a ih =>
    intro i hi
    have tr := ltold_rg (w := σ 30) (π := π) (e := σ 32) (b := i)
    refine J_iload (M := mL_acts) dL_acts_508 rfl ?_
    refine Z_bipush (M := mL_acts) dL_acts_510 rfl ?_
    refine Z_ic_ge (M := mL_acts) (tgt := 546) (by first | assumption | exact pI_rg _ | (unfold rg; omega)) (by first | assumption | exact pI_rg _ | (unfold rg; omega)) dL_acts_512 (by decide) (fun c_512 => ?_) (fun c_512 => ?_)
    · omega
    · refine Z_bj (M := mL_acts) (pcB := 538) (D7 σ π (i + 1)) (fun hj_538 => ?_) ?_
      · refine J_iload (M := mL_acts) dL_acts_515 rfl ?_
        first
          | refine Z_pf (M := mL_acts) (tgt := 537) dL_acts_517 (by decide) (fun c_517 => ?_) (fun c_517 => ?_)
          | refine Z_if_eq (M := mL_acts) (tgt := 537) (by first | assumption | exact pI_rg _ | (unfold rg; omega)) dL_acts_517 (by decide) (fun c_517 => ?_) (fun c_517 => ?_)
        · refine Z_iconst (M := mL_acts) dL_acts_537 ?_
          exact hj_538 _ (pI_f (by first | exact D7_s.mpr ⟨by assumption, by omega⟩ | exact fun y => absurd (D7_s.mp y).1 (by assumption) | exact fun y => absurd (D7_s.mp y).2 (by omega))).symm
        · refine J_aload_n (M := mL_acts) dL_acts_520 rfl rfl ?_
          refine J_aload_n (M := mL_acts) dL_acts_521 rfl rfl ?_
          refine J_aload_n (M := mL_acts) dL_acts_522 rfl rfl ?_
          refine J_iload (M := mL_acts) dL_acts_523 rfl ?_
          refine M_callS (M := mL_acts) (as := [_, _, _, _]) dL_acts_525 ca_L_23 ⟨by decide, by decide⟩ rfl (Nat.le_of_ble_eq_true rfl) rfl rfl (rL_told lw30 lw31 lw32 (wl30 W) (wl32 W) (by omega)) ?_
          refine Z_bipush (M := mL_acts) dL_acts_528 rfl ?_
          refine Z_ic_lt (M := mL_acts) (tgt := 537) (by unfold rg; omega) (by unfold rg; omega) dL_acts_530 (by decide) (fun c_530 => ?_) (fun c_530 => ?_)
          · refine Z_iconst (M := mL_acts) dL_acts_537 ?_
            exact hj_538 _ (pI_f (by first | exact D7_s.mpr ⟨by assumption, by omega⟩ | exact fun y => absurd (D7_s.mp y).1 (by assumption) | exact fun y => absurd (D7_s.mp y).2 (by omega))).symm
          · refine Z_iconst (M := mL_acts) dL_acts_533 ?_
            refine J_goto (M := mL_acts) (tgt := 538) dL_acts_534 (by decide) ?_
            exact hj_538 _ (pI_t (by first | exact D7_s.mpr ⟨by assumption, by omega⟩ | exact fun y => absurd (D7_s.mp y).1 (by assumption) | exact fun y => absurd (D7_s.mp y).2 (by omega))).symm
      refine J_istore (M := mL_acts) dL_acts_538 (by decide) ?_
      refine Z_iinc (M := mL_acts) dL_acts_540 rfl (by decide) ?_
      refine J_goto (M := mL_acts) (tgt := 508) dL_acts_543 (by decide) ?_
      exact J_sub (ih (i + 1) (by omega)) (And.intro rfl (And.intro rfl (And.intro rfl (And.intro rfl (And.intro rfl (And.intro rfl (And.intro rfl (And.intro rfl (And.intro rfl (And.intro rfl (And.intro rfl (And.intro rfl (And.intro rfl (And.intro rfl (And.intro (vz (by push_cast; omega)) trivial)))))))))))))))

set_option maxRecDepth 100000 in
set_option maxHeartbeats 4000000 in
theorem act_d {X : GX} {g : LH} {σ ρ τ : TS} {π : Int → Int64} {c q w z : Int} (I : IV σ π g ρ τ c) (hc : c ≤ 199) (hz : 0 ≤ z ∧ z ≤ 10000000) : J X mL_acts 490 [some (vR (some (1, 0))), some (vR (some (30, 0))), some (vR (some (31, 0))), some (vR (some (32, 0))), some (vR (some (33, 0))), some (vR (some (34, 0))), some (vR (some (35, 0))), some (vR (some (36, 0))), some (vR (some (37, 0))), some (vR (some tScr)), some (vI (iI q)), some (vI (iI w)), some (vI (iI z)), none, none, none, none, none] [] (HW g σ π ρ) 60 420 (rQ (KQ (c + 1))) := by
  obtain ⟨L, W, M, G, R, d8, dc⟩ := id I
  obtain ⟨m0, m1, m2, m3, m4, m6, m7, m9⟩ := id M
  refine Z_bj (M := mL_acts) (pcB := 503) (D7 σ π 0) (fun hj_503 => ?_) ?_
  · refine J_aload (M := mL_acts) dL_acts_490 rfl ?_
    refine Z_bipush (M := mL_acts) dL_acts_492 rfl ?_
    refine L_iald (M := mL_acts) (kf := 37) (N := 10) dL_acts_494 (by decide) rfl (by decide) (by omega) (by omega) ?_
    refine Z_if_ne (M := mL_acts) (tgt := 502) (by unfold rg; omega) dL_acts_495 (by decide) (fun c_495 => ?_) (fun c_495 => ?_)
    · refine Z_iconst (M := mL_acts) dL_acts_502 ?_
      exact hj_503 _ (pI_f (by first | exact D7_0.mpr (by omega) | exact fun y => absurd (D7_0.mp y) (by omega))).symm
    · refine Z_iconst (M := mL_acts) dL_acts_498 ?_
      refine J_goto (M := mL_acts) (tgt := 503) dL_acts_499 (by decide) ?_
      exact hj_503 _ (pI_t (by first | exact D7_0.mpr (by omega) | exact fun y => absurd (D7_0.mp y) (by omega))).symm
  refine J_istore (M := mL_acts) dL_acts_503 (by decide) ?_
  refine Z_iconst (M := mL_acts) dL_acts_505 ?_
  refine J_istore (M := mL_acts) dL_acts_506 (by decide) ?_
  refine J_sub (M := mL_acts) (act_dl W ?_ 6 0 rfl) (And.intro rfl (And.intro rfl (And.intro rfl (And.intro rfl (And.intro rfl (And.intro rfl (And.intro rfl (And.intro rfl (And.intro rfl (And.intro rfl (And.intro rfl (And.intro rfl (And.intro rfl (And.intro rfl (And.intro rfl trivial)))))))))))))))
  by_cases hD : D7 σ π 6
  · refine J_iload (M := mL_acts) dL_acts_546 rfl ?_
    first
      | refine Z_pf (M := mL_acts) (tgt := 620) dL_acts_548 (by decide) (fun c_548 => ?_) (fun c_548 => ?_)
      | refine Z_if_eq (M := mL_acts) (tgt := 620) (by first | assumption | exact pI_rg _ | (unfold rg; omega)) dL_acts_548 (by decide) (fun c_548 => ?_) (fun c_548 => ?_)
    · exact absurd hD c_548
    · have h7 : σ 37 7 = 0 := hD.1
      have q0 := lrk_0 L R.1 (p := 0) (by decide)
      have q1 := lrk_0 L R.1 (p := 1) (by decide)
      have q2 := lrk_0 L R.1 (p := 2) (by decide)
      have q3 := lrk_0 L R.1 (p := 3) (by decide)
      have W4 : WL (ts σ 36 4 (lrk (σ 30) π (σ 32) (σ 36) 0 4)) := WL_ts W (Or.inr (show -1 ≤ lrk (σ 30) π (σ 32) (σ 36) 0 4 ∧ lrk (σ 30) π (σ 32) (σ 36) 0 4 ≤ 3 by omega))
      have W6 : WL (ts (ts σ 36 4 (lrk (σ 30) π (σ 32) (σ 36) 0 4)) 36 6 (lrk (σ 30) π (σ 32) (σ 36) 1 4)) := WL_ts W4 (Or.inr (show -1 ≤ lrk (σ 30) π (σ 32) (σ 36) 1 4 ∧ lrk (σ 30) π (σ 32) (σ 36) 1 4 ≤ 3 by omega))
      have W7 : WL (ts (ts (ts σ 36 4 (lrk (σ 30) π (σ 32) (σ 36) 0 4)) 36 6 (lrk (σ 30) π (σ 32) (σ 36) 1 4)) 36 7 (lrk (σ 30) π (σ 32) (σ 36) 2 4)) := WL_ts W6 (Or.inr (show -1 ≤ lrk (σ 30) π (σ 32) (σ 36) 2 4 ∧ lrk (σ 30) π (σ 32) (σ 36) 2 4 ≤ 3 by omega))
      have W5 : WL (ts (ts (ts (ts σ 36 4 (lrk (σ 30) π (σ 32) (σ 36) 0 4)) 36 6 (lrk (σ 30) π (σ 32) (σ 36) 1 4)) 36 7 (lrk (σ 30) π (σ 32) (σ 36) 2 4)) 36 5 (lrk (σ 30) π (σ 32) (σ 36) 3 4)) := WL_ts W7 (Or.inr (show -1 ≤ lrk (σ 30) π (σ 32) (σ 36) 3 4 ∧ lrk (σ 30) π (σ 32) (σ 36) 3 4 ≤ 3 by omega))
      have WD : WL (drS σ (lrk (σ 30) π (σ 32) (σ 36) 0 4) (lrk (σ 30) π (σ 32) (σ 36) 1 4) (lrk (σ 30) π (σ 32) (σ 36) 2 4) (lrk (σ 30) π (σ 32) (σ 36) 3 4)) := WL_ts (WL_ts W5 (Or.inl rfl)) (Or.inl rfl)
      have MD : LM (drS σ (lrk (σ 30) π (σ 32) (σ 36) 0 4) (lrk (σ 30) π (σ 32) (σ 36) 1 4) (lrk (σ 30) π (σ 32) (σ 36) 2 4) (lrk (σ 30) π (σ 32) (σ 36) 3 4)) := by
        have s1 : (drS σ (lrk (σ 30) π (σ 32) (σ 36) 0 4) (lrk (σ 30) π (σ 32) (σ 36) 1 4) (lrk (σ 30) π (σ 32) (σ 36) 2 4) (lrk (σ 30) π (σ 32) (σ 36) 3 4)) 37 1 = -1 := ts_self
        have s7 : (drS σ (lrk (σ 30) π (σ 32) (σ 36) 0 4) (lrk (σ 30) π (σ 32) (σ 36) 1 4) (lrk (σ 30) π (σ 32) (σ 36) 2 4) (lrk (σ 30) π (σ 32) (σ 36) 3 4)) 37 7 = 4 := by
          unfold drS
          rw [ts_else (by decide)]
          exact ts_self
        unfold LM
        rw [s1, s7, drS_37 (by decide), drS_37 (by decide), drS_37 (by decide), drS_37 (by decide), drS_37 (by decide), drS_37 (by decide)]
        omega
      refine J_aload_n (M := mL_acts) dL_acts_551 rfl rfl ?_
      refine J_aload_n (M := mL_acts) dL_acts_552 rfl rfl ?_
      refine J_aload_n (M := mL_acts) dL_acts_553 rfl rfl ?_
      refine J_aload (M := mL_acts) dL_acts_554 rfl ?_
      refine Z_iconst (M := mL_acts) dL_acts_556 ?_
      refine M_callS (M := mL_acts) (as := [_, _, _, _, _]) dL_acts_557 ca_L_104 ⟨by decide, by decide⟩ rfl (Nat.le_of_ble_eq_true rfl) rfl rfl (rL_ranked lw30 lw31 lw32 (wl30 W) (wl32 W) lw36 (wl36 W) (by unfold rg; omega)) ?_
      refine J_istore (M := mL_acts) dL_acts_560 (by decide) ?_
      refine J_aload (M := mL_acts) dL_acts_562 rfl ?_
      refine Z_iconst (M := mL_acts) dL_acts_564 ?_
      refine J_aload_n (M := mL_acts) dL_acts_565 rfl rfl ?_
      refine J_aload_n (M := mL_acts) dL_acts_566 rfl rfl ?_
      refine J_aload_n (M := mL_acts) dL_acts_567 rfl rfl ?_
      refine J_aload (M := mL_acts) dL_acts_568 rfl ?_
      refine Z_iconst (M := mL_acts) dL_acts_570 ?_
      refine M_callS (M := mL_acts) (as := [_, _, _, _, _]) dL_acts_571 ca_L_104 ⟨by decide, by decide⟩ rfl (Nat.le_of_ble_eq_true rfl) rfl rfl (rL_ranked lw30 lw31 lw32 (wl30 W) (wl32 W) lw36 (wl36 W) (by unfold rg; omega)) ?_
      refine L_iast (M := mL_acts) (kf := 36) (N := 8) dL_acts_574 (by decide) rfl (by decide) (by omega) (by omega) ?_
      refine J_aload (M := mL_acts) dL_acts_575 rfl ?_
      refine Z_bipush (M := mL_acts) dL_acts_577 rfl ?_
      refine J_aload_n (M := mL_acts) dL_acts_579 rfl rfl ?_
      refine J_aload_n (M := mL_acts) dL_acts_580 rfl rfl ?_
      refine J_aload_n (M := mL_acts) dL_acts_581 rfl rfl ?_
      refine J_aload (M := mL_acts) dL_acts_582 rfl ?_
      refine Z_iconst (M := mL_acts) dL_acts_584 ?_
      refine M_callS (M := mL_acts) (as := [_, _, _, _, _]) dL_acts_585 ca_L_104 ⟨by decide, by decide⟩ rfl (Nat.le_of_ble_eq_true rfl) rfl rfl (rL_ranked lw30 lw31 lw32 (wl30 W4) (wl32 W4) lw36 (wl36 W4) (by unfold rg; omega)) ?_
      refine Z_eq (M := mL_acts) (b := (lrk (σ 30) π (σ 32) (σ 36) 1 4)) (lrk_x 4) ?_
      refine L_iast (M := mL_acts) (kf := 36) (N := 8) dL_acts_588 (by decide) rfl (by decide) (by omega) (by omega) ?_
      refine J_aload (M := mL_acts) dL_acts_589 rfl ?_
      refine Z_bipush (M := mL_acts) dL_acts_591 rfl ?_
      refine J_aload_n (M := mL_acts) dL_acts_593 rfl rfl ?_
      refine J_aload_n (M := mL_acts) dL_acts_594 rfl rfl ?_
      refine J_aload_n (M := mL_acts) dL_acts_595 rfl rfl ?_
      refine J_aload (M := mL_acts) dL_acts_596 rfl ?_
      refine Z_iconst (M := mL_acts) dL_acts_598 ?_
      refine M_callS (M := mL_acts) (as := [_, _, _, _, _]) dL_acts_599 ca_L_104 ⟨by decide, by decide⟩ rfl (Nat.le_of_ble_eq_true rfl) rfl rfl (rL_ranked lw30 lw31 lw32 (wl30 W6) (wl32 W6) lw36 (wl36 W6) (by unfold rg; omega)) ?_
      refine Z_eq (M := mL_acts) (b := (lrk (σ 30) π (σ 32) (σ 36) 2 4)) (lrk_x 4) ?_
      refine L_iast (M := mL_acts) (kf := 36) (N := 8) dL_acts_602 (by decide) rfl (by decide) (by omega) (by omega) ?_
      refine J_aload (M := mL_acts) dL_acts_603 rfl ?_
      refine Z_iconst (M := mL_acts) dL_acts_605 ?_
      refine J_iload (M := mL_acts) dL_acts_606 rfl ?_
      refine L_iast (M := mL_acts) (kf := 36) (N := 8) dL_acts_608 (by decide) rfl (by decide) (by omega) (by omega) ?_
      refine J_aload (M := mL_acts) dL_acts_609 rfl ?_
      refine Z_bipush (M := mL_acts) dL_acts_611 rfl ?_
      refine Z_iconst (M := mL_acts) dL_acts_613 ?_
      refine L_iast (M := mL_acts) (kf := 37) (N := 10) dL_acts_614 (by decide) rfl (by decide) (by omega) (by omega) ?_
      refine J_aload (M := mL_acts) dL_acts_615 rfl ?_
      refine Z_iconst (M := mL_acts) dL_acts_617 ?_
      refine Z_iconst (M := mL_acts) dL_acts_618 ?_
      refine L_iast (M := mL_acts) (kf := 37) (N := 10) dL_acts_619 (by decide) rfl (by decide) (by omega) (by omega) ?_
      rw [show ts (ts (ts (ts (ts (ts σ 36 4 (lrk (σ 30) π (σ 32) (σ 36) 0 4)) 36 6 (lrk (σ 30) π (σ 32) (σ 36) 1 4)) 36 7 (lrk (σ 30) π (σ 32) (σ 36) 2 4)) 36 5 (lrk (σ 30) π (σ 32) (σ 36) 3 4)) 37 7 4) 37 1 (-1) = (drS σ (lrk (σ 30) π (σ 32) (σ 36) 0 4) (lrk (σ 30) π (σ 32) (σ 36) 1 4) (lrk (σ 30) π (σ 32) (σ 36) 2 4) (lrk (σ 30) π (σ 32) (σ 36) 3 4)) from rfl]
      refine J_aload_n (M := mL_acts) dL_acts_620 rfl rfl ?_
      refine J_callW (M := mL_acts) (as := [_]) dL_acts_621 ca_L_211 ⟨by decide, by decide⟩ rfl (Nat.le_of_ble_eq_true rfl) (k' := 0) (n' := 0) (by decide) (by decide) (dr_yes L R hD) (fun v_ h_ hv_ => ?_)
      obtain ⟨rfl, r2, R2, rfl⟩ := hv_
      refine J_iload (M := mL_acts) dL_acts_624 rfl ?_
      first
        | refine Z_pf (M := mL_acts) (tgt := 633) dL_acts_626 (by decide) (fun c_626 => ?_) (fun c_626 => ?_)
        | refine Z_if_eq (M := mL_acts) (tgt := 633) (by first | assumption | exact pI_rg _ | (unfold rg; omega)) dL_acts_626 (by decide) (fun c_626 => ?_) (fun c_626 => ?_)
      · exact absurd hD c_626
      · refine Z_iconst (M := mL_acts) dL_acts_629 ?_
        refine J_goto (M := mL_acts) (tgt := 635) dL_acts_630 (by decide) ?_
        refine Z_ic_ne (M := mL_acts) (tgt := 642) (by unfold rg; omega) (by unfold rg; omega) dL_acts_635 (by decide) (fun c_635 => ?_) (fun c_635 => ?_)
        · exact absurd rfl c_635
        · refine Z_iconst (M := mL_acts) dL_acts_638 ?_
          refine J_goto (M := mL_acts) (tgt := 643) dL_acts_639 (by decide) ?_
          refine J_zret (M := mL_acts) dL_acts_643 rfl (by first | exact pI_zb _ | exact zb_of (Or.inl rfl) | exact zb_of (Or.inr rfl) | assumption) ?_
          exact ⟨rfl, (drS σ (lrk (σ 30) π (σ 32) (σ 36) 0 4) (lrk (σ 30) π (σ 32) (σ 36) 1 4) (lrk (σ 30) π (σ 32) (σ 36) 2 4) (lrk (σ 30) π (σ 32) (σ 36) 3 4)), π, g, r2, fol (dt4 τ), rfl, LW_SQ (SQ_d L R.1 h7) (LW_d L R.1 h7), WD, MD, G, RR_mono (by omega) R2, by rw [drS_37 (by decide)]; omega, by omega⟩
  · refine J_iload (M := mL_acts) dL_acts_546 rfl ?_
    first
      | refine Z_pf (M := mL_acts) (tgt := 620) dL_acts_548 (by decide) (fun c_548 => ?_) (fun c_548 => ?_)
      | refine Z_if_eq (M := mL_acts) (tgt := 620) (by first | assumption | exact pI_rg _ | (unfold rg; omega)) dL_acts_548 (by decide) (fun c_548 => ?_) (fun c_548 => ?_)
    · refine J_aload_n (M := mL_acts) dL_acts_620 rfl rfl ?_
      refine J_callW (M := mL_acts) (as := [_]) dL_acts_621 ca_L_211 ⟨by decide, by decide⟩ rfl (Nat.le_of_ble_eq_true rfl) (k' := 0) (n' := 0) (by decide) (by decide) (dr_no L R hD) (fun v_ h_ hv_ => ?_)
      obtain ⟨rfl, rfl⟩ := hv_
      refine J_iload (M := mL_acts) dL_acts_624 rfl ?_
      first
        | refine Z_pf (M := mL_acts) (tgt := 633) dL_acts_626 (by decide) (fun c_626 => ?_) (fun c_626 => ?_)
        | refine Z_if_eq (M := mL_acts) (tgt := 633) (by first | assumption | exact pI_rg _ | (unfold rg; omega)) dL_acts_626 (by decide) (fun c_626 => ?_) (fun c_626 => ?_)
      · refine Z_bipush (M := mL_acts) dL_acts_633 rfl ?_
        refine Z_ic_ne (M := mL_acts) (tgt := 642) (by unfold rg; omega) (by unfold rg; omega) dL_acts_635 (by decide) (fun c_635 => ?_) (fun c_635 => ?_)
        · exact absurd rfl c_635
        · refine Z_iconst (M := mL_acts) dL_acts_638 ?_
          refine J_goto (M := mL_acts) (tgt := 643) dL_acts_639 (by decide) ?_
          refine J_zret (M := mL_acts) dL_acts_643 rfl (by first | exact pI_zb _ | exact zb_of (Or.inl rfl) | exact zb_of (Or.inr rfl) | assumption) ?_
          exact ⟨rfl, σ, π, g, ρ, τ, rfl, IV_s I hc⟩
      · exact absurd c_626 hD
    · exact absurd c_548 hD

set_option maxRecDepth 100000 in
set_option maxHeartbeats 4000000 in
theorem act_c {X : GX} {g : LH} {σ ρ τ : TS} {π : Int → Int64} {c q w z : Int} (I : IV σ π g ρ τ c) (hc : c ≤ 199) (hz : 0 ≤ z ∧ z ≤ 10000000) (h0 : 0 < σ 37 0) : J X mL_acts 370 [some (vR (some (1, 0))), some (vR (some (30, 0))), some (vR (some (31, 0))), some (vR (some (32, 0))), some (vR (some (33, 0))), some (vR (some (34, 0))), some (vR (some (35, 0))), some (vR (some (36, 0))), some (vR (some (37, 0))), some (vR (some tScr)), some (vI (iI q)), some (vI (iI w)), some (vI (iI z)), none, none, none, none, none] [] (HW g σ π ρ) 60 420 (rQ (KQ (c + 1))) := by
  obtain ⟨L, W, M, G, R, d8, dc⟩ := id I
  obtain ⟨m0, m1, m2, m3, m4, m6, m7, m9⟩ := id M
  have hlf : ∀ s : Int, 0 ≤ σ 37 1 → -1 ≤ lfen (σ 36) (σ 37 1) s ∧ lfen (σ 36) (σ 37 1) s ≤ 3 := fun s h => lfen_rg (wl36 W) h
  refine J_iload (M := mL_acts) dL_acts_370 rfl ?_
  refine Z_iconst (M := mL_acts) dL_acts_372 ?_
  refine Z_irem (M := mL_acts) (by omega) (by first | assumption | exact pI_rg _ | (unfold rg; omega)) (by decide) (by first | assumption | exact pI_rg _ | (unfold rg; omega)) dL_acts_373 ?_
  obtain ⟨s, hs⟩ : ∃ s, s = z % 2 := ⟨_, rfl⟩
  have hs2 : s = 0 ∨ s = 1 := by omega
  refine Z_eq (M := mL_acts) hs.symm ?_
  refine J_istore (M := mL_acts) dL_acts_374 (by decide) ?_
  refine J_iload (M := mL_acts) dL_acts_376 rfl ?_
  refine Z_iconst (M := mL_acts) dL_acts_378 ?_
  refine Z_idiv (M := mL_acts) (by omega) (by first | assumption | exact pI_rg _ | (unfold rg; omega)) (by decide) (by first | assumption | exact pI_rg _ | (unfold rg; omega)) dL_acts_379 ?_
  refine J_aload (M := mL_acts) dL_acts_380 rfl ?_
  refine Z_iconst (M := mL_acts) dL_acts_382 ?_
  refine L_iald (M := mL_acts) (kf := 37) (N := 10) dL_acts_383 (by decide) rfl (by decide) (by omega) (by omega) ?_
  refine Z_irem (M := mL_acts) (by omega) (by unfold rg; omega) (by omega) (by unfold rg; omega) dL_acts_384 ?_
  obtain ⟨y, hy⟩ : ∃ y, y = (z / 2) % σ 37 0 := ⟨_, rfl⟩
  have y0 : 0 ≤ y := by rw [hy]; exact Int.emod_nonneg _ (by omega)
  have y1 : y < σ 37 0 := by rw [hy]; exact Int.emod_lt_of_pos _ (by omega)
  refine Z_eq (M := mL_acts) hy.symm ?_
  refine J_istore (M := mL_acts) dL_acts_385 (by decide) ?_
  have hls := hlf s
  have c1 := wl30 W (2 * y + 1)
  have c2 := wl30 W (2 * y)
  refine Z_bj (M := mL_acts) (pcB := 431) (CNC σ s y) (fun hj_431 => ?_) ?_
  · refine J_aload (M := mL_acts) dL_acts_387 rfl ?_
    refine Z_iconst (M := mL_acts) dL_acts_389 ?_
    refine L_iald (M := mL_acts) (kf := 37) (N := 10) dL_acts_390 (by decide) rfl (by decide) (by omega) (by omega) ?_
    refine Z_if_lt (M := mL_acts) (tgt := 430) (by first | assumption | exact pI_rg _ | (unfold rg; omega)) dL_acts_391 (by decide) (fun c_391 => ?_) (fun c_391 => ?_)
    · refine Z_iconst (M := mL_acts) dL_acts_430 ?_
      exact hj_431 _ (pI_f (by unfold CNC; omega)).symm
    · refine J_aload_n (M := mL_acts) dL_acts_394 rfl rfl ?_
      refine Z_iconst (M := mL_acts) dL_acts_395 ?_
      refine J_iload (M := mL_acts) dL_acts_396 rfl ?_
      refine Z_imul (M := mL_acts) dL_acts_398 ?_
      refine Z_iconst (M := mL_acts) dL_acts_399 ?_
      refine Z_iadd (M := mL_acts) dL_acts_400 ?_
      refine L_iald (M := mL_acts) (kf := 30) (N := 32) dL_acts_401 (by decide) rfl (by decide) (by omega) (by omega) ?_
      refine Z_iconst (M := mL_acts) dL_acts_402 ?_
      refine Z_ic_ne (M := mL_acts) (tgt := 430) (by first | assumption | exact pI_rg _ | (unfold rg; omega)) (by first | assumption | exact pI_rg _ | (unfold rg; omega)) dL_acts_403 (by decide) (fun c_403 => ?_) (fun c_403 => ?_)
      · refine Z_iconst (M := mL_acts) dL_acts_430 ?_
        exact hj_431 _ (pI_f (by unfold CNC; omega)).symm
      · refine J_aload_n (M := mL_acts) dL_acts_406 rfl rfl ?_
        refine Z_iconst (M := mL_acts) dL_acts_407 ?_
        refine J_iload (M := mL_acts) dL_acts_408 rfl ?_
        refine Z_imul (M := mL_acts) dL_acts_410 ?_
        refine L_iald (M := mL_acts) (kf := 30) (N := 32) dL_acts_411 (by decide) rfl (by decide) (by omega) (by omega) ?_
        refine J_aload (M := mL_acts) dL_acts_412 rfl ?_
        refine J_aload (M := mL_acts) dL_acts_414 rfl ?_
        refine Z_iconst (M := mL_acts) dL_acts_416 ?_
        refine L_iald (M := mL_acts) (kf := 37) (N := 10) dL_acts_417 (by decide) rfl (by decide) (by omega) (by omega) ?_
        refine J_iload (M := mL_acts) dL_acts_418 rfl ?_
        refine M_callS (M := mL_acts) (as := [_, _, _]) dL_acts_420 ca_L_27 ⟨by decide, by decide⟩ rfl (Nat.le_of_ble_eq_true rfl) rfl rfl (rL_fencer lw36 (by omega) (by omega)) ?_
        refine Z_ic_ne (M := mL_acts) (tgt := 430) (by first | assumption | exact pI_rg _ | (unfold rg; omega)) (by first | assumption | exact pI_rg _ | (unfold rg; omega)) dL_acts_423 (by decide) (fun c_423 => ?_) (fun c_423 => ?_)
        · refine Z_iconst (M := mL_acts) dL_acts_430 ?_
          exact hj_431 _ (pI_f (by unfold CNC; omega)).symm
        · refine Z_iconst (M := mL_acts) dL_acts_426 ?_
          refine J_goto (M := mL_acts) (tgt := 431) dL_acts_427 (by decide) ?_
          exact hj_431 _ (pI_t (by unfold CNC; omega)).symm
  refine J_istore (M := mL_acts) dL_acts_431 (by decide) ?_
  have b2s : 0 ≤ σ 37 (2 + s) ∧ σ 37 (2 + s) ≤ 15 := by
    rcases hs2 with e | e
    · rw [e]; exact m2
    · rw [e]; exact m3
  by_cases hC : CNC σ s y
  · have MC : LM (ts σ 37 (2 + s) y) := by
      have k37 : ∀ x, ¬ (x = 2 ∨ x = 3) → ts σ 37 (2 + s) y 37 x = σ 37 x := fun x hx => ts_else (by omega)
      have k2 : 0 ≤ ts σ 37 (2 + s) y 37 2 ∧ ts σ 37 (2 + s) y 37 2 ≤ 15 := by rw [ts_s]; unfold upZ; split <;> omega
      have k3 : 0 ≤ ts σ 37 (2 + s) y 37 3 ∧ ts σ 37 (2 + s) y 37 3 ≤ 15 := by rw [ts_s]; unfold upZ; split <;> omega
      unfold LM
      rw [k37 0 (by decide), k37 1 (by decide), k37 4 (by decide), k37 6 (by decide), k37 7 (by decide), k37 9 (by decide)]
      exact ⟨m0, m1, k2, k3, m4, m6, m7, m9⟩
    refine J_aload (M := mL_acts) dL_acts_433 rfl ?_
    refine Z_iconst (M := mL_acts) dL_acts_435 ?_
    refine J_iload (M := mL_acts) dL_acts_436 rfl ?_
    refine Z_iadd (M := mL_acts) dL_acts_438 ?_
    refine L_iald (M := mL_acts) (kf := 37) (N := 10) dL_acts_439 (by decide) rfl (by decide) (by omega) (by omega) ?_
    refine J_istore (M := mL_acts) dL_acts_440 (by decide) ?_
    refine J_aload (M := mL_acts) dL_acts_442 rfl ?_
    refine Z_iconst (M := mL_acts) dL_acts_444 ?_
    refine J_iload (M := mL_acts) dL_acts_445 rfl ?_
    refine Z_iadd (M := mL_acts) dL_acts_447 ?_
    refine J_iload (M := mL_acts) dL_acts_448 rfl ?_
    first
      | refine Z_pf (M := mL_acts) (tgt := 458) dL_acts_450 (by decide) (fun c_450 => ?_) (fun c_450 => ?_)
      | refine Z_if_eq (M := mL_acts) (tgt := 458) (by first | assumption | exact pI_rg _ | (unfold rg; omega)) dL_acts_450 (by decide) (fun c_450 => ?_) (fun c_450 => ?_)
    · exact absurd hC c_450
    · refine J_iload (M := mL_acts) dL_acts_453 rfl ?_
      refine J_goto (M := mL_acts) (tgt := 460) dL_acts_455 (by decide) ?_
      refine L_iast (M := mL_acts) (kf := 37) (N := 10) dL_acts_460 (by decide) rfl (by decide) (by omega) (by omega) ?_
      refine J_aload_n (M := mL_acts) dL_acts_461 rfl rfl ?_
      refine J_iload (M := mL_acts) dL_acts_462 rfl ?_
      refine J_iload (M := mL_acts) dL_acts_464 rfl ?_
      refine J_callW (M := mL_acts) (as := [_, _, _]) dL_acts_466 ca_L_208 ⟨by decide, by decide⟩ rfl (Nat.le_of_ble_eq_true rfl) (k' := 0) (n' := 0) (by decide) (by decide) (ch_yes L M R hs2 ⟨y0, y1⟩ hC) (fun v_ h_ hv_ => ?_)
      obtain ⟨rfl, r2, R2, rfl⟩ := hv_
      refine J_iload (M := mL_acts) dL_acts_469 rfl ?_
      first
        | refine Z_pf (M := mL_acts) (tgt := 479) dL_acts_471 (by decide) (fun c_471 => ?_) (fun c_471 => ?_)
        | refine Z_if_eq (M := mL_acts) (tgt := 479) (by first | assumption | exact pI_rg _ | (unfold rg; omega)) dL_acts_471 (by decide) (fun c_471 => ?_) (fun c_471 => ?_)
      · exact absurd hC c_471
      · refine J_iload (M := mL_acts) dL_acts_474 rfl ?_
        refine J_goto (M := mL_acts) (tgt := 481) dL_acts_476 (by decide) ?_
        refine Z_ic_ne (M := mL_acts) (tgt := 488) (by unfold rg; omega) (by unfold rg; omega) dL_acts_481 (by decide) (fun c_481 => ?_) (fun c_481 => ?_)
        · exact absurd rfl c_481
        · refine Z_iconst (M := mL_acts) dL_acts_484 ?_
          refine J_goto (M := mL_acts) (tgt := 489) dL_acts_485 (by decide) ?_
          refine J_zret (M := mL_acts) dL_acts_489 rfl (by first | exact pI_zb _ | exact zb_of (Or.inl rfl) | exact zb_of (Or.inr rfl) | assumption) ?_
          exact ⟨rfl, ts σ 37 (2 + s) y, π, g, r2, ts τ 18 s y, rfl, LW_c L hs2 hC.1 ⟨y0, y1⟩, WL_ts W (Or.inl rfl), MC, G, RR_mono (by omega) R2, by rw [ts_else (by omega)]; omega, by omega⟩
  · refine J_aload (M := mL_acts) dL_acts_433 rfl ?_
    refine Z_iconst (M := mL_acts) dL_acts_435 ?_
    refine J_iload (M := mL_acts) dL_acts_436 rfl ?_
    refine Z_iadd (M := mL_acts) dL_acts_438 ?_
    refine L_iald (M := mL_acts) (kf := 37) (N := 10) dL_acts_439 (by decide) rfl (by decide) (by omega) (by omega) ?_
    refine J_istore (M := mL_acts) dL_acts_440 (by decide) ?_
    refine J_aload (M := mL_acts) dL_acts_442 rfl ?_
    refine Z_iconst (M := mL_acts) dL_acts_444 ?_
    refine J_iload (M := mL_acts) dL_acts_445 rfl ?_
    refine Z_iadd (M := mL_acts) dL_acts_447 ?_
    refine J_iload (M := mL_acts) dL_acts_448 rfl ?_
    first
      | refine Z_pf (M := mL_acts) (tgt := 458) dL_acts_450 (by decide) (fun c_450 => ?_) (fun c_450 => ?_)
      | refine Z_if_eq (M := mL_acts) (tgt := 458) (by first | assumption | exact pI_rg _ | (unfold rg; omega)) dL_acts_450 (by decide) (fun c_450 => ?_) (fun c_450 => ?_)
    · refine J_iload (M := mL_acts) dL_acts_458 rfl ?_
      refine L_iast (M := mL_acts) (kf := 37) (N := 10) dL_acts_460 (by decide) rfl (by decide) (by omega) (by omega) ?_
      rw [show ts σ 37 (2 + s) (σ 37 (2 + s)) = σ from ts_id]
      refine J_aload_n (M := mL_acts) dL_acts_461 rfl rfl ?_
      refine J_iload (M := mL_acts) dL_acts_462 rfl ?_
      refine J_iload (M := mL_acts) dL_acts_464 rfl ?_
      refine J_callW (M := mL_acts) (as := [_, _, _]) dL_acts_466 ca_L_208 ⟨by decide, by decide⟩ rfl (Nat.le_of_ble_eq_true rfl) (k' := 0) (n' := 0) (by decide) (by decide) (ch_no L M R hs2 ⟨y0, y1⟩ hC) (fun v_ h_ hv_ => ?_)
      obtain ⟨rfl, rfl⟩ := hv_
      refine J_iload (M := mL_acts) dL_acts_469 rfl ?_
      first
        | refine Z_pf (M := mL_acts) (tgt := 479) dL_acts_471 (by decide) (fun c_471 => ?_) (fun c_471 => ?_)
        | refine Z_if_eq (M := mL_acts) (tgt := 479) (by first | assumption | exact pI_rg _ | (unfold rg; omega)) dL_acts_471 (by decide) (fun c_471 => ?_) (fun c_471 => ?_)
      · refine Z_bipush (M := mL_acts) dL_acts_479 rfl ?_
        refine Z_ic_ne (M := mL_acts) (tgt := 488) (by unfold rg; omega) (by unfold rg; omega) dL_acts_481 (by decide) (fun c_481 => ?_) (fun c_481 => ?_)
        · exact absurd rfl c_481
        · refine Z_iconst (M := mL_acts) dL_acts_484 ?_
          refine J_goto (M := mL_acts) (tgt := 489) dL_acts_485 (by decide) ?_
          refine J_zret (M := mL_acts) dL_acts_489 rfl (by first | exact pI_zb _ | exact zb_of (Or.inl rfl) | exact zb_of (Or.inr rfl) | assumption) ?_
          exact ⟨rfl, σ, π, g, ρ, τ, rfl, IV_s I hc⟩
      · exact absurd c_471 hC
    · exact absurd c_450 hC

set_option maxRecDepth 100000 in
set_option maxHeartbeats 4000000 in
theorem act_t {X : GX} {g : LH} {σ ρ τ : TS} {π : Int → Int64} {c q w z : Int} (I : IV σ π g ρ τ c) (hc : c ≤ 199) (hz : 0 ≤ z ∧ z ≤ 10000000) (h0 : 0 < σ 37 0) : J X mL_acts 142 [some (vR (some (1, 0))), some (vR (some (30, 0))), some (vR (some (31, 0))), some (vR (some (32, 0))), some (vR (some (33, 0))), some (vR (some (34, 0))), some (vR (some (35, 0))), some (vR (some (36, 0))), some (vR (some (37, 0))), some (vR (some tScr)), some (vI (iI q)), some (vI (iI w)), some (vI (iI z)), none, none, none, none, none] [] (HW g σ π ρ) 60 420 (rQ (KQ (c + 1))) := by
  obtain ⟨L, W, M, G, R, d8, dc⟩ := id I
  obtain ⟨m0, m1, m2, m3, m4, m6, m7, m9⟩ := id M
  obtain ⟨f, hf⟩ : ∃ f, f = (if z / 16 % 4 = 0 then 499 + z / 64 % 2 * 272 else 500 + z / 64 % 271) := ⟨_, rfl⟩
  have hf0 : 499 ≤ f ∧ f ≤ 771 := by rw [hf]; split <;> omega
  obtain ⟨m, hm⟩ : ∃ m, m = (if z / 200 % 3 = 0 then 16 else z / 600 % 16) := ⟨_, rfl⟩
  have hm0 : 0 ≤ m ∧ m ≤ 16 := by rw [hm]; split <;> omega
  refine J_iload (M := mL_acts) dL_acts_142 rfl ?_
  refine J_aload (M := mL_acts) dL_acts_144 rfl ?_
  refine Z_iconst (M := mL_acts) dL_acts_146 ?_
  refine L_iald (M := mL_acts) (kf := 37) (N := 10) dL_acts_147 (by decide) rfl (by decide) (by omega) (by omega) ?_
  refine Z_irem (M := mL_acts) (by omega) (by unfold rg; omega) (by omega) (by unfold rg; omega) dL_acts_148 ?_
  obtain ⟨y, hy⟩ : ∃ y, y = z % σ 37 0 := ⟨_, rfl⟩
  have y0 : 0 ≤ y := by rw [hy]; exact Int.emod_nonneg _ (by omega)
  have y1 : y < σ 37 0 := by rw [hy]; exact Int.emod_lt_of_pos _ (by omega)
  refine Z_eq (M := mL_acts) hy.symm ?_
  refine J_istore (M := mL_acts) dL_acts_149 (by decide) ?_
  refine Z_ij (M := mL_acts) (pcB := 192) (f) (fun hj_192 => ?_) ?_
  · refine J_iload (M := mL_acts) dL_acts_151 rfl ?_
    refine Z_bipush (M := mL_acts) dL_acts_153 rfl ?_
    refine Z_idiv (M := mL_acts) (by omega) (by first | assumption | exact pI_rg _ | (unfold rg; omega)) (by decide) (by first | assumption | exact pI_rg _ | (unfold rg; omega)) dL_acts_155 ?_
    refine Z_iconst (M := mL_acts) dL_acts_156 ?_
    refine Z_irem (M := mL_acts) (by omega) (by first | assumption | exact pI_rg _ | (unfold rg; omega)) (by decide) (by first | assumption | exact pI_rg _ | (unfold rg; omega)) dL_acts_157 ?_
    first
      | refine Z_pt (M := mL_acts) (tgt := 179) dL_acts_158 (by decide) (fun c_158 => ?_) (fun c_158 => ?_)
      | refine Z_if_ne (M := mL_acts) (tgt := 179) (by first | assumption | exact pI_rg _ | (unfold rg; omega)) dL_acts_158 (by decide) (fun c_158 => ?_) (fun c_158 => ?_)
    · refine Z_sipush (M := mL_acts) dL_acts_179 rfl ?_
      refine J_iload (M := mL_acts) dL_acts_182 rfl ?_
      refine Z_bipush (M := mL_acts) dL_acts_184 rfl ?_
      refine Z_idiv (M := mL_acts) (by omega) (by first | assumption | exact pI_rg _ | (unfold rg; omega)) (by decide) (by first | assumption | exact pI_rg _ | (unfold rg; omega)) dL_acts_186 ?_
      refine Z_sipush (M := mL_acts) dL_acts_187 rfl ?_
      refine Z_irem (M := mL_acts) (by omega) (by first | assumption | exact pI_rg _ | (unfold rg; omega)) (by decide) (by first | assumption | exact pI_rg _ | (unfold rg; omega)) dL_acts_190 ?_
      refine Z_iadd (M := mL_acts) dL_acts_191 ?_
      exact hj_192 _ (by rw [hf]; first | rw [if_pos (by omega)] | rw [if_neg (by omega)])
    · refine Z_sipush (M := mL_acts) dL_acts_161 rfl ?_
      refine J_iload (M := mL_acts) dL_acts_164 rfl ?_
      refine Z_bipush (M := mL_acts) dL_acts_166 rfl ?_
      refine Z_idiv (M := mL_acts) (by omega) (by first | assumption | exact pI_rg _ | (unfold rg; omega)) (by decide) (by first | assumption | exact pI_rg _ | (unfold rg; omega)) dL_acts_168 ?_
      refine Z_iconst (M := mL_acts) dL_acts_169 ?_
      refine Z_irem (M := mL_acts) (by omega) (by first | assumption | exact pI_rg _ | (unfold rg; omega)) (by decide) (by first | assumption | exact pI_rg _ | (unfold rg; omega)) dL_acts_170 ?_
      refine Z_sipush (M := mL_acts) dL_acts_171 rfl ?_
      refine Z_imul (M := mL_acts) dL_acts_174 ?_
      refine Z_iadd (M := mL_acts) dL_acts_175 ?_
      refine J_goto (M := mL_acts) (tgt := 192) dL_acts_176 (by decide) ?_
      exact hj_192 _ (by rw [hf]; first | rw [if_pos (by omega)] | rw [if_neg (by omega)])
  refine J_istore (M := mL_acts) dL_acts_192 (by decide) ?_
  refine Z_ij (M := mL_acts) (pcB := 219) (m) (fun hj_219 => ?_) ?_
  · refine J_iload (M := mL_acts) dL_acts_194 rfl ?_
    refine Z_sipush (M := mL_acts) dL_acts_196 rfl ?_
    refine Z_idiv (M := mL_acts) (by omega) (by first | assumption | exact pI_rg _ | (unfold rg; omega)) (by decide) (by first | assumption | exact pI_rg _ | (unfold rg; omega)) dL_acts_199 ?_
    refine Z_iconst (M := mL_acts) dL_acts_200 ?_
    refine Z_irem (M := mL_acts) (by omega) (by first | assumption | exact pI_rg _ | (unfold rg; omega)) (by decide) (by first | assumption | exact pI_rg _ | (unfold rg; omega)) dL_acts_201 ?_
    first
      | refine Z_pt (M := mL_acts) (tgt := 210) dL_acts_202 (by decide) (fun c_202 => ?_) (fun c_202 => ?_)
      | refine Z_if_ne (M := mL_acts) (tgt := 210) (by first | assumption | exact pI_rg _ | (unfold rg; omega)) dL_acts_202 (by decide) (fun c_202 => ?_) (fun c_202 => ?_)
    · refine J_iload (M := mL_acts) dL_acts_210 rfl ?_
      refine Z_sipush (M := mL_acts) dL_acts_212 rfl ?_
      refine Z_idiv (M := mL_acts) (by omega) (by first | assumption | exact pI_rg _ | (unfold rg; omega)) (by decide) (by first | assumption | exact pI_rg _ | (unfold rg; omega)) dL_acts_215 ?_
      refine Z_bipush (M := mL_acts) dL_acts_216 rfl ?_
      refine Z_irem (M := mL_acts) (by omega) (by first | assumption | exact pI_rg _ | (unfold rg; omega)) (by decide) (by first | assumption | exact pI_rg _ | (unfold rg; omega)) dL_acts_218 ?_
      exact hj_219 _ (by rw [hm]; first | rw [if_pos (by omega)] | rw [if_neg (by omega)])
    · refine Z_bipush (M := mL_acts) dL_acts_205 rfl ?_
      refine J_goto (M := mL_acts) (tgt := 219) dL_acts_207 (by decide) ?_
      exact hj_219 _ (by rw [hm]; first | rw [if_pos (by omega)] | rw [if_neg (by omega)])
  refine J_istore (M := mL_acts) dL_acts_219 (by decide) ?_
  refine Z_bj (M := mL_acts) (pcB := 249) (((500 ≤ f ∧ f ≤ 770) ∧ m ≤ 15)) (fun hj_249 => ?_) ?_
  · refine J_iload (M := mL_acts) dL_acts_221 rfl ?_
    refine Z_sipush (M := mL_acts) dL_acts_223 rfl ?_
    refine Z_ic_lt (M := mL_acts) (tgt := 248) (by first | assumption | exact pI_rg _ | (unfold rg; omega)) (by first | assumption | exact pI_rg _ | (unfold rg; omega)) dL_acts_226 (by decide) (fun c_226 => ?_) (fun c_226 => ?_)
    · refine Z_iconst (M := mL_acts) dL_acts_248 ?_
      exact hj_249 _ (pI_f (by omega)).symm
    · refine J_iload (M := mL_acts) dL_acts_229 rfl ?_
      refine Z_sipush (M := mL_acts) dL_acts_231 rfl ?_
      refine Z_ic_gt (M := mL_acts) (tgt := 248) (by first | assumption | exact pI_rg _ | (unfold rg; omega)) (by first | assumption | exact pI_rg _ | (unfold rg; omega)) dL_acts_234 (by decide) (fun c_234 => ?_) (fun c_234 => ?_)
      · refine Z_iconst (M := mL_acts) dL_acts_248 ?_
        exact hj_249 _ (pI_f (by omega)).symm
      · refine J_iload (M := mL_acts) dL_acts_237 rfl ?_
        refine Z_bipush (M := mL_acts) dL_acts_239 rfl ?_
        refine Z_ic_ge (M := mL_acts) (tgt := 248) (by first | assumption | exact pI_rg _ | (unfold rg; omega)) (by first | assumption | exact pI_rg _ | (unfold rg; omega)) dL_acts_241 (by decide) (fun c_241 => ?_) (fun c_241 => ?_)
        · refine Z_iconst (M := mL_acts) dL_acts_248 ?_
          exact hj_249 _ (pI_f (by omega)).symm
        · refine Z_iconst (M := mL_acts) dL_acts_244 ?_
          refine J_goto (M := mL_acts) (tgt := 249) dL_acts_245 (by decide) ?_
          exact hj_249 _ (pI_t (by omega)).symm
  refine J_istore (M := mL_acts) dL_acts_249 (by decide) ?_
  have c1 := wl30 W (2 * y + 1)
  refine Z_bj (M := mL_acts) (pcB := 268) (σ 30 (2 * y + 1) < 2) (fun hj_268 => ?_) ?_
  · refine J_aload_n (M := mL_acts) dL_acts_251 rfl rfl ?_
    refine Z_iconst (M := mL_acts) dL_acts_252 ?_
    refine J_iload (M := mL_acts) dL_acts_253 rfl ?_
    refine Z_imul (M := mL_acts) dL_acts_255 ?_
    refine Z_iconst (M := mL_acts) dL_acts_256 ?_
    refine Z_iadd (M := mL_acts) dL_acts_257 ?_
    refine L_iald (M := mL_acts) (kf := 30) (N := 32) dL_acts_258 (by decide) rfl (by decide) (by omega) (by omega) ?_
    refine Z_iconst (M := mL_acts) dL_acts_259 ?_
    refine Z_ic_ge (M := mL_acts) (tgt := 267) (by first | assumption | exact pI_rg _ | (unfold rg; omega)) (by first | assumption | exact pI_rg _ | (unfold rg; omega)) dL_acts_260 (by decide) (fun c_260 => ?_) (fun c_260 => ?_)
    · refine Z_iconst (M := mL_acts) dL_acts_267 ?_
      exact hj_268 _ (pI_f (by omega)).symm
    · refine Z_iconst (M := mL_acts) dL_acts_263 ?_
      refine J_goto (M := mL_acts) (tgt := 268) dL_acts_264 (by decide) ?_
      exact hj_268 _ (pI_t (by omega)).symm
  refine J_istore (M := mL_acts) dL_acts_268 (by decide) ?_
  have a3 := L.1.1.2.2.1
  obtain ⟨-, x2, x3, -⟩ := L.2.2.1 y y0 y1
  by_cases hS : σ 30 (2 * y + 1) < 2
  · have hT2 : ¬ τ 3 y = 2 := by rw [x3]; split <;> omega
    refine J_iload (M := mL_acts) dL_acts_270 rfl ?_
    first
      | refine Z_pf (M := mL_acts) (tgt := 317) dL_acts_272 (by decide) (fun c_272 => ?_) (fun c_272 => ?_)
      | refine Z_if_eq (M := mL_acts) (tgt := 317) (by first | assumption | exact pI_rg _ | (unfold rg; omega)) dL_acts_272 (by decide) (fun c_272 => ?_) (fun c_272 => ?_)
    · exact absurd hS c_272
    · refine J_aload_n (M := mL_acts) dL_acts_275 rfl rfl ?_
      refine Z_iconst (M := mL_acts) dL_acts_276 ?_
      refine J_iload (M := mL_acts) dL_acts_277 rfl ?_
      refine Z_imul (M := mL_acts) dL_acts_279 ?_
      refine Z_iconst (M := mL_acts) dL_acts_280 ?_
      refine Z_iadd (M := mL_acts) dL_acts_281 ?_
      refine Z_ij (M := mL_acts) (pcB := 304) (mkT σ f m) (fun hj_304 => ?_) ?_
      · refine J_iload (M := mL_acts) dL_acts_282 rfl ?_
        first
          | refine Z_pf (M := mL_acts) (tgt := 291) dL_acts_284 (by decide) (fun c_284 => ?_) (fun c_284 => ?_)
          | refine Z_if_eq (M := mL_acts) (tgt := 291) (by first | assumption | exact pI_rg _ | (unfold rg; omega)) dL_acts_284 (by decide) (fun c_284 => ?_) (fun c_284 => ?_)
        · refine J_aload (M := mL_acts) dL_acts_291 rfl ?_
          refine Z_bipush (M := mL_acts) dL_acts_293 rfl ?_
          refine L_iald (M := mL_acts) (kf := 37) (N := 10) dL_acts_295 (by decide) rfl (by decide) (by omega) (by omega) ?_
          refine Z_if_ne (M := mL_acts) (tgt := 303) (by unfold rg; omega) dL_acts_296 (by decide) (fun c_296 => ?_) (fun c_296 => ?_)
          · refine Z_iconst (M := mL_acts) dL_acts_303 ?_
            exact hj_304 _ (by first | exact (if_pos (by assumption)).symm | exact ((if_neg (by assumption)).trans (if_pos (by omega))).symm | exact ((if_neg (by assumption)).trans (if_neg (by omega))).symm)
          · refine Z_iconst (M := mL_acts) dL_acts_299 ?_
            refine J_goto (M := mL_acts) (tgt := 304) dL_acts_300 (by decide) ?_
            exact hj_304 _ (by first | exact (if_pos (by assumption)).symm | exact ((if_neg (by assumption)).trans (if_pos (by omega))).symm | exact ((if_neg (by assumption)).trans (if_neg (by omega))).symm)
        · refine Z_iconst (M := mL_acts) dL_acts_287 ?_
          refine J_goto (M := mL_acts) (tgt := 304) dL_acts_288 (by decide) ?_
          exact hj_304 _ (by first | exact (if_pos (by assumption)).symm | exact ((if_neg (by assumption)).trans (if_pos (by omega))).symm | exact ((if_neg (by assumption)).trans (if_neg (by omega))).symm)
      refine L_iast (M := mL_acts) (kf := 30) (N := 32) dL_acts_304 (by decide) rfl (by decide) (by omega) (by omega) ?_
      rw [show ts σ 30 (2 * y + 1) (mkT σ f m) = tsS σ y f m from rfl]
      have mr := mkT_rg (σ := σ) (f := f) (m := m)
      have W1 : WL (tsS σ y f m) := WL_ts W (Or.inr (show 0 ≤ mkT σ f m ∧ mkT σ f m ≤ 3 by omega))
      have M1 : LM (tsS σ y f m) := M
      refine J_aload_n (M := mL_acts) dL_acts_305 rfl rfl ?_
      refine J_aload_n (M := mL_acts) dL_acts_306 rfl rfl ?_
      refine J_aload_n (M := mL_acts) dL_acts_307 rfl rfl ?_
      refine J_aload (M := mL_acts) dL_acts_308 rfl ?_
      refine J_aload (M := mL_acts) dL_acts_310 rfl ?_
      refine J_aload (M := mL_acts) dL_acts_312 rfl ?_
      refine J_callS (M := mL_acts) (as := [_, _, _, _, _, _]) dL_acts_314 ca_L_187 ⟨by decide, by decide⟩ rfl (Nat.le_of_ble_eq_true rfl) (k' := 1) (n' := 6) (by decide) (by decide) (rL_follow G W1 M1) (fun v_ h_ hv_ => ?_)
      obtain ⟨rfl, g', G', rfl⟩ := hv_
      refine J_aload_n (M := mL_acts) dL_acts_317 rfl rfl ?_
      refine J_iload (M := mL_acts) dL_acts_318 rfl ?_
      refine J_iload (M := mL_acts) dL_acts_320 rfl ?_
      refine J_iload (M := mL_acts) dL_acts_322 rfl ?_
      refine J_callW (M := mL_acts) (as := [_, _, _, _]) dL_acts_324 ca_L_166 ⟨by decide, by decide⟩ rfl (Nat.le_of_ble_eq_true rfl) (k' := 0) (n' := 0) (by decide) (by decide) (tw_yes R ⟨y0, by omega⟩ ⟨by omega, by omega⟩ ⟨by omega, by omega⟩ hT2 L.1.2.1) (fun v_ h_ hv_ => ?_)
      obtain ⟨rfl, r2, R2, rfl⟩ := hv_
      refine J_iload (M := mL_acts) dL_acts_327 rfl ?_
      first
        | refine Z_pt (M := mL_acts) (tgt := 337) dL_acts_329 (by decide) (fun c_329 => ?_) (fun c_329 => ?_)
        | refine Z_if_ne (M := mL_acts) (tgt := 337) (by first | assumption | exact pI_rg _ | (unfold rg; omega)) dL_acts_329 (by decide) (fun c_329 => ?_) (fun c_329 => ?_)
      · refine Z_ij (M := mL_acts) (pcB := 347) (pI ((500 ≤ f ∧ f ≤ 770) ∧ m ≤ 15)) (fun hj_347 => ?_) ?_
        · refine J_iload (M := mL_acts) dL_acts_337 rfl ?_
          first
            | refine Z_pf (M := mL_acts) (tgt := 346) dL_acts_339 (by decide) (fun c_339 => ?_) (fun c_339 => ?_)
            | refine Z_if_eq (M := mL_acts) (tgt := 346) (by first | assumption | exact pI_rg _ | (unfold rg; omega)) dL_acts_339 (by decide) (fun c_339 => ?_) (fun c_339 => ?_)
          · refine Z_iconst (M := mL_acts) dL_acts_346 ?_
            exact hj_347 _ (by first | exact (pI_t (by assumption)).symm | exact (pI_f (by assumption)).symm)
          · refine Z_iconst (M := mL_acts) dL_acts_342 ?_
            refine J_goto (M := mL_acts) (tgt := 347) dL_acts_343 (by decide) ?_
            exact hj_347 _ (by first | exact (pI_t (by assumption)).symm | exact (pI_f (by assumption)).symm)
        refine Z_ic_ne (M := mL_acts) (tgt := 354) (by first | exact pI_rg _ | (unfold rg; omega)) (by first | exact pI_rg _ | (unfold rg; omega)) dL_acts_347 (by decide) (fun c_347 => ?_) (fun c_347 => ?_)
        · exact absurd rfl c_347
        · refine Z_iconst (M := mL_acts) dL_acts_350 ?_
          refine J_goto (M := mL_acts) (tgt := 355) dL_acts_351 (by decide) ?_
          refine J_zret (M := mL_acts) dL_acts_355 rfl (by first | exact pI_zb _ | exact zb_of (Or.inl rfl) | exact zb_of (Or.inr rfl) | assumption) ?_
          have lS := LSt_fol (σ := tsS σ y f m) (π := π)
          have l8 := lS.2.2.2
          rw [show tsS σ y f m 37 8 = σ 37 8 from rfl] at l8
          exact ⟨rfl, _, _, g', r2, fol (tsT τ y f m), rfl, LW_fol (LW_t L ⟨y0, y1⟩) (WF_tsT R.1) m7 W1, WL_lfol W1, LM_LSt M1 lS, G', RR_mono (by omega) R2, by omega, by omega⟩
      · exact absurd hS c_329
  · have hT2 : τ 3 y = 2 := by rw [x3]; split <;> omega
    refine J_iload (M := mL_acts) dL_acts_270 rfl ?_
    first
      | refine Z_pf (M := mL_acts) (tgt := 317) dL_acts_272 (by decide) (fun c_272 => ?_) (fun c_272 => ?_)
      | refine Z_if_eq (M := mL_acts) (tgt := 317) (by first | assumption | exact pI_rg _ | (unfold rg; omega)) dL_acts_272 (by decide) (fun c_272 => ?_) (fun c_272 => ?_)
    · refine J_aload_n (M := mL_acts) dL_acts_317 rfl rfl ?_
      refine J_iload (M := mL_acts) dL_acts_318 rfl ?_
      refine J_iload (M := mL_acts) dL_acts_320 rfl ?_
      refine J_iload (M := mL_acts) dL_acts_322 rfl ?_
      refine J_callW (M := mL_acts) (as := [_, _, _, _]) dL_acts_324 ca_L_166 ⟨by decide, by decide⟩ rfl (Nat.le_of_ble_eq_true rfl) (k' := 0) (n' := 0) (by decide) (by decide) (tw_no R ⟨y0, by omega⟩ ⟨by omega, by omega⟩ ⟨by omega, by omega⟩ hT2) (fun v_ h_ hv_ => ?_)
      obtain ⟨rfl, rfl⟩ := hv_
      refine J_iload (M := mL_acts) dL_acts_327 rfl ?_
      first
        | refine Z_pt (M := mL_acts) (tgt := 337) dL_acts_329 (by decide) (fun c_329 => ?_) (fun c_329 => ?_)
        | refine Z_if_ne (M := mL_acts) (tgt := 337) (by first | assumption | exact pI_rg _ | (unfold rg; omega)) dL_acts_329 (by decide) (fun c_329 => ?_) (fun c_329 => ?_)
      · exact absurd c_329 hS
      · refine Z_bipush (M := mL_acts) dL_acts_332 rfl ?_
        refine J_goto (M := mL_acts) (tgt := 347) dL_acts_334 (by decide) ?_
        refine Z_ic_ne (M := mL_acts) (tgt := 354) (by first | exact pI_rg _ | (unfold rg; omega)) (by first | exact pI_rg _ | (unfold rg; omega)) dL_acts_347 (by decide) (fun c_347 => ?_) (fun c_347 => ?_)
        · exact absurd rfl c_347
        · refine Z_iconst (M := mL_acts) dL_acts_350 ?_
          refine J_goto (M := mL_acts) (tgt := 355) dL_acts_351 (by decide) ?_
          refine J_zret (M := mL_acts) dL_acts_355 rfl (by first | exact pI_zb _ | exact zb_of (Or.inl rfl) | exact zb_of (Or.inr rfl) | assumption) ?_
          exact ⟨rfl, σ, π, g, ρ, τ, rfl, IV_s I hc⟩
    · exact absurd c_272 hS

set_option maxRecDepth 100000 in
set_option maxHeartbeats 4000000 in
theorem rL_acts {X : GX} {g : LH} {σ ρ τ : TS} {π : Int → Int64} {c q w z : Int} (I : IV σ π g ρ τ c) (hc : c ≤ 199) (hz : 0 ≤ z ∧ z ≤ 10000000) (hL : xL X ≤ 260) (hq : 0 ≤ q ∧ q ≤ 1500) (hw : 0 ≤ w ∧ w ≤ 1000) : CT X mL_acts [vR (some (1, 0)), vR (some (30, 0)), vR (some (31, 0)), vR (some (32, 0)), vR (some (33, 0)), vR (some (34, 0)), vR (some (35, 0)), vR (some (36, 0)), vR (some (37, 0)), vR (some tScr), vI (iI q), vI (iI w), vI (iI z)] (HW g σ π ρ) (rQ (KQ (c + 1))) := by
  obtain ⟨L, W, M, G, R, d8, dc⟩ := id I
  obtain ⟨m0, m1, m2, m3, m4, m6, m7, m9⟩ := id M
  have kt : 0 < σ 37 0 → _ := act_t (q := q) (w := w) (z := z) (X := X) I hc hz
  have kc : 0 < σ 37 0 → _ := act_c (q := q) (w := w) (z := z) (X := X) I hc hz
  have kd := act_d (q := q) (w := w) (z := z) (X := X) I hc hz
  refine CT_of (by decide +kernel) rfl (Nat.le_of_ble_eq_true rfl) ?_
  refine J_iload (M := mL_acts) dL_acts_0 rfl ?_
  refine Z_iconst (M := mL_acts) dL_acts_2 ?_
  refine Z_ic_ge (M := mL_acts) (tgt := 20) (by first | assumption | exact pI_rg _ | (unfold rg; omega)) (by first | assumption | exact pI_rg _ | (unfold rg; omega)) dL_acts_3 (by decide) (fun c_3 => ?_) (fun c_3 => ?_)
  · refine J_iload (M := mL_acts) dL_acts_20 rfl ?_
    refine Z_bipush (M := mL_acts) dL_acts_22 rfl ?_
    refine Z_ic_ge (M := mL_acts) (tgt := 105) (by first | assumption | exact pI_rg _ | (unfold rg; omega)) (by first | assumption | exact pI_rg _ | (unfold rg; omega)) dL_acts_24 (by decide) (fun c_24 => ?_) (fun c_24 => ?_)
    · refine J_iload (M := mL_acts) dL_acts_105 rfl ?_
      refine Z_bipush (M := mL_acts) dL_acts_107 rfl ?_
      refine Z_ic_ge (M := mL_acts) (tgt := 128) (by first | assumption | exact pI_rg _ | (unfold rg; omega)) (by first | assumption | exact pI_rg _ | (unfold rg; omega)) dL_acts_109 (by decide) (fun c_109 => ?_) (fun c_109 => ?_)
      · refine J_iload (M := mL_acts) dL_acts_128 rfl ?_
        refine Z_bipush (M := mL_acts) dL_acts_130 rfl ?_
        refine Z_ic_ne (M := mL_acts) (tgt := 356) (by first | assumption | exact pI_rg _ | (unfold rg; omega)) (by first | assumption | exact pI_rg _ | (unfold rg; omega)) dL_acts_132 (by decide) (fun c_132 => ?_) (fun c_132 => ?_)
        · refine J_iload (M := mL_acts) dL_acts_356 rfl ?_
          refine Z_bipush (M := mL_acts) dL_acts_358 rfl ?_
          refine Z_ic_ne (M := mL_acts) (tgt := 490) (by first | assumption | exact pI_rg _ | (unfold rg; omega)) (by first | assumption | exact pI_rg _ | (unfold rg; omega)) dL_acts_360 (by decide) (fun c_360 => ?_) (fun c_360 => ?_)
          · exact J_sub kd (And.intro rfl (And.intro rfl (And.intro rfl (And.intro rfl (And.intro rfl (And.intro rfl (And.intro rfl (And.intro rfl (And.intro rfl (And.intro rfl (And.intro rfl (And.intro rfl (And.intro rfl trivial)))))))))))))
          · refine J_aload (M := mL_acts) dL_acts_363 rfl ?_
            refine Z_iconst (M := mL_acts) dL_acts_365 ?_
            refine L_iald (M := mL_acts) (kf := 37) (N := 10) dL_acts_366 (by decide) rfl (by decide) (by omega) (by omega) ?_
            refine Z_if_le (M := mL_acts) (tgt := 490) (by first | assumption | exact pI_rg _ | (unfold rg; omega)) dL_acts_367 (by decide) (fun c_367 => ?_) (fun c_367 => ?_)
            · exact J_sub kd (And.intro rfl (And.intro rfl (And.intro rfl (And.intro rfl (And.intro rfl (And.intro rfl (And.intro rfl (And.intro rfl (And.intro rfl (And.intro rfl (And.intro rfl (And.intro rfl (And.intro rfl trivial)))))))))))))
            · exact J_sub (kc (by omega)) (And.intro rfl (And.intro rfl (And.intro rfl (And.intro rfl (And.intro rfl (And.intro rfl (And.intro rfl (And.intro rfl (And.intro rfl (And.intro rfl (And.intro rfl (And.intro rfl (And.intro rfl trivial)))))))))))))
        · refine J_aload (M := mL_acts) dL_acts_135 rfl ?_
          refine Z_iconst (M := mL_acts) dL_acts_137 ?_
          refine L_iald (M := mL_acts) (kf := 37) (N := 10) dL_acts_138 (by decide) rfl (by decide) (by omega) (by omega) ?_
          refine Z_if_le (M := mL_acts) (tgt := 356) (by first | assumption | exact pI_rg _ | (unfold rg; omega)) dL_acts_139 (by decide) (fun c_139 => ?_) (fun c_139 => ?_)
          · refine J_iload (M := mL_acts) dL_acts_356 rfl ?_
            refine Z_bipush (M := mL_acts) dL_acts_358 rfl ?_
            refine Z_ic_ne (M := mL_acts) (tgt := 490) (by first | assumption | exact pI_rg _ | (unfold rg; omega)) (by first | assumption | exact pI_rg _ | (unfold rg; omega)) dL_acts_360 (by decide) (fun c_360 => ?_) (fun c_360 => ?_)
            · exact J_sub kd (And.intro rfl (And.intro rfl (And.intro rfl (And.intro rfl (And.intro rfl (And.intro rfl (And.intro rfl (And.intro rfl (And.intro rfl (And.intro rfl (And.intro rfl (And.intro rfl (And.intro rfl trivial)))))))))))))
            · refine J_aload (M := mL_acts) dL_acts_363 rfl ?_
              refine Z_iconst (M := mL_acts) dL_acts_365 ?_
              refine L_iald (M := mL_acts) (kf := 37) (N := 10) dL_acts_366 (by decide) rfl (by decide) (by omega) (by omega) ?_
              refine Z_if_le (M := mL_acts) (tgt := 490) (by first | assumption | exact pI_rg _ | (unfold rg; omega)) dL_acts_367 (by decide) (fun c_367 => ?_) (fun c_367 => ?_)
              · exact J_sub kd (And.intro rfl (And.intro rfl (And.intro rfl (And.intro rfl (And.intro rfl (And.intro rfl (And.intro rfl (And.intro rfl (And.intro rfl (And.intro rfl (And.intro rfl (And.intro rfl (And.intro rfl trivial)))))))))))))
              · exact J_sub (kc (by omega)) (And.intro rfl (And.intro rfl (And.intro rfl (And.intro rfl (And.intro rfl (And.intro rfl (And.intro rfl (And.intro rfl (And.intro rfl (And.intro rfl (And.intro rfl (And.intro rfl (And.intro rfl trivial)))))))))))))
          · exact J_sub (kt (by omega)) (And.intro rfl (And.intro rfl (And.intro rfl (And.intro rfl (And.intro rfl (And.intro rfl (And.intro rfl (And.intro rfl (And.intro rfl (And.intro rfl (And.intro rfl (And.intro rfl (And.intro rfl trivial)))))))))))))
      · refine J_aload_n (M := mL_acts) dL_acts_112 rfl rfl ?_
        refine J_aload_n (M := mL_acts) dL_acts_113 rfl rfl ?_
        refine J_aload_n (M := mL_acts) dL_acts_114 rfl rfl ?_
        refine J_aload_n (M := mL_acts) dL_acts_115 rfl rfl ?_
        refine J_aload (M := mL_acts) dL_acts_116 rfl ?_
        refine J_aload (M := mL_acts) dL_acts_118 rfl ?_
        refine J_aload (M := mL_acts) dL_acts_120 rfl ?_
        refine J_iload (M := mL_acts) dL_acts_122 rfl ?_
        refine J_callS (M := mL_acts) (as := [_, _, _, _, _, _, _, _]) dL_acts_124 ca_L_204 ⟨by decide, by decide⟩ rfl (Nat.le_of_ble_eq_true rfl) (k' := 0) (n' := 0) (by decide) (by decide) (rL_isAppealed I hc hz) (fun v_ h_ hv_ => ?_)
        obtain ⟨rfl, σ1, π1, g1, ρ1, τ1, rfl, I1⟩ := hv_
        refine J_zret (M := mL_acts) dL_acts_127 rfl (by first | exact pI_zb _ | exact zb_of (Or.inl rfl) | exact zb_of (Or.inr rfl) | assumption) ?_
        exact ⟨rfl, σ1, π1, g1, ρ1, τ1, rfl, I1⟩
    · refine J_aload_n (M := mL_acts) dL_acts_27 rfl rfl ?_
      refine J_aload_n (M := mL_acts) dL_acts_28 rfl rfl ?_
      refine J_aload_n (M := mL_acts) dL_acts_29 rfl rfl ?_
      refine J_aload_n (M := mL_acts) dL_acts_30 rfl rfl ?_
      refine J_aload (M := mL_acts) dL_acts_31 rfl ?_
      refine J_aload (M := mL_acts) dL_acts_33 rfl ?_
      refine J_aload (M := mL_acts) dL_acts_35 rfl ?_
      refine J_aload (M := mL_acts) dL_acts_37 rfl ?_
      refine J_aload (M := mL_acts) dL_acts_39 rfl ?_
      refine J_aload (M := mL_acts) dL_acts_41 rfl ?_
      refine J_iload (M := mL_acts) dL_acts_43 rfl ?_
      refine J_iload (M := mL_acts) dL_acts_45 rfl ?_
      refine J_callS (M := mL_acts) (as := [_, _, _, _, _, _, _, _, _, _, _, _]) dL_acts_47 ca_L_200 ⟨by decide, by decide⟩ rfl (Nat.le_of_ble_eq_true rfl) (k' := 10) (n' := 60) (by decide) (by decide) (rL_isFenced hL I hc hq hz) (fun v_ h_ hv_ => ?_)
      obtain ⟨rfl, σ1, π1, g1, ρ1, τ1, rfl, I1⟩ := hv_
      obtain ⟨L1, W1, M1, G1, R1, d1, dc1⟩ := id I1
      have m11 := M1.2.1
      have tr := ltold_rg (w := σ1 30) (π := π1) (e := σ1 32) (b := σ1 37 1)
      first
        | refine Z_pf (M := mL_acts) (tgt := 103) dL_acts_50 (by decide) (fun c_50 => ?_) (fun c_50 => ?_)
        | refine Z_if_eq (M := mL_acts) (tgt := 103) (by first | assumption | exact pI_rg _ | (unfold rg; omega)) dL_acts_50 (by decide) (fun c_50 => ?_) (fun c_50 => ?_)
      · exact absurd c_50 (by decide)
      · refine J_aload (M := mL_acts) dL_acts_53 rfl ?_
        refine Z_iconst (M := mL_acts) dL_acts_55 ?_
        refine L_iald (M := mL_acts) (kf := 37) (N := 10) dL_acts_56 (by decide) rfl (by decide) (by omega) (by omega) ?_
        refine Z_if_lt (M := mL_acts) (tgt := 99) (by first | assumption | exact pI_rg _ | (unfold rg; omega)) dL_acts_57 (by decide) (fun c_57 => ?_) (fun c_57 => ?_)
        · refine Z_iconst (M := mL_acts) dL_acts_99 ?_
          refine J_goto (M := mL_acts) (tgt := 104) dL_acts_100 (by decide) ?_
          refine J_zret (M := mL_acts) dL_acts_104 rfl (by first | exact pI_zb _ | exact zb_of (Or.inl rfl) | exact zb_of (Or.inr rfl) | assumption) ?_
          exact ⟨rfl, _, _, _, _, _, rfl, by assumption⟩
        · refine J_aload_n (M := mL_acts) dL_acts_60 rfl rfl ?_
          refine J_aload_n (M := mL_acts) dL_acts_61 rfl rfl ?_
          refine J_aload_n (M := mL_acts) dL_acts_62 rfl rfl ?_
          refine J_aload (M := mL_acts) dL_acts_63 rfl ?_
          refine Z_iconst (M := mL_acts) dL_acts_65 ?_
          refine L_iald (M := mL_acts) (kf := 37) (N := 10) dL_acts_66 (by decide) rfl (by decide) (by omega) (by omega) ?_
          refine M_callS (M := mL_acts) (as := [_, _, _, _]) dL_acts_67 ca_L_23 ⟨by decide, by decide⟩ rfl (Nat.le_of_ble_eq_true rfl) rfl rfl (rL_told lw30 lw31 lw32 (wl30 W1) (wl32 W1) (by omega)) ?_
          refine Z_bipush (M := mL_acts) dL_acts_70 rfl ?_
          refine Z_ic_lt (M := mL_acts) (tgt := 99) (by unfold rg; omega) (by unfold rg; omega) dL_acts_72 (by decide) (fun c_72 => ?_) (fun c_72 => ?_)
          · refine Z_iconst (M := mL_acts) dL_acts_99 ?_
            refine J_goto (M := mL_acts) (tgt := 104) dL_acts_100 (by decide) ?_
            refine J_zret (M := mL_acts) dL_acts_104 rfl (by first | exact pI_zb _ | exact zb_of (Or.inl rfl) | exact zb_of (Or.inr rfl) | assumption) ?_
            exact ⟨rfl, _, _, _, _, _, rfl, by assumption⟩
          · refine J_aload_n (M := mL_acts) dL_acts_75 rfl rfl ?_
            refine J_aload_n (M := mL_acts) dL_acts_76 rfl rfl ?_
            refine J_aload_n (M := mL_acts) dL_acts_77 rfl rfl ?_
            refine J_aload_n (M := mL_acts) dL_acts_78 rfl rfl ?_
            refine J_aload (M := mL_acts) dL_acts_79 rfl ?_
            refine J_aload (M := mL_acts) dL_acts_81 rfl ?_
            refine J_iload (M := mL_acts) dL_acts_83 rfl ?_
            refine Z_iconst (M := mL_acts) dL_acts_85 ?_
            refine Z_idiv (M := mL_acts) (by omega) (by first | assumption | exact pI_rg _ | (unfold rg; omega)) (by decide) (by first | assumption | exact pI_rg _ | (unfold rg; omega)) dL_acts_86 ?_
            refine Z_bipush (M := mL_acts) dL_acts_87 rfl ?_
            refine Z_imul (M := mL_acts) dL_acts_89 ?_
            refine Z_bipush (M := mL_acts) dL_acts_90 rfl ?_
            refine Z_iadd (M := mL_acts) dL_acts_92 ?_
            refine J_callS (M := mL_acts) (as := [_, _, _, _, _, _, _]) dL_acts_93 ca_L_196 ⟨by decide, by decide⟩ rfl (Nat.le_of_ble_eq_true rfl) (k' := 0) (n' := 0) (by decide) (by decide) (rL_isBegun I1 ⟨by omega, by omega⟩) (fun v_ h_ hv_ => ?_)
            obtain ⟨rfl, σ2, π2, g2, ρ2, τ2, rfl, I2⟩ := hv_
            first
              | refine Z_pf (M := mL_acts) (tgt := 103) dL_acts_96 (by decide) (fun c_96 => ?_) (fun c_96 => ?_)
              | refine Z_if_eq (M := mL_acts) (tgt := 103) (by first | assumption | exact pI_rg _ | (unfold rg; omega)) dL_acts_96 (by decide) (fun c_96 => ?_) (fun c_96 => ?_)
            · exact absurd c_96 (by decide)
            · refine Z_iconst (M := mL_acts) dL_acts_99 ?_
              refine J_goto (M := mL_acts) (tgt := 104) dL_acts_100 (by decide) ?_
              refine J_zret (M := mL_acts) dL_acts_104 rfl (by first | exact pI_zb _ | exact zb_of (Or.inl rfl) | exact zb_of (Or.inr rfl) | assumption) ?_
              exact ⟨rfl, _, _, _, _, _, rfl, by assumption⟩
  · refine J_aload_n (M := mL_acts) dL_acts_6 rfl rfl ?_
    refine J_aload_n (M := mL_acts) dL_acts_7 rfl rfl ?_
    refine J_aload_n (M := mL_acts) dL_acts_8 rfl rfl ?_
    refine J_aload_n (M := mL_acts) dL_acts_9 rfl rfl ?_
    refine J_aload (M := mL_acts) dL_acts_10 rfl ?_
    refine J_aload (M := mL_acts) dL_acts_12 rfl ?_
    refine J_iload (M := mL_acts) dL_acts_14 rfl ?_
    refine J_callS (M := mL_acts) (as := [_, _, _, _, _, _, _]) dL_acts_16 ca_L_196 ⟨by decide, by decide⟩ rfl (Nat.le_of_ble_eq_true rfl) (k' := 0) (n' := 0) (by decide) (by decide) (rL_isBegun I ⟨by omega, by omega⟩) (fun v_ h_ hv_ => ?_)
    obtain ⟨rfl, σ1, π1, g1, ρ1, τ1, rfl, I1⟩ := hv_
    refine J_zret (M := mL_acts) dL_acts_19 rfl (by first | exact pI_zb _ | exact zb_of (Or.inl rfl) | exact zb_of (Or.inr rfl) | assumption) ?_
    exact ⟨rfl, σ1, π1, g1, ρ1, τ1, rfl, IV_s I1 hc⟩

