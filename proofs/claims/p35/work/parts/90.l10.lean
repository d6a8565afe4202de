/-! THE LAW: a phrase is fenced -/
theorem SN_p {ρ τ : TS} {c : Int} (R : RR ρ τ c) : ∀ k, 1 ≤ k → k < τ 21 0 → τ 17 0 = 100 + k → 0 ≤ τ 22 (2 * k) ∧ 0 ≤ τ 22 (2 * k + 1) := R.2.2.2.1.2.2.2.2.2.2.2.2.1
theorem lfen_0 {x : Int → Int} {b s : Int} (hb0 : 0 ≤ b) (hb : b < 6) : 0 ≤ lfen x b s := by
  unfold lfen
  rw [if_neg (show ¬ 5 < b by omega)]
  split
  · split
    · omega
    · split <;> omega
  · split
    · omega
    · split <;> omega
theorem on_known {σ : TS} {π : Int → Int64} {ρ τ : TS} {c : Int} (L : LW σ π τ) (M : LM σ) (R : RR ρ τ c) (h : 0 ≤ σ 37 1) : 0 ≤ lfen (σ 36) (σ 37 1) 0 ∧ 0 ≤ lfen (σ 36) (σ 37 1) 1 := by
  have m1 := M.2.1
  obtain ⟨⟨k1, -⟩, -, -, k7⟩ := L.2.2.2.1.2 h
  have a7 := L.1.2.2.1
  by_cases q : σ 37 1 < 6
  · exact ⟨lfen_0 h q, lfen_0 h q⟩
  · have h4 := k7 (by omega)
    have e : num (σ 37 1) = 100 + (σ 37 1 - 5) := by unfold num; rw [if_neg q]; omega
    have hs := SN_p R (σ 37 1 - 5) (by omega) (by omega) (by rw [k1, e])
    have x0 := (L.2.2.2.2.2.1.1 h4).1 (2 * (σ 37 1 - 5)) (by omega) (by omega)
    have x1 := (L.2.2.2.2.2.1.1 h4).1 (2 * (σ 37 1 - 5) + 1) (by omega) (by omega)
    unfold lfen
    rw [if_pos (by omega), if_pos (by omega), Int.add_zero, ← x0, ← x1]
    exact hs
/-- a phrase can begin -/
def CAN (σ : TS) (π : Int → Int64) : Prop := 0 ≤ σ 37 1 ∧ σ 30 (2 * σ 37 2 + 1) = 1 ∧ σ 30 (2 * σ 37 3 + 1) = 1 ∧ ltold (σ 30) π (σ 32) (σ 37 1) < 100
abbrev canC (τ : TS) : Prop := (¬ τ 17 0 = -1 ∧ τ 19 0 = 0 ∧ τ 3 (τ 18 0) = 1 ∧ τ 3 (τ 18 1) = 1) ∧ wo τ (τ 17 0) = -1
theorem can_i {σ : TS} {π : Int → Int64} {ρ τ : TS} {c : Int} (L : LW σ π τ) (M : LM σ) (W : WL σ) (R : RR ρ τ c) : canC τ ↔ CAN σ π := by
  obtain ⟨m0, m1, m2, m3, -⟩ := id M
  have a6 := L.1.2.1
  unfold canC CAN
  by_cases h : 0 ≤ σ 37 1
  · obtain ⟨⟨k1, k2, k3, k4⟩, k5, k6, k7⟩ := L.2.2.2.1.2 h
    obtain ⟨f0, f1⟩ := on_known L M R h
    have ho := open_i L M R h m1.2 k7 f0 f1
    obtain ⟨-, x1, x2, -⟩ := L.2.2.1 (σ 37 2) m2.1 k5
    obtain ⟨-, y1, y2, -⟩ := L.2.2.1 (σ 37 3) m3.1 k6
    have nr := num_rg (b := σ 37 1) ⟨h, m1.2⟩
    have hx : τ 3 (σ 37 2) = 1 ↔ σ 30 (2 * σ 37 2 + 1) = 1 := by rw [x2]; split <;> omega
    have hy : τ 3 (σ 37 3) = 1 ↔ σ 30 (2 * σ 37 3 + 1) = 1 := by rw [y2]; split <;> omega
    rw [k1, k2, k3, ho, hx, hy, a6]
    constructor
    · rintro ⟨⟨-, -, z1, z2⟩, z3⟩
      exact ⟨h, z1, z2, z3⟩
    · rintro ⟨-, z1, z2, z3⟩
      exact ⟨⟨by omega, rfl, z1, z2⟩, z3⟩
  · have e := L.2.2.2.1.1 (by omega)
    rw [e]
    constructor
    · rintro ⟨⟨z, -⟩, -⟩
      exact absurd rfl z
    · rintro ⟨z, -⟩
      exact absurd z h
theorem al_no {X : GX} {g : LH} {σh ρ τ : TS} {π : Int → Int64} {c : Int} (R : RR ρ τ c) (hc : c ≤ 90000) (h : ¬ canC τ) : CT X mL_allez [vR (some (1, 0))] (HW g σh π ρ) (rQ (fun o h' => o = some (vI (iI (-7))) ∧ h' = HW g σh π ρ)) := by
  refine CT.mono (fun o h' hq => ?_) (wL_allez (p_allez (h := HL σh π g) R hc))
  cases o with
  | inl o =>
    rcases hq with ⟨h1, rfl, rfl⟩ | ⟨h0, -⟩
    · exact ⟨rfl, rfl⟩
    · rw [gl1 h] at h0
      exact absurd h0 (by decide)
  | inr k => exact hq
theorem al_yes {X : GX} {g : LH} {σh ρ τ : TS} {π : Int → Int64} {c : Int} (R : RR ρ τ c) (hc : c ≤ 90000) (h : canC τ) : CT X mL_allez [vR (some (1, 0))] (HW g σh π ρ) (rQ (LQ0 g σh π (τ 10 (slo (τ 17 0))) (fun r => RR r (aT τ) (c + 1)))) := by
  refine CT.mono (fun o h' hq => ?_) (wL_allez (p_allez (h := HL σh π g) R hc))
  cases o with
  | inl o =>
    rcases hq with ⟨h1, -⟩ | ⟨h0, rfl, r, hT, rfl⟩
    · rw [gl011 h] at h1
      exact absurd rfl h1
    · exact ⟨rfl, r, hT, rfl⟩
  | inr k => exact hq
theorem ha_no {X : GX} {g : LH} {σh ρ τ : TS} {π : Int → Int64} {c : Int} (R : RR ρ τ c) (hc : c ≤ 90000) (h : τ 19 0 = 0) : CT X mL_halted [vR (some (1, 0))] (HW g σh π ρ) (rQ (fun o h' => o = some (vI (iI (-7))) ∧ h' = HW g σh π ρ)) := by
  refine CT.mono (fun o h' hq => ?_) (wL_halted (p_halt (h := HL σh π g) R hc))
  cases o with
  | inl o =>
    rcases hq with ⟨h1, rfl, rfl⟩ | ⟨h0, -⟩
    · exact ⟨rfl, rfl⟩
    · rw [h] at h0
      exact absurd h0 (by decide)
  | inr k => exact hq
theorem ha_yes {X : GX} {g : LH} {σh ρ u : TS} {π : Int → Int64} {c : Int} (R : RR ρ u c) (hc : c ≤ 90000) (h : u 19 0 = 1) : CT X mL_halted [vR (some (1, 0))] (HW g σh π ρ) (rQ (LQ0 g σh π (tch (fT u) (slo (u 17 0)) (u 10 (slo (u 17 0)))) (fun r => RR r (fol (fT u)) c))) := by
  refine CT.mono (fun o h' hq => ?_) (wL_halted (p_halt (h := HL σh π g) R hc))
  cases o with
  | inl o =>
    rcases hq with ⟨h1, -⟩ | ⟨h0, rfl, r, hT, rfl⟩
    · rw [h] at h1
      exact absurd rfl h1
    · exact ⟨rfl, r, hT, rfl⟩
  | inr k => exact hq
theorem he_no {X : GX} {g : LH} {σh ρ τ : TS} {π : Int → Int64} {c : Int} (R : RR ρ τ c) (h : τ 19 0 = 0) : CT X mL_heard [vR (some (1, 0)), vI (iI 1), vI (iI 5)] (HW g σh π ρ) (rQ (fun o h' => o = some (vI (iI (-7))) ∧ h' = HW g σh π ρ)) := by
  have hn := gl3' (p := 0 ≤ (1 : Int) / 2 ∧ (1 : Int) / 2 ≤ 1) (q := 0 ≤ (5 : Int) ∧ (τ 19 0 = 0 ∨ τ 12 (la τ) = 0 ∨ τ 16 (8 * la τ + τ 12 (la τ) - 1) ≤ 5)) (r := ¬ τ 19 0 = 0 ∧ τ 12 (la τ) < 8) (by decide) ⟨by decide, Or.inl h⟩ (fun z => z.1 h)
  refine CT.mono (fun o h' hq => ?_) (wL_heardC (Or.inr hn) (by decide) (p_contact (h := HL σh π g) R (s := 1 / 2) (p := (1 : Int) % 2 = 1) (t := 5) (by unfold rg; omega) (by unfold rg; omega)))
  cases o with
  | inl o =>
    rcases hq with ⟨h1, rfl, rfl⟩ | ⟨h0, -⟩
    · exact ⟨rfl, rfl⟩
    · rw [hn] at h0
      exact absurd h0 (by decide)
  | inr k => exact hq
theorem hd_ok {X : GX} {g : LH} {σh ρ u : TS} {π : Int → Int64} {c x t n : Int} (R : RR ρ u c) (hon : ¬ u 19 0 = 0) (hn : u 12 (la u) = n) (hn8 : 0 ≤ n ∧ n < 8) (hx : 0 ≤ x ∧ x ≤ 6) (ht : 0 ≤ t ∧ t ≤ 1000000) (hl : n = 0 ∨ u 16 (8 * la u + n - 1) ≤ t) : CT X mL_heard [vR (some (1, 0)), vI (iI x), vI (iI t)] (HW g σh π ρ) (rQ (LQ0 g σh π (n + 1) (fun r => RR r (evt u x t) c))) := by
  have hl2 : u 19 0 = 0 ∨ u 12 (la u) = 0 ∨ u 16 (8 * la u + u 12 (la u) - 1) ≤ t := by rw [hn]; exact Or.inr hl
  by_cases h3 : x ≤ 3
  · have hz := gl0 (p := 0 ≤ x / 2 ∧ x / 2 ≤ 1) (q := 0 ≤ t ∧ (u 19 0 = 0 ∨ u 12 (la u) = 0 ∨ u 16 (8 * la u + u 12 (la u) - 1) ≤ t)) (r := ¬ u 19 0 = 0 ∧ u 12 (la u) < 8) (by omega) ⟨ht.1, hl2⟩ ⟨hon, by omega⟩
    have ex : 2 * (x / 2) + pI (x % 2 = 1) = x := by
      by_cases q : x % 2 = 1
      · rw [pI_t q]; omega
      · rw [pI_f q]; omega
    refine CT.mono (fun o h' hq => ?_) (wL_heardC (Or.inl hz) (by omega) (p_contact (h := HL σh π g) R (s := x / 2) (p := x % 2 = 1) (t := t) (by unfold rg; omega) (by unfold rg; omega)))
    cases o with
    | inl o =>
      rcases hq with ⟨h1, -⟩ | ⟨h0, rfl, r, hT, rfl⟩
      · exact absurd hz h1
      · rw [ex] at hT
        exact ⟨by rw [hn], r, hT, rfl⟩
    | inr k => exact hq
  · have hz := gl01 (p := (-1 ≤ x - 5 ∧ x - 5 ≤ 1) ∧ 0 ≤ t ∧ (u 19 0 = 0 ∨ u 12 (la u) = 0 ∨ u 16 (8 * la u + u 12 (la u) - 1) ≤ t)) (q := ¬ u 19 0 = 0 ∧ u 12 (la u) < 8) ⟨by omega, ht.1, hl2⟩ ⟨hon, by omega⟩
    have ex : 5 + (x - 5) = x := by omega
    refine CT.mono (fun o h' hq => ?_) (wL_heardR (Or.inl hz) (by omega) (p_right (h := HL σh π g) R (s := x - 5) (t := t) (by unfold rg; omega) (by unfold rg; omega)))
    cases o with
    | inl o =>
      rcases hq with ⟨h1, -⟩ | ⟨h0, rfl, r, hT, rfl⟩
      · exact absurd hz h1
      · rw [ex] at hT
        exact ⟨by rw [hn], r, hT, rfl⟩
    | inr k => exact hq
theorem ts_no {X : GX} {g : LH} {σh ρ τ : TS} {π : Int → Int64} {c : Int} (R : RR ρ τ c) (h : ¬ τ 19 0 = 0) (h5 : 0 < τ 5 0) : CT X mL_tested [vR (some (1, 0)), vI (iI 0), vI (iI 600), vI (iI 1)] (HW g σh π ρ) (rQ (fun o h' => o = some (vI (iI (-7))) ∧ h' = HW g σh π ρ)) := by
  have hn := gl3' (p := 0 ≤ (0 : Int) ∧ 0 ≤ τ 5 0 - 1) (q := (0 ≤ (600 : Int) ∧ (600 : Int) ≤ 2000) ∧ 0 ≤ (1 : Int) ∧ (1 : Int) ≤ 100) (r := (0 ≤ (0 : Int) ∧ 0 ≤ τ 5 0 - 1) ∧ ¬ τ 3 0 = 2 ∧ τ 19 0 = 0) ⟨by decide, by omega⟩ (by decide) (fun z => h z.2.2)
  refine CT.mono (fun o h' hq => ?_) (wL_tested (Or.inr hn) (p_test (h := HL σh π g) R (w := 0) (f := 600) (m := 1) (by unfold rg; omega) (by unfold rg; omega) (by unfold rg; omega)))
  cases o with
  | inl o =>
    rcases hq with ⟨h1, rfl, rfl⟩ | ⟨h0, -⟩
    · exact ⟨rfl, rfl⟩
    · rw [hn] at h0
      exact absurd h0 (by decide)
  | inr k => exact hq
theorem IV_s {σ : TS} {π : Int → Int64} {g : LH} {ρ τ : TS} {c : Int} (I : IV σ π g ρ τ c) (hc : c ≤ 199) : IV σ π g ρ τ (c + 1) := by
  obtain ⟨L, W, M, G, R, d, e⟩ := I
  exact ⟨L, W, M, G, RR_mono (by omega) R, by omega, by omega⟩
/-- while a phrase is on -/
def FIv (σ τ : TS) (c : Int) (s ρ u : TS) (n T : Int) : Prop := RR ρ u c ∧ EVS (aT τ) u (la τ) n (s 34) (s 35) ∧ (∀ k, ¬ (k = 34 ∨ k = 35 ∨ k = 37) → s k = σ k) ∧ (∀ z, ¬ (z = 5 ∨ z = 6) → s 37 z = σ 37 z) ∧ (s 37 5 = n ∧ s 37 6 = 0) ∧ WL s ∧ (0 ≤ T ∧ T ≤ 49 + 400 * n) ∧ (∀ i : Int, 0 ≤ i → i < n → s 35 i ≤ T) ∧ (∀ i j : Nat, i ≤ j → (j : Int) < n → s 35 i ≤ s 35 j)
theorem FIv_s {σ τ s ρ u r : TS} {c n T x t : Int} (F : FIv σ τ c s ρ u n T) (hn : 0 ≤ n ∧ n ≤ 6) (hx : 0 ≤ x ∧ x ≤ 6) (ht : T ≤ t ∧ t ≤ T + 400) (R : RR r (evt u x t) c) : FIv σ τ c (ts (ts (ts s 34 n x) 35 n t) 37 5 (n + 1)) r (evt u x t) (n + 1) t := by
  obtain ⟨-, E, f1, f2, ⟨f3, f3'⟩, W, f4, f5, f6⟩ := F
  have W2 : WL (ts (ts (ts s 34 n x) 35 n t) 37 5 (n + 1)) := WL_ts (WL_ts (WL_ts W (Or.inr (show 0 ≤ x ∧ x ≤ 6 from hx))) (Or.inr (show 0 ≤ t ∧ t ≤ 1000000 by omega))) (Or.inl rfl)
  have e34 : (ts (ts (ts s 34 n x) 35 n t) 37 5 (n + 1)) 34 = upZ (s 34) n x := by rw [ts_n (by decide), ts_n (by decide), ts_s]
  have e35 : (ts (ts (ts s 34 n x) 35 n t) 37 5 (n + 1)) 35 = upZ (s 35) n t := by rw [ts_n (by decide), ts_s, ts_n (by decide)]
  refine ⟨R, ?_, fun k hk => ?_, fun z hz => ?_, ⟨ts_self, ?_⟩, W2, by omega, fun i i0 i1 => ?_, fun i j hij hj => ?_⟩
  · rw [e34, e35]
    exact EVS_s E (la_EVS E) (by omega)
  · rw [ts_n (by omega), ts_n (by omega), ts_n (by omega)]
    exact f1 k hk
  · rw [ts_else (by omega), ts_n (by decide), ts_n (by decide)]
    exact f2 z hz
  · rw [ts_else (by decide), ts_n (by decide), ts_n (by decide)]
    exact f3'
  · rw [e35]
    unfold upZ
    split
    · omega
    · have := f5 i i0 (by omega)
      omega
  · rw [e35]
    unfold upZ
    by_cases q : (j : Int) = n
    · rw [if_pos q]
      split
      · omega
      · have := f5 i (by omega) (by omega)
        omega
    · rw [if_neg q, if_neg (by omega)]
      exact f6 i j hij (by omega)
set_option maxRecDepth 100000 in
set_option maxHeartbeats 4000000 in
theorem fenced_l {X : GX} {g : LH} {σ τ : TS} {π : Int → Int64} {c q z N b : Int} {k n : Nat} {Q : LO → LH → Prop} (hL : xL X ≤ 260) (hq : 0 ≤ q ∧ q ≤ 1500) (hN : 1 ≤ N ∧ N ≤ 6) (kk : ∀ s ρ u T, FIv σ τ c s ρ u N T → J X mL_isFenced 311 [some (vR (some (1, 0))), some (vR (some (30, 0))), some (vR (some (31, 0))), some (vR (some (32, 0))), some (vR (some (33, 0))), some (vR (some (34, 0))), some (vR (some (35, 0))), some (vR (some (36, 0))), some (vR (some (37, 0))), some (vR (some tScr)), some (vI (iI q)), some (vI (iI z)), none, none, none, some (vI (iI b)), some (vI (iI 1)), none, none, none, none, none, none, none, none, none] [] (HW g s π ρ) k n Q) : ∀ (a i : Nat), (i : Int) + a = N → ∀ s ρ u T, FIv σ τ c s ρ u i T → J X mL_isFenced 169 [some (vR (some (1, 0))), some (vR (some (30, 0))), some (vR (some (31, 0))), some (vR (some (32, 0))), some (vR (some (33, 0))), some (vR (some (34, 0))), some (vR (some (35, 0))), some (vR (some (36, 0))), some (vR (some (37, 0))), some (vR (some tScr)), some (vI (iI q)), some (vI (iI z)), none, some (vI (iI N)), some (vI (iI T)), some (vI (iI b)), some (vI (iI 1)), some (vI (iI i)), none, none, none, none, none, none, none, none] [] (HW g s π ρ) (k + 1 * a) (n + 6 * a) Q := by
  intro a
  induction a with
  | zero =>
    intro i hi s ρ u T Fi
    have ei : N = (i : Int) := by omega
    subst ei
    refine J_iload (M := mL_isFenced) dL_isFenced_169 rfl ?_
    refine J_iload (M := mL_isFenced) dL_isFenced_171 rfl ?_
    refine Z_ic_ge (M := mL_isFenced) (tgt := 311) (by first | assumption | exact pI_rg _ | (unfold rg; omega)) (by first | assumption | exact pI_rg _ | (unfold rg; omega)) dL_isFenced_173 (by decide) (fun c_173 => ?_) (fun c_173 => ?_)
    · exact J_sub (kk s ρ u T Fi) (And.intro rfl (And.intro rfl (And.intro rfl (And.intro rfl (And.intro rfl (And.intro rfl (And.intro rfl (And.intro rfl (And.intro rfl (And.intro rfl (And.intro rfl (And.intro rfl (And.intro rfl (And.intro rfl trivial))))))))))))))
    · omega
  | succ a ih =>
    intro i hi s ρ u T Fi
    obtain ⟨R, E, f1, f2, ⟨f3, f3'⟩, W, f4, f5, f6⟩ := id Fi
    refine J_le (k' := k + 1 * a + 1) (n' := n + 6 * a + 6) (by omega) (by omega) ?_
    refine J_iload (M := mL_isFenced) dL_isFenced_169 rfl ?_
    refine J_iload (M := mL_isFenced) dL_isFenced_171 rfl ?_
    refine Z_ic_ge (M := mL_isFenced) (tgt := 311) (by first | assumption | exact pI_rg _ | (unfold rg; omega)) (by first | assumption | exact pI_rg _ | (unfold rg; omega)) dL_isFenced_173 (by decide) (fun c_173 => ?_) (fun c_173 => ?_)
    · omega
    · refine J_iload (M := mL_isFenced) dL_isFenced_176 rfl ?_
      first
        | refine Z_pf (M := mL_isFenced) (tgt := 311) dL_isFenced_178 (by decide) (fun c_178 => ?_) (fun c_178 => ?_)
        | refine Z_if_eq (M := mL_isFenced) (tgt := 311) (by first | assumption | exact pI_rg _ | (unfold rg; omega)) dL_isFenced_178 (by decide) (fun c_178 => ?_) (fun c_178 => ?_)
      · exact absurd c_178 (by decide)
      · refine J_aload (M := mL_isFenced) dL_isFenced_181 rfl ?_
        refine J_iload (M := mL_isFenced) dL_isFenced_183 rfl ?_
        refine J_iload (M := mL_isFenced) dL_isFenced_185 rfl ?_
        refine Z_iadd (M := mL_isFenced) dL_isFenced_187 ?_
        refine Z_ldc (M := mL_isFenced) (z := 1000000) dL_isFenced_188 kc_162 rfl ?_
        refine J_callS (M := mL_isFenced) (as := [_, _, _]) dL_isFenced_190 ca_L_163 ⟨by decide, by decide⟩ rfl (Nat.le_of_ble_eq_true rfl) (k' := k + 1 * a + 1) (n' := n + 6 * a + 6) (Nat.le_refl _) (Nat.le_refl _) (rL_from hL (by omega) (by omega)) (fun v_ h_ hv_ => ?_)
        obtain ⟨⟨y, rfl, y0, y1⟩, rfl⟩ := hv_
        refine J_istore (M := mL_isFenced) dL_isFenced_193 (by decide) ?_
        refine J_aload (M := mL_isFenced) dL_isFenced_195 rfl ?_
        refine J_iload (M := mL_isFenced) dL_isFenced_197 rfl ?_
        obtain ⟨x9, hx9⟩ : ∃ x, x = (if y % 9 < 7 then y % 9 else if y % 2 = 0 then 1 else 3) := ⟨_, rfl⟩
        have hx96 : 0 ≤ x9 ∧ x9 ≤ 6 := by rw [hx9]; split <;> (try split) <;> omega
        obtain ⟨d9, hd9⟩ : ∃ d, d = (if y / 9 % 4 = 0 then y / 36 % 400 else y / 36 % 45) := ⟨_, rfl⟩
        have hd94 : 0 ≤ d9 ∧ d9 ≤ 400 := by rw [hd9]; split <;> omega
        refine Z_ij (M := mL_isFenced) (pcB := 229) (x9) (fun hj_229 => ?_) ?_
        · refine J_iload (M := mL_isFenced) dL_isFenced_199 rfl ?_
          refine Z_bipush (M := mL_isFenced) dL_isFenced_201 rfl ?_
          refine Z_irem (M := mL_isFenced) (by omega) (by first | assumption | exact pI_rg _ | (unfold rg; omega)) (by decide) (by first | assumption | exact pI_rg _ | (unfold rg; omega)) dL_isFenced_203 ?_
          refine Z_bipush (M := mL_isFenced) dL_isFenced_204 rfl ?_
          refine Z_ic_ge (M := mL_isFenced) (tgt := 217) (by first | assumption | exact pI_rg _ | (unfold rg; omega)) (by first | assumption | exact pI_rg _ | (unfold rg; omega)) dL_isFenced_206 (by decide) (fun c_206 => ?_) (fun c_206 => ?_)
          · refine J_iload (M := mL_isFenced) dL_isFenced_217 rfl ?_
            refine Z_iconst (M := mL_isFenced) dL_isFenced_219 ?_
            refine Z_irem (M := mL_isFenced) (by omega) (by first | assumption | exact pI_rg _ | (unfold rg; omega)) (by decide) (by first | assumption | exact pI_rg _ | (unfold rg; omega)) dL_isFenced_220 ?_
            first
              | refine Z_pt (M := mL_isFenced) (tgt := 228) dL_isFenced_221 (by decide) (fun c_221 => ?_) (fun c_221 => ?_)
              | refine Z_if_ne (M := mL_isFenced) (tgt := 228) (by first | assumption | exact pI_rg _ | (unfold rg; omega)) dL_isFenced_221 (by decide) (fun c_221 => ?_) (fun c_221 => ?_)
            · refine Z_iconst (M := mL_isFenced) dL_isFenced_228 ?_
              exact hj_229 _ (by rw [hx9]; first | rw [if_pos (by omega)] | rw [if_neg (by omega), if_pos (by omega)] | rw [if_neg (by omega), if_neg (by omega)])
            · refine Z_iconst (M := mL_isFenced) dL_isFenced_224 ?_
              refine J_goto (M := mL_isFenced) (tgt := 229) dL_isFenced_225 (by decide) ?_
              exact hj_229 _ (by rw [hx9]; first | rw [if_pos (by omega)] | rw [if_neg (by omega), if_pos (by omega)] | rw [if_neg (by omega), if_neg (by omega)])
          · refine J_iload (M := mL_isFenced) dL_isFenced_209 rfl ?_
            refine Z_bipush (M := mL_isFenced) dL_isFenced_211 rfl ?_
            refine Z_irem (M := mL_isFenced) (by omega) (by first | assumption | exact pI_rg _ | (unfold rg; omega)) (by decide) (by first | assumption | exact pI_rg _ | (unfold rg; omega)) dL_isFenced_213 ?_
            refine J_goto (M := mL_isFenced) (tgt := 229) dL_isFenced_214 (by decide) ?_
            exact hj_229 _ (by rw [hx9]; first | rw [if_pos (by omega)] | rw [if_neg (by omega), if_pos (by omega)] | rw [if_neg (by omega), if_neg (by omega)])
        refine L_iast (M := mL_isFenced) (kf := 34) (N := 8) dL_isFenced_229 (by decide) rfl (by decide) (by omega) (by omega) ?_
        refine J_iload (M := mL_isFenced) dL_isFenced_230 rfl ?_
        refine Z_ij (M := mL_isFenced) (pcB := 262) (d9) (fun hj_262 => ?_) ?_
        · refine J_iload (M := mL_isFenced) dL_isFenced_232 rfl ?_
          refine Z_bipush (M := mL_isFenced) dL_isFenced_234 rfl ?_
          refine Z_idiv (M := mL_isFenced) (by omega) (by first | assumption | exact pI_rg _ | (unfold rg; omega)) (by decide) (by first | assumption | exact pI_rg _ | (unfold rg; omega)) dL_isFenced_236 ?_
          refine Z_iconst (M := mL_isFenced) dL_isFenced_237 ?_
          refine Z_irem (M := mL_isFenced) (by omega) (by first | assumption | exact pI_rg _ | (unfold rg; omega)) (by decide) (by first | assumption | exact pI_rg _ | (unfold rg; omega)) dL_isFenced_238 ?_
          first
            | refine Z_pt (M := mL_isFenced) (tgt := 254) dL_isFenced_239 (by decide) (fun c_239 => ?_) (fun c_239 => ?_)
            | refine Z_if_ne (M := mL_isFenced) (tgt := 254) (by first | assumption | exact pI_rg _ | (unfold rg; omega)) dL_isFenced_239 (by decide) (fun c_239 => ?_) (fun c_239 => ?_)
          · refine J_iload (M := mL_isFenced) dL_isFenced_254 rfl ?_
            refine Z_bipush (M := mL_isFenced) dL_isFenced_256 rfl ?_
            refine Z_idiv (M := mL_isFenced) (by omega) (by first | assumption | exact pI_rg _ | (unfold rg; omega)) (by decide) (by first | assumption | exact pI_rg _ | (unfold rg; omega)) dL_isFenced_258 ?_
            refine Z_bipush (M := mL_isFenced) dL_isFenced_259 rfl ?_
            refine Z_irem (M := mL_isFenced) (by omega) (by first | assumption | exact pI_rg _ | (unfold rg; omega)) (by decide) (by first | assumption | exact pI_rg _ | (unfold rg; omega)) dL_isFenced_261 ?_
            exact hj_262 _ (by rw [hd9]; first | rw [if_pos (by omega)] | rw [if_neg (by omega)])
          · refine J_iload (M := mL_isFenced) dL_isFenced_242 rfl ?_
            refine Z_bipush (M := mL_isFenced) dL_isFenced_244 rfl ?_
            refine Z_idiv (M := mL_isFenced) (by omega) (by first | assumption | exact pI_rg _ | (unfold rg; omega)) (by decide) (by first | assumption | exact pI_rg _ | (unfold rg; omega)) dL_isFenced_246 ?_
            refine Z_sipush (M := mL_isFenced) dL_isFenced_247 rfl ?_
            refine Z_irem (M := mL_isFenced) (by omega) (by first | assumption | exact pI_rg _ | (unfold rg; omega)) (by decide) (by first | assumption | exact pI_rg _ | (unfold rg; omega)) dL_isFenced_250 ?_
            refine J_goto (M := mL_isFenced) (tgt := 262) dL_isFenced_251 (by decide) ?_
            exact hj_262 _ (by rw [hd9]; first | rw [if_pos (by omega)] | rw [if_neg (by omega)])
        refine Z_iadd (M := mL_isFenced) dL_isFenced_262 ?_
        refine J_istore (M := mL_isFenced) dL_isFenced_263 (by decide) ?_
        refine J_aload (M := mL_isFenced) dL_isFenced_265 rfl ?_
        refine J_iload (M := mL_isFenced) dL_isFenced_267 rfl ?_
        refine J_iload (M := mL_isFenced) dL_isFenced_269 rfl ?_
        refine L_iast (M := mL_isFenced) (kf := 35) (N := 8) dL_isFenced_271 (by decide) rfl (by decide) (by omega) (by omega) ?_
        refine J_aload (M := mL_isFenced) dL_isFenced_272 rfl ?_
        refine Z_iconst (M := mL_isFenced) dL_isFenced_274 ?_
        refine J_dup2 (M := mL_isFenced) dL_isFenced_275 rfl rfl ?_
        refine L_iald (M := mL_isFenced) (kf := 37) (N := 10) dL_isFenced_276 (by decide) rfl (by decide) (by omega) (by omega) ?_
        refine Z_eq (M := mL_isFenced) (b := (i : Int)) f3 ?_
        refine Z_iconst (M := mL_isFenced) dL_isFenced_277 ?_
        refine Z_iadd (M := mL_isFenced) dL_isFenced_278 ?_
        refine L_iast (M := mL_isFenced) (kf := 37) (N := 10) dL_isFenced_279 (by decide) rfl (by decide) (by omega) (by omega) ?_
        refine J_aload_n (M := mL_isFenced) dL_isFenced_280 rfl rfl ?_
        refine J_aload (M := mL_isFenced) dL_isFenced_281 rfl ?_
        refine J_iload (M := mL_isFenced) dL_isFenced_283 rfl ?_
        refine L_iald (M := mL_isFenced) (kf := 34) (N := 8) dL_isFenced_285 (by decide) rfl (by decide) (by omega) (by omega) ?_
        refine Z_eq (M := mL_isFenced) (b := x9) (by rw [ts_n (by decide), ts_n (by decide)]; exact ts_self) ?_
        refine J_iload (M := mL_isFenced) dL_isFenced_286 rfl ?_
        have hR9 : 0 ≤ T + d9 ∧ T + d9 ≤ 1000000 := by omega
        have la9 := la_EVS E
        refine J_callW (M := mL_isFenced) (as := [_, _, _]) dL_isFenced_288 ca_L_158 ⟨by decide, by decide⟩ rfl (Nat.le_of_ble_eq_true rfl) (k' := k + 1 * a) (n' := n + 6 * a) (Nat.le_refl _) (Nat.le_refl _) (hd_ok (n := i) R (by rw [E.1 19 (by decide)]; show ¬ (1 : Int) = 0; decide) (by rw [la9]; exact E.2.2.1) (by omega) hx96 hR9 (by
          by_cases q0 : (i : Int) = 0
          · exact Or.inl q0
          · have w1 := f5 (i - 1) (by omega) (by omega)
            have w2 := (E.2.2.2.2 (i - 1) (by omega) (by omega)).2
            rw [la9, show 8 * la τ + (i : Int) - 1 = 8 * la τ + (i - 1) by omega, w2]
            exact Or.inr (by omega))) (fun v_ h_ hv_ => ?_)
        obtain ⟨rfl, r9, R9, rfl⟩ := hv_
        refine J_aload (M := mL_isFenced) dL_isFenced_291 rfl ?_
        refine Z_iconst (M := mL_isFenced) dL_isFenced_293 ?_
        refine L_iald (M := mL_isFenced) (kf := 37) (N := 10) dL_isFenced_294 (by decide) rfl (by decide) (by omega) (by omega) ?_
        refine Z_eq (M := mL_isFenced) (b := (i : Int) + 1) ts_self ?_
        refine Z_ic_ne (M := mL_isFenced) (tgt := 302) (by unfold rg; omega) (by unfold rg; omega) dL_isFenced_295 (by decide) (fun c_295 => ?_) (fun c_295 => ?_)
        · exact absurd rfl c_295
        · refine Z_iconst (M := mL_isFenced) dL_isFenced_298 ?_
          refine J_goto (M := mL_isFenced) (tgt := 303) dL_isFenced_299 (by decide) ?_
          refine J_istore (M := mL_isFenced) dL_isFenced_303 (by decide) ?_
          refine Z_iinc (M := mL_isFenced) dL_isFenced_305 rfl (by decide) ?_
          refine J_goto (M := mL_isFenced) (tgt := 169) dL_isFenced_308 (by decide) ?_
          have F2 := FIv_s (x := x9) (t := T + d9) Fi (by omega) hx96 (by omega) R9
          exact J_sub (ih (i + 1) (by push_cast; omega) _ _ _ _ (by rw [show ((i + 1 : Nat) : Int) = (i : Int) + 1 by push_cast; rfl]; exact F2)) (And.intro rfl (And.intro rfl (And.intro rfl (And.intro rfl (And.intro rfl (And.intro rfl (And.intro rfl (And.intro rfl (And.intro rfl (And.intro rfl (And.intro rfl (And.intro rfl (And.intro rfl (And.intro rfl (And.intro rfl (And.intro rfl (And.intro (vz (by push_cast; omega)) trivial)))))))))))))))))

theorem lt12 {w : Int → Int} {π : Int → Int64} {e : Int → Int} {b : Int} (h : ltold w π e b < 100) (he : e b ≤ 12) : e b < 12 := by
  have lr := lte_rg (w := w) (π := π) (e := e) (b := b)
  have h1 : (lte w π e b).2.2 = -1 := by unfold ltold at h; omega
  by_cases q : e b = 12
  · have h2 : (lte w π e b).2.2 = (if (tlF (lgl b) (ltch w π b) (e b).toNat).2.2 = -1 ∧ e b = 12 then (if (tlF (lgl b) (ltch w π b) (e b).toNat).1 < (tlF (lgl b) (ltch w π b) (e b).toNat).2.1 then 1 else 0) else (tlF (lgl b) (ltch w π b) (e b).toNat).2.2) := rfl
    rw [h2] at h1
    split at h1
    · split at h1 <;> omega
    · rename_i z
      exact absurd ⟨h1, q⟩ z
  · omega
theorem halt_v {σ : TS} {π : Int → Int64} {τ u : TS} {n : Int} {cc tt : Int → Int} (L : LW σ π τ) (W : WF τ) (Wu : WF u) (M : LM σ) (h : CAN σ π) (E : EVS (aT τ) u (la τ) n cc tt) : tch (fT u) (slo (u 17 0)) (u 10 (slo (u 17 0))) = jr u (la τ) (-2) := by
  obtain ⟨h1, h2, h3, h4⟩ := h
  obtain ⟨m0, m1, m2, m3, -⟩ := id M
  obtain ⟨⟨k1, k2, k3, k4⟩, k5, k6, k7⟩ := L.2.2.2.1.2 h1
  obtain ⟨-, x1, x2, -⟩ := L.2.2.1 (σ 37 2) m2.1 k5
  obtain ⟨-, y1, y2, -⟩ := L.2.2.1 (σ 37 3) m3.1 k6
  rw [h2] at x2
  rw [h3] at y2
  have hsl := slo_num (b := σ 37 1) ⟨h1, m1.2⟩
  have q0 := L.2.2.2.2.1 (σ 37 1) h1 m1.2
  have hla : la τ = 12 * slb (σ 37 1) + σ 32 (σ 37 1) := by unfold la; rw [k1, hsl, q0.1]
  have hla0 : 0 ≤ la τ := by have := slb_rg (b := σ 37 1) ⟨h1, m1.2⟩; have := wf10 W (slb (σ 37 1)); omega
  obtain ⟨e1, e2, e3, e4, e5⟩ := E
  have u17 : u 17 0 = num (σ 37 1) := by rw [e1 17 (by decide), aT_k (by decide)]; exact k1
  have u10 : u 10 (slb (σ 37 1)) = σ 32 (σ 37 1) := by rw [e1 10 (by decide), aT_k (by decide)]; exact q0.1
  have f3 : fT u 3 = τ 3 := by
    unfold fT
    rw [ts_n (by decide), ts_n (by decide), ts_n (by decide), e1 3 (by decide), aT_k (by decide)]
  have f13 : fT u 13 = upZ (upZ (τ 13) (2 * la τ) (τ 18 0)) (2 * la τ + 1) (τ 18 1) := by
    unfold fT
    rw [ts_n (by decide), ts_n (by decide), ts_n (by decide), e1 13 (by decide)]
    rfl
  have f14 : fT u 14 (la τ) = -2 := by
    unfold fT
    rw [ts_n (by decide), ts_n (by decide), ts_n (by decide), e1 14 (by decide)]
    exact if_pos rfl
  have f13a : fT u 13 (2 * la τ) = σ 37 2 := by
    rw [f13, k2]
    unfold upZ
    rw [if_neg (by omega), if_pos rfl]
  have f13b : fT u 13 (2 * la τ + 1) = σ 37 3 := by
    rw [f13, k3]
    unfold upZ
    rw [if_pos rfl]
  have jJ : jd (fT u) (la τ) = jr u (la τ) (-2) := jd_jr f14
  have jg := jr_rg Wu (ph := la τ) (r := -2) (by decide) hla0
  have n1 : ¬ stk (fT u) (σ 37 2) (slb (σ 37 1)) := by
    rintro ⟨z, -⟩
    rw [f3, x2] at z
    exact absurd z (by decide)
  have n2 : ¬ stk (fT u) (σ 37 3) (slb (σ 37 1)) := by
    rintro ⟨z, -⟩
    rw [f3, y2] at z
    exact absurd z (by decide)
  rw [u17, hsl, u10]
  unfold tch
  rw [← hla, f13a, f13b, jJ, if_neg n1, if_neg n2, mand_3 jg, mand_3 jg]
theorem WF_fT {u : TS} (W : WF u) (h : u 10 (slo (u 17 0)) < 12) : WF (fT u) := by
  have b := wf10 W (slo (u 17 0))
  have h1 : (bnd 10).1 ≤ u 10 (slo (u 17 0)) + 1 ∧ u 10 (slo (u 17 0)) + 1 ≤ (bnd 10).2 := by show 0 ≤ _ ∧ _ ≤ 12; omega
  exact WF_ts (WF_ts (WF_ts W h1) (by decide)) (by decide)
set_option maxRecDepth 100000 in
set_option maxHeartbeats 4000000 in
theorem rL_isFenced {X : GX} {g : LH} {σ ρ τ : TS} {π : Int → Int64} {c q z : Int} (hL : xL X ≤ 260) (I : IV σ π g ρ τ c) (hc : c ≤ 199) (hq : 0 ≤ q ∧ q ≤ 1500) (hz : 0 ≤ z ∧ z ≤ 10000000) : CT X mL_isFenced [vR (some (1, 0)), vR (some (30, 0)), vR (some (31, 0)), vR (some (32, 0)), vR (some (33, 0)), vR (some (34, 0)), vR (some (35, 0)), vR (some (36, 0)), vR (some (37, 0)), vR (some tScr), vI (iI q), vI (iI z)] (HW g σ π ρ) (rQ (KQ (c + 1))) := by
  obtain ⟨L, W, M, G, R, d8, dc⟩ := id I
  obtain ⟨m0, m1, m2, m3, m4, m6, m7, m9⟩ := id M
  refine CT_of (by decide +kernel) rfl (Nat.le_of_ble_eq_true rfl) ?_
  refine Z_bj (M := mL_isFenced) (pcB := 62) (CAN σ π) (fun hj_62 => ?_) ?_
  · refine J_aload (M := mL_isFenced) dL_isFenced_0 rfl ?_
    refine Z_iconst (M := mL_isFenced) dL_isFenced_2 ?_
    refine L_iald (M := mL_isFenced) (kf := 37) (N := 10) dL_isFenced_3 (by decide) rfl (by decide) (by omega) (by omega) ?_
    refine Z_if_lt (M := mL_isFenced) (tgt := 61) (by first | assumption | exact pI_rg _ | (unfold rg; omega)) dL_isFenced_4 (by decide) (fun c_4 => ?_) (fun c_4 => ?_)
    · refine Z_iconst (M := mL_isFenced) dL_isFenced_61 ?_
      exact hj_62 _ (pI_f (by unfold CAN; omega)).symm
    · refine J_aload (M := mL_isFenced) dL_isFenced_7 rfl ?_
      refine Z_iconst (M := mL_isFenced) dL_isFenced_9 ?_
      refine L_iald (M := mL_isFenced) (kf := 37) (N := 10) dL_isFenced_10 (by decide) rfl (by decide) (by omega) (by omega) ?_
      first
        | refine Z_pt (M := mL_isFenced) (tgt := 61) dL_isFenced_11 (by decide) (fun c_11 => ?_) (fun c_11 => ?_)
        | refine Z_if_ne (M := mL_isFenced) (tgt := 61) (by first | assumption | exact pI_rg _ | (unfold rg; omega)) dL_isFenced_11 (by decide) (fun c_11 => ?_) (fun c_11 => ?_)
      · refine Z_iconst (M := mL_isFenced) dL_isFenced_61 ?_
        exact hj_62 _ (pI_f (by unfold CAN; omega)).symm
      · refine J_aload_n (M := mL_isFenced) dL_isFenced_14 rfl rfl ?_
        refine Z_iconst (M := mL_isFenced) dL_isFenced_15 ?_
        refine J_aload (M := mL_isFenced) dL_isFenced_16 rfl ?_
        refine Z_iconst (M := mL_isFenced) dL_isFenced_18 ?_
        refine L_iald (M := mL_isFenced) (kf := 37) (N := 10) dL_isFenced_19 (by decide) rfl (by decide) (by omega) (by omega) ?_
        refine Z_imul (M := mL_isFenced) dL_isFenced_20 ?_
        refine Z_iconst (M := mL_isFenced) dL_isFenced_21 ?_
        refine Z_iadd (M := mL_isFenced) dL_isFenced_22 ?_
        refine L_iald (M := mL_isFenced) (kf := 30) (N := 32) dL_isFenced_23 (by decide) rfl (by decide) (by omega) (by omega) ?_
        have b1 := wl30 W (2 * σ 37 2 + 1)
        refine Z_iconst (M := mL_isFenced) dL_isFenced_24 ?_
        refine Z_ic_ne (M := mL_isFenced) (tgt := 61) (by first | assumption | exact pI_rg _ | (unfold rg; omega)) (by first | assumption | exact pI_rg _ | (unfold rg; omega)) dL_isFenced_25 (by decide) (fun c_25 => ?_) (fun c_25 => ?_)
        · refine Z_iconst (M := mL_isFenced) dL_isFenced_61 ?_
          exact hj_62 _ (pI_f (by unfold CAN; omega)).symm
        · refine J_aload_n (M := mL_isFenced) dL_isFenced_28 rfl rfl ?_
          refine Z_iconst (M := mL_isFenced) dL_isFenced_29 ?_
          refine J_aload (M := mL_isFenced) dL_isFenced_30 rfl ?_
          refine Z_iconst (M := mL_isFenced) dL_isFenced_32 ?_
          refine L_iald (M := mL_isFenced) (kf := 37) (N := 10) dL_isFenced_33 (by decide) rfl (by decide) (by omega) (by omega) ?_
          refine Z_imul (M := mL_isFenced) dL_isFenced_34 ?_
          refine Z_iconst (M := mL_isFenced) dL_isFenced_35 ?_
          refine Z_iadd (M := mL_isFenced) dL_isFenced_36 ?_
          refine L_iald (M := mL_isFenced) (kf := 30) (N := 32) dL_isFenced_37 (by decide) rfl (by decide) (by omega) (by omega) ?_
          have b2 := wl30 W (2 * σ 37 3 + 1)
          refine Z_iconst (M := mL_isFenced) dL_isFenced_38 ?_
          refine Z_ic_ne (M := mL_isFenced) (tgt := 61) (by first | assumption | exact pI_rg _ | (unfold rg; omega)) (by first | assumption | exact pI_rg _ | (unfold rg; omega)) dL_isFenced_39 (by decide) (fun c_39 => ?_) (fun c_39 => ?_)
          · refine Z_iconst (M := mL_isFenced) dL_isFenced_61 ?_
            exact hj_62 _ (pI_f (by unfold CAN; omega)).symm
          · refine J_aload_n (M := mL_isFenced) dL_isFenced_42 rfl rfl ?_
            refine J_aload_n (M := mL_isFenced) dL_isFenced_43 rfl rfl ?_
            refine J_aload_n (M := mL_isFenced) dL_isFenced_44 rfl rfl ?_
            refine J_aload (M := mL_isFenced) dL_isFenced_45 rfl ?_
            refine Z_iconst (M := mL_isFenced) dL_isFenced_47 ?_
            refine L_iald (M := mL_isFenced) (kf := 37) (N := 10) dL_isFenced_48 (by decide) rfl (by decide) (by omega) (by omega) ?_
            refine M_callS (M := mL_isFenced) (as := [_, _, _, _]) dL_isFenced_49 ca_L_23 ⟨by decide, by decide⟩ rfl (Nat.le_of_ble_eq_true rfl) rfl rfl (rL_told lw30 lw31 lw32 (wl30 W) (wl32 W) (by omega)) ?_
            have b3 := ltold_rg (w := σ 30) (π := π) (e := σ 32) (b := σ 37 1)
            refine Z_bipush (M := mL_isFenced) dL_isFenced_52 rfl ?_
            refine Z_ic_ge (M := mL_isFenced) (tgt := 61) (by first | assumption | exact pI_rg _ | (unfold rg; omega)) (by first | assumption | exact pI_rg _ | (unfold rg; omega)) dL_isFenced_54 (by decide) (fun c_54 => ?_) (fun c_54 => ?_)
            · refine Z_iconst (M := mL_isFenced) dL_isFenced_61 ?_
              exact hj_62 _ (pI_f (by unfold CAN; omega)).symm
            · refine Z_iconst (M := mL_isFenced) dL_isFenced_57 ?_
              refine J_goto (M := mL_isFenced) (tgt := 62) dL_isFenced_58 (by decide) ?_
              exact hj_62 _ (pI_t (by unfold CAN; omega)).symm
  refine J_istore (M := mL_isFenced) dL_isFenced_62 (by decide) ?_
  refine J_iload (M := mL_isFenced) dL_isFenced_64 rfl ?_
  first
    | refine Z_pt (M := mL_isFenced) (tgt := 112) dL_isFenced_66 (by decide) (fun c_66 => ?_) (fun c_66 => ?_)
    | refine Z_if_ne (M := mL_isFenced) (tgt := 112) (by first | assumption | exact pI_rg _ | (unfold rg; omega)) dL_isFenced_66 (by decide) (fun c_66 => ?_) (fun c_66 => ?_)
  · have hcan : CAN σ π := by assumption
    have h1 := hcan.1
    obtain ⟨⟨k1, k2, k3, k4⟩, k5, k6, k7⟩ := L.2.2.2.1.2 h1
    have hsl := slo_num (b := σ 37 1) ⟨h1, m1.2⟩
    have q10 := (L.2.2.2.2.1 (σ 37 1) h1 m1.2).1
    have h12 := lt12 hcan.2.2.2 (wl32 W (σ 37 1)).2
    obtain ⟨N, hN⟩ : ∃ N, N = 1 + z % 6 := ⟨_, rfl⟩
    have hN6 : 1 ≤ N ∧ N ≤ 6 := by omega
    have kk : ∀ s ρ1 u T, FIv σ τ (c + 1) s ρ1 u N T → J X mL_isFenced 311 [some (vR (some (1, 0))), some (vR (some (30, 0))), some (vR (some (31, 0))), some (vR (some (32, 0))), some (vR (some (33, 0))), some (vR (some (34, 0))), some (vR (some (35, 0))), some (vR (some (36, 0))), some (vR (some (37, 0))), some (vR (some tScr)), some (vI (iI q)), some (vI (iI z)), none, none, none, some (vI (iI (σ 37 1))), some (vI (iI 1)), none, none, none, none, none, none, none, none, none] [] (HW g s π ρ1) 14 90 (rQ (KQ (c + 1))) := by
      intro s ρ1 u T F1
      have b32 := wl32 W (σ 37 1)
      obtain ⟨R1, E, f1, f2, ⟨f3, f3'⟩, W1, f4, f5, f6⟩ := id F1
      have Wu := R1.1
      have s9 : s 37 9 = σ 37 9 := f2 9 (by decide)
      have s0 : s 37 0 = σ 37 0 := f2 0 (by decide)
      have s32 : s 32 = σ 32 := f1 32 (by decide)
      have s2 : s 37 2 = σ 37 2 := f2 2 (by decide)
      have s3 : s 37 3 = σ 37 3 := f2 3 (by decide)
      have hF9 : 0 ≤ s 37 9 ∧ s 37 9 ≤ 1 := by rw [s9]; exact m9
      have hn5 : 0 ≤ s 37 5 ∧ s 37 5 ≤ 6 := by rw [f3]; omega
      have St1 : ∀ i j : Nat, i ≤ j → (j : Int) < s 37 5 → s 35 i ≤ s 35 j := by rw [f3]; exact f6
      have u19 : u 19 0 = 1 := by rw [E.1 19 (by decide)]; rfl
      have u5 : u 5 0 = σ 37 0 := by rw [E.1 5 (by decide), aT_k (by decide)]; exact L.1.1.2.2.1
      have u00 : u 0 0 = σ 37 9 := by rw [E.1 0 (by decide), aT_k (by decide)]; exact L.1.1.1
      have hla0 : 0 ≤ la τ := by unfold la; rw [k1, hsl]; have := slb_rg (b := σ 37 1) ⟨h1, m1.2⟩; have := wf10 R.1 (slb (σ 37 1)); omega
      obtain ⟨N1, hN1⟩ : ∃ x, x = jr u (la τ) (-1) := ⟨_, rfl⟩
      obtain ⟨Z1, hZ1⟩ : ∃ x, x = jr u (la τ) 0 := ⟨_, rfl⟩
      obtain ⟨O1, hO1⟩ : ∃ x, x = jr u (la τ) 1 := ⟨_, rfl⟩
      obtain ⟨J1, hJ1⟩ : ∃ x, x = jr u (la τ) (-2) := ⟨_, rfl⟩
      obtain ⟨S1, hS1⟩ : ∃ x : Int, x = (if J1 = N1 then 0 else if J1 = Z1 then 1 else 2) := ⟨_, rfl⟩
      have rN : 0 ≤ N1 ∧ N1 ≤ 3 := by rw [hN1]; exact jr_rg Wu (by decide) hla0
      have rZ : 0 ≤ Z1 ∧ Z1 ≤ 3 := by rw [hZ1]; exact jr_rg Wu (by decide) hla0
      have rO : 0 ≤ O1 ∧ O1 ≤ 3 := by rw [hO1]; exact jr_rg Wu (by decide) hla0
      have rJ : 0 ≤ J1 ∧ J1 ≤ 3 := by rw [hJ1]; exact jr_rg Wu (by decide) hla0
      have rS : 0 ≤ S1 ∧ S1 ≤ 2 := by rw [hS1]; split <;> (try split) <;> omega
      have e8 : ∀ r, J8 (s 37 9) (s 37 5) (s 34) (s 35) r = jr u (la τ) r := fun r => by
        rw [f3, s9, ← u00]
        exact (J8_jr (u := u) (ph := la τ) (n := N) (r := r) hla0 E.2.2.1 (by omega) (wl34 W1) E.2.2.2.2).symm
      have hJ3 : J1 = N1 ∨ J1 = Z1 ∨ J1 = O1 := by
        obtain ⟨r, hr, he⟩ := J8_had (F := s 37 9) (n := s 37 5) (c := s 34) (t := s 35) (wl34 W1)
        rw [e8, e8, ← hJ1] at he
        rcases hr with rfl | rfl | rfl
        · exact Or.inl (by rw [hN1]; exact he)
        · exact Or.inr (Or.inl (by rw [hZ1]; exact he))
        · exact Or.inr (Or.inr (by rw [hO1]; exact he))
      have hL3 := LW_f L R.1 M h1 h12 E f1 f2 hN1 hZ1 hO1 hJ1 hS1 hJ3 rN rZ rO
      refine J_iload (M := mL_isFenced) dL_isFenced_311 rfl ?_
      first
        | refine Z_pf (M := mL_isFenced) (tgt := 357) dL_isFenced_313 (by decide) (fun c_313 => ?_) (fun c_313 => ?_)
        | refine Z_if_eq (M := mL_isFenced) (tgt := 357) (by first | assumption | exact pI_rg _ | (unfold rg; omega)) dL_isFenced_313 (by decide) (fun c_313 => ?_) (fun c_313 => ?_)
      · exact absurd c_313 (by decide)
      · refine J_aload_n (M := mL_isFenced) dL_isFenced_316 rfl rfl ?_
        refine J_callV (M := mL_isFenced) (as := []) dL_isFenced_317 ca_L_53 ⟨by decide, by decide⟩ lw1 rfl (Nat.le_of_ble_eq_true rfl) (k' := 14) (n' := 90) (by decide) (by decide) (ck0 (p_isFencing R1)) (fun v_ h_ hv_ => ?_)
        obtain ⟨rfl, rfl⟩ := hv_
        refine Z_eq (M := mL_isFenced) u19 ?_
        first
          | refine Z_pf (M := mL_isFenced) (tgt := 357) dL_isFenced_320 (by decide) (fun c_320 => ?_) (fun c_320 => ?_)
          | refine Z_if_eq (M := mL_isFenced) (tgt := 357) (by first | assumption | exact pI_rg _ | (unfold rg; omega)) dL_isFenced_320 (by decide) (fun c_320 => ?_) (fun c_320 => ?_)
        · exact absurd c_320 (by decide)
        · refine J_aload_n (M := mL_isFenced) dL_isFenced_323 rfl rfl ?_
          refine J_callW (M := mL_isFenced) (as := [_]) dL_isFenced_324 ca_L_152 ⟨by decide, by decide⟩ rfl (Nat.le_of_ble_eq_true rfl) (k' := 10) (n' := 56) (by decide) (by decide) (al_no R1 (by omega) (fun z => absurd z.1.2.1 (by omega))) (fun v_ h_ hv_ => ?_)
          obtain ⟨rfl, rfl⟩ := hv_
          refine Z_bipush (M := mL_isFenced) dL_isFenced_327 rfl ?_
          refine Z_ic_ne (M := mL_isFenced) (tgt := 357) (by first | assumption | exact pI_rg _ | (unfold rg; omega)) (by first | assumption | exact pI_rg _ | (unfold rg; omega)) dL_isFenced_329 (by decide) (fun c_329 => ?_) (fun c_329 => ?_)
          · exact absurd rfl c_329
          · refine J_aload (M := mL_isFenced) dL_isFenced_332 rfl ?_
            refine Z_iconst (M := mL_isFenced) dL_isFenced_334 ?_
            refine L_iald (M := mL_isFenced) (kf := 37) (N := 10) dL_isFenced_335 (by decide) rfl (by decide) (by omega) (by omega) ?_
            refine Z_if_eq (M := mL_isFenced) (tgt := 353) (by unfold rg; omega) dL_isFenced_336 (by decide) (fun c_336 => ?_) (fun c_336 => ?_)
            · omega
            · refine J_aload_n (M := mL_isFenced) dL_isFenced_339 rfl rfl ?_
              refine Z_iconst (M := mL_isFenced) dL_isFenced_340 ?_
              refine Z_sipush (M := mL_isFenced) dL_isFenced_341 rfl ?_
              refine Z_iconst (M := mL_isFenced) dL_isFenced_344 ?_
              refine J_callW (M := mL_isFenced) (as := [_, _, _, _]) dL_isFenced_345 ca_L_166 ⟨by decide, by decide⟩ rfl (Nat.le_of_ble_eq_true rfl) (k' := 9) (n' := 50) (by decide) (by decide) (ts_no R1 (by omega) (by omega)) (fun v_ h_ hv_ => ?_)
              obtain ⟨rfl, rfl⟩ := hv_
              refine Z_bipush (M := mL_isFenced) dL_isFenced_348 rfl ?_
              refine Z_ic_ne (M := mL_isFenced) (tgt := 357) (by first | assumption | exact pI_rg _ | (unfold rg; omega)) (by first | assumption | exact pI_rg _ | (unfold rg; omega)) dL_isFenced_350 (by decide) (fun c_350 => ?_) (fun c_350 => ?_)
              · exact absurd rfl c_350
              · refine Z_iconst (M := mL_isFenced) dL_isFenced_353 ?_
                refine J_goto (M := mL_isFenced) (tgt := 358) dL_isFenced_354 (by decide) ?_
                refine J_istore (M := mL_isFenced) dL_isFenced_358 (by decide) ?_
                refine J_aload_n (M := mL_isFenced) dL_isFenced_360 rfl rfl ?_
                refine J_iload (M := mL_isFenced) dL_isFenced_361 rfl ?_
                refine L_iald (M := mL_isFenced) (kf := 32) (N := 9) dL_isFenced_363 (by decide) rfl (by decide) (by omega) (by omega) ?_
                refine Z_eq (M := mL_isFenced) (b := σ 32 (σ 37 1)) (by rw [s32]) ?_
                refine J_istore (M := mL_isFenced) dL_isFenced_364 (by decide) ?_
                refine Z_iconst (M := mL_isFenced) dL_isFenced_366 ?_
                refine J_istore (M := mL_isFenced) dL_isFenced_367 (by decide) ?_
                refine J_aload (M := mL_isFenced) dL_isFenced_369 rfl ?_
                refine J_aload (M := mL_isFenced) dL_isFenced_371 rfl ?_
                refine J_aload (M := mL_isFenced) dL_isFenced_373 rfl ?_
                refine Z_iconst (M := mL_isFenced) dL_isFenced_375 ?_
                refine M_callS (M := mL_isFenced) (as := [_, _, _, _]) dL_isFenced_376 ca_L_169 ⟨by decide, by decide⟩ rfl (Nat.le_of_ble_eq_true rfl) rfl rfl (rL_judge lw34 lw35 lw37 (wl34 W1) (wl35 W1) hF9 hn5 (by decide) St1) ?_
                refine Z_eq (M := mL_isFenced) (b := N1) (by rw [e8]; exact hN1.symm) ?_
                refine J_istore (M := mL_isFenced) dL_isFenced_379 (by decide) ?_
                refine J_aload (M := mL_isFenced) dL_isFenced_381 rfl ?_
                refine J_aload (M := mL_isFenced) dL_isFenced_383 rfl ?_
                refine J_aload (M := mL_isFenced) dL_isFenced_385 rfl ?_
                refine Z_iconst (M := mL_isFenced) dL_isFenced_387 ?_
                refine M_callS (M := mL_isFenced) (as := [_, _, _, _]) dL_isFenced_388 ca_L_169 ⟨by decide, by decide⟩ rfl (Nat.le_of_ble_eq_true rfl) rfl rfl (rL_judge lw34 lw35 lw37 (wl34 W1) (wl35 W1) hF9 hn5 (by decide) St1) ?_
                refine Z_eq (M := mL_isFenced) (b := Z1) (by rw [e8]; exact hZ1.symm) ?_
                refine J_istore (M := mL_isFenced) dL_isFenced_391 (by decide) ?_
                refine J_aload (M := mL_isFenced) dL_isFenced_393 rfl ?_
                refine J_aload (M := mL_isFenced) dL_isFenced_395 rfl ?_
                refine J_aload (M := mL_isFenced) dL_isFenced_397 rfl ?_
                refine Z_iconst (M := mL_isFenced) dL_isFenced_399 ?_
                refine M_callS (M := mL_isFenced) (as := [_, _, _, _]) dL_isFenced_400 ca_L_169 ⟨by decide, by decide⟩ rfl (Nat.le_of_ble_eq_true rfl) rfl rfl (rL_judge lw34 lw35 lw37 (wl34 W1) (wl35 W1) hF9 hn5 (by decide) St1) ?_
                refine Z_eq (M := mL_isFenced) (b := O1) (by rw [e8]; exact hO1.symm) ?_
                refine J_istore (M := mL_isFenced) dL_isFenced_403 (by decide) ?_
                refine J_aload (M := mL_isFenced) dL_isFenced_405 rfl ?_
                refine J_aload (M := mL_isFenced) dL_isFenced_407 rfl ?_
                refine J_aload (M := mL_isFenced) dL_isFenced_409 rfl ?_
                refine Z_bipush (M := mL_isFenced) dL_isFenced_411 rfl ?_
                refine M_callS (M := mL_isFenced) (as := [_, _, _, _]) dL_isFenced_413 ca_L_169 ⟨by decide, by decide⟩ rfl (Nat.le_of_ble_eq_true rfl) rfl rfl (rL_judge lw34 lw35 lw37 (wl34 W1) (wl35 W1) hF9 hn5 (by decide) St1) ?_
                refine Z_eq (M := mL_isFenced) (b := J1) (by rw [e8]; exact hJ1.symm) ?_
                refine J_istore (M := mL_isFenced) dL_isFenced_416 (by decide) ?_
                refine Z_ij (M := mL_isFenced) (pcB := 441) (S1) (fun hj_441 => ?_) ?_
                · refine J_iload (M := mL_isFenced) dL_isFenced_418 rfl ?_
                  refine J_iload (M := mL_isFenced) dL_isFenced_420 rfl ?_
                  refine Z_ic_ne (M := mL_isFenced) (tgt := 429) (by first | assumption | exact pI_rg _ | (unfold rg; omega)) (by first | assumption | exact pI_rg _ | (unfold rg; omega)) dL_isFenced_422 (by decide) (fun c_422 => ?_) (fun c_422 => ?_)
                  · refine J_iload (M := mL_isFenced) dL_isFenced_429 rfl ?_
                    refine J_iload (M := mL_isFenced) dL_isFenced_431 rfl ?_
                    refine Z_ic_ne (M := mL_isFenced) (tgt := 440) (by first | assumption | exact pI_rg _ | (unfold rg; omega)) (by first | assumption | exact pI_rg _ | (unfold rg; omega)) dL_isFenced_433 (by decide) (fun c_433 => ?_) (fun c_433 => ?_)
                    · refine Z_iconst (M := mL_isFenced) dL_isFenced_440 ?_
                      exact hj_441 _ (by rw [hS1]; first | rw [if_pos (by omega)] | rw [if_neg (by omega), if_pos (by omega)] | rw [if_neg (by omega), if_neg (by omega)])
                    · refine Z_iconst (M := mL_isFenced) dL_isFenced_436 ?_
                      refine J_goto (M := mL_isFenced) (tgt := 441) dL_isFenced_437 (by decide) ?_
                      exact hj_441 _ (by rw [hS1]; first | rw [if_pos (by omega)] | rw [if_neg (by omega), if_pos (by omega)] | rw [if_neg (by omega), if_neg (by omega)])
                  · refine Z_iconst (M := mL_isFenced) dL_isFenced_425 ?_
                    refine J_goto (M := mL_isFenced) (tgt := 441) dL_isFenced_426 (by decide) ?_
                    exact hj_441 _ (by rw [hS1]; first | rw [if_pos (by omega)] | rw [if_neg (by omega), if_pos (by omega)] | rw [if_neg (by omega), if_neg (by omega)])
                refine J_istore (M := mL_isFenced) dL_isFenced_441 (by decide) ?_
                refine J_aload (M := mL_isFenced) dL_isFenced_443 rfl ?_
                refine Z_iconst (M := mL_isFenced) dL_isFenced_445 ?_
                refine L_iald (M := mL_isFenced) (kf := 37) (N := 10) dL_isFenced_446 (by decide) rfl (by decide) (by omega) (by omega) ?_
                refine Z_eq (M := mL_isFenced) s2 ?_
                refine Z_i2l (M := mL_isFenced) (by first | assumption | exact pI_rg _ | (unfold rg; omega)) dL_isFenced_447 ?_
                refine Z_ldc2 (M := mL_isFenced) (z := 16) dL_isFenced_448 kl_173 (by decide +kernel) ?_
                refine J_aload (M := mL_isFenced) dL_isFenced_451 rfl ?_
                refine Z_iconst (M := mL_isFenced) dL_isFenced_453 ?_
                refine L_iald (M := mL_isFenced) (kf := 37) (N := 10) dL_isFenced_454 (by decide) rfl (by decide) (by omega) (by omega) ?_
                refine Z_eq (M := mL_isFenced) s3 ?_
                refine Z_i2l (M := mL_isFenced) (by first | assumption | exact pI_rg _ | (unfold rg; omega)) dL_isFenced_455 ?_
                refine Z_lmul (M := mL_isFenced) dL_isFenced_456 ?_
                refine Z_ladd (M := mL_isFenced) dL_isFenced_457 ?_
                refine Z_ldc2 (M := mL_isFenced) (z := 256) dL_isFenced_458 kl_175 (by decide +kernel) ?_
                refine J_iload (M := mL_isFenced) dL_isFenced_461 rfl ?_
                refine Z_i2l (M := mL_isFenced) (by first | assumption | exact pI_rg _ | (unfold rg; omega)) dL_isFenced_463 ?_
                refine Z_lmul (M := mL_isFenced) dL_isFenced_464 ?_
                refine Z_ladd (M := mL_isFenced) dL_isFenced_465 ?_
                refine Z_ldc2 (M := mL_isFenced) (z := 1024) dL_isFenced_466 kl_177 (by decide +kernel) ?_
                refine J_iload (M := mL_isFenced) dL_isFenced_469 rfl ?_
                refine Z_i2l (M := mL_isFenced) (by first | assumption | exact pI_rg _ | (unfold rg; omega)) dL_isFenced_471 ?_
                refine Z_lmul (M := mL_isFenced) dL_isFenced_472 ?_
                refine Z_ladd (M := mL_isFenced) dL_isFenced_473 ?_
                refine Z_ldc2 (M := mL_isFenced) (z := 4096) dL_isFenced_474 kl_179 (by decide +kernel) ?_
                refine J_iload (M := mL_isFenced) dL_isFenced_477 rfl ?_
                refine Z_i2l (M := mL_isFenced) (by first | assumption | exact pI_rg _ | (unfold rg; omega)) dL_isFenced_479 ?_
                refine Z_lmul (M := mL_isFenced) dL_isFenced_480 ?_
                refine Z_ladd (M := mL_isFenced) dL_isFenced_481 ?_
                refine Z_ldc2 (M := mL_isFenced) (z := 16384) dL_isFenced_482 kl_181 (by decide +kernel) ?_
                refine J_iload (M := mL_isFenced) dL_isFenced_485 rfl ?_
                refine Z_i2l (M := mL_isFenced) (by first | assumption | exact pI_rg _ | (unfold rg; omega)) dL_isFenced_487 ?_
                refine Z_lmul (M := mL_isFenced) dL_isFenced_488 ?_
                refine Z_ladd (M := mL_isFenced) dL_isFenced_489 ?_
                refine J_lstore (M := mL_isFenced) dL_isFenced_490 (by decide) ?_
                refine Z_bipush (M := mL_isFenced) dL_isFenced_492 rfl ?_
                refine J_iload (M := mL_isFenced) dL_isFenced_494 rfl ?_
                refine Z_iconst (M := mL_isFenced) dL_isFenced_496 ?_
                refine Z_irem (M := mL_isFenced) (by omega) (by first | assumption | exact pI_rg _ | (unfold rg; omega)) (by decide) (by first | assumption | exact pI_rg _ | (unfold rg; omega)) dL_isFenced_497 ?_
                refine Z_imul (M := mL_isFenced) dL_isFenced_498 ?_
                refine J_istore (M := mL_isFenced) dL_isFenced_499 (by decide) ?_
                refine J_aload_n (M := mL_isFenced) dL_isFenced_501 rfl rfl ?_
                refine Z_iconst (M := mL_isFenced) dL_isFenced_502 ?_
                refine J_iload (M := mL_isFenced) dL_isFenced_503 rfl ?_
                refine Z_imul (M := mL_isFenced) dL_isFenced_505 ?_
                refine J_iload (M := mL_isFenced) dL_isFenced_506 rfl ?_
                refine Z_iconst (M := mL_isFenced) dL_isFenced_508 ?_
                refine Z_idiv (M := mL_isFenced) (by omega) (by first | assumption | exact pI_rg _ | (unfold rg; omega)) (by decide) (by first | assumption | exact pI_rg _ | (unfold rg; omega)) dL_isFenced_509 ?_
                refine Z_iadd (M := mL_isFenced) dL_isFenced_510 ?_
                refine J_aload_n (M := mL_isFenced) dL_isFenced_511 rfl rfl ?_
                refine Z_iconst (M := mL_isFenced) dL_isFenced_512 ?_
                refine J_iload (M := mL_isFenced) dL_isFenced_513 rfl ?_
                refine Z_imul (M := mL_isFenced) dL_isFenced_515 ?_
                refine J_iload (M := mL_isFenced) dL_isFenced_516 rfl ?_
                refine Z_iconst (M := mL_isFenced) dL_isFenced_518 ?_
                refine Z_idiv (M := mL_isFenced) (by omega) (by first | assumption | exact pI_rg _ | (unfold rg; omega)) (by decide) (by first | assumption | exact pI_rg _ | (unfold rg; omega)) dL_isFenced_519 ?_
                refine Z_iadd (M := mL_isFenced) dL_isFenced_520 ?_
                refine L_lald (M := mL_isFenced) dL_isFenced_521 (by omega) (by omega) ?_
                refine Z_ldc2 (M := mL_isFenced) (z := 65535) dL_isFenced_522 kl_183 (by decide +kernel) ?_
                refine J_iload (M := mL_isFenced) dL_isFenced_525 rfl ?_
                refine J_lshl (M := mL_isFenced) dL_isFenced_527 ?_
                refine Z_ldc2 (M := mL_isFenced) (z := (-1)) dL_isFenced_528 kl_185 (by decide +kernel) ?_
                refine J_lxor (M := mL_isFenced) dL_isFenced_531 ?_
                refine J_land (M := mL_isFenced) dL_isFenced_532 ?_
                refine J_lload (M := mL_isFenced) dL_isFenced_533 rfl ?_
                refine J_iload (M := mL_isFenced) dL_isFenced_535 rfl ?_
                refine J_lshl (M := mL_isFenced) dL_isFenced_537 ?_
                refine J_lor (M := mL_isFenced) dL_isFenced_538 ?_
                refine Z_leq (M := mL_isFenced) (y := (pt (π (3 * σ 37 1 + σ 32 (σ 37 1) / 4)) (16 * (σ 32 (σ 37 1) % 4)) 65535 (σ 37 2 + 16 * σ 37 3 + 256 * N1 + 1024 * Z1 + 4096 * O1 + 16384 * S1))) rfl ?_
                refine L_last (M := mL_isFenced) dL_isFenced_539 (by omega) (by omega) ?_
                refine J_aload_n (M := mL_isFenced) dL_isFenced_540 rfl rfl ?_
                refine J_iload (M := mL_isFenced) dL_isFenced_541 rfl ?_
                refine J_dup2 (M := mL_isFenced) dL_isFenced_543 rfl rfl ?_
                refine L_iald (M := mL_isFenced) (kf := 32) (N := 9) dL_isFenced_544 (by decide) rfl (by decide) (by omega) (by omega) ?_
                refine Z_eq (M := mL_isFenced) (b := σ 32 (σ 37 1)) (by rw [s32]) ?_
                refine Z_iconst (M := mL_isFenced) dL_isFenced_545 ?_
                refine Z_iadd (M := mL_isFenced) dL_isFenced_546 ?_
                refine L_iast (M := mL_isFenced) (kf := 32) (N := 9) dL_isFenced_547 (by decide) rfl (by decide) (by omega) (by omega) ?_
                refine J_aload (M := mL_isFenced) dL_isFenced_548 rfl ?_
                refine Z_bipush (M := mL_isFenced) dL_isFenced_550 rfl ?_
                refine Z_iconst (M := mL_isFenced) dL_isFenced_552 ?_
                refine L_iast (M := mL_isFenced) (kf := 37) (N := 10) dL_isFenced_553 (by decide) rfl (by decide) (by omega) (by omega) ?_
                refine J_iload (M := mL_isFenced) dL_isFenced_554 rfl ?_
                first
                  | refine Z_pf (M := mL_isFenced) (tgt := 572) dL_isFenced_556 (by decide) (fun c_556 => ?_) (fun c_556 => ?_)
                  | refine Z_if_eq (M := mL_isFenced) (tgt := 572) (by first | assumption | exact pI_rg _ | (unfold rg; omega)) dL_isFenced_556 (by decide) (fun c_556 => ?_) (fun c_556 => ?_)
                · exact absurd c_556 (by decide)
                · refine J_aload_n (M := mL_isFenced) dL_isFenced_559 rfl rfl ?_
                  refine J_callW (M := mL_isFenced) (as := [_]) dL_isFenced_560 ca_L_155 ⟨by decide, by decide⟩ rfl (Nat.le_of_ble_eq_true rfl) (k' := 5) (n' := 30) (by decide) (by decide) (ha_yes R1 (by omega) u19) (fun v_ h_ hv_ => ?_)
                  obtain ⟨rfl, r2, R2, rfl⟩ := hv_
                  refine Z_eq (M := mL_isFenced) (b := J1) ((halt_v L R.1 Wu M hcan E).trans hJ1.symm) ?_
                  refine J_iload (M := mL_isFenced) dL_isFenced_563 rfl ?_
                  refine Z_ic_ne (M := mL_isFenced) (tgt := 572) (by first | assumption | exact pI_rg _ | (unfold rg; omega)) (by first | assumption | exact pI_rg _ | (unfold rg; omega)) dL_isFenced_565 (by decide) (fun c_565 => ?_) (fun c_565 => ?_)
                  · exact absurd rfl c_565
                  · refine Z_iconst (M := mL_isFenced) dL_isFenced_568 ?_
                    refine J_goto (M := mL_isFenced) (tgt := 573) dL_isFenced_569 (by decide) ?_
                    refine J_istore (M := mL_isFenced) dL_isFenced_573 (by decide) ?_
                    have W3 : WL (ts (ts s 32 (σ 37 1) (σ 32 (σ 37 1) + 1)) 37 6 1) := WL_ts (WL_ts W1 (Or.inr (show 0 ≤ σ 32 (σ 37 1) + 1 ∧ σ 32 (σ 37 1) + 1 ≤ 12 by omega))) (Or.inl rfl)
                    have q37 : ∀ y, ¬ (y = 5 ∨ y = 6) → (ts (ts s 32 (σ 37 1) (σ 32 (σ 37 1) + 1)) 37 6 1) 37 y = σ 37 y := fun y hy => by
                      rw [ts_else (by omega), ts_n (by decide)]
                      exact f2 y hy
                    have M3 : LM (ts (ts s 32 (σ 37 1) (σ 32 (σ 37 1) + 1)) 37 6 1) := by
                      unfold LM
                      rw [q37 0 (by decide), q37 1 (by decide), q37 2 (by decide), q37 3 (by decide), q37 4 (by decide), q37 7 (by decide), q37 9 (by decide), ts_self]
                      exact ⟨m0, m1, m2, m3, m4, by decide, m7, m9⟩
                    refine J_aload_n (M := mL_isFenced) dL_isFenced_575 rfl rfl ?_
                    refine J_aload_n (M := mL_isFenced) dL_isFenced_576 rfl rfl ?_
                    refine J_aload_n (M := mL_isFenced) dL_isFenced_577 rfl rfl ?_
                    refine J_aload (M := mL_isFenced) dL_isFenced_578 rfl ?_
                    refine J_aload (M := mL_isFenced) dL_isFenced_580 rfl ?_
                    refine J_aload (M := mL_isFenced) dL_isFenced_582 rfl ?_
                    refine J_callS (M := mL_isFenced) (as := [_, _, _, _, _, _]) dL_isFenced_584 ca_L_187 ⟨by decide, by decide⟩ rfl (Nat.le_of_ble_eq_true rfl) (k' := 0) (n' := 0) (by decide) (by decide) (rL_follow G W3 M3) (fun v_ h_ hv_ => ?_)
                    obtain ⟨rfl, g', G', rfl⟩ := hv_
                    refine J_iload (M := mL_isFenced) dL_isFenced_587 rfl ?_
                    refine J_zret (M := mL_isFenced) dL_isFenced_589 rfl (by first | exact pI_zb _ | exact zb_of (Or.inl rfl) | exact zb_of (Or.inr rfl) | assumption) ?_
                    have lS := LSt_fol (σ := (ts (ts s 32 (σ 37 1) (σ 32 (σ 37 1) + 1)) 37 6 1)) (π := upL π (3 * σ 37 1 + σ 32 (σ 37 1) / 4) (pt (π (3 * σ 37 1 + σ 32 (σ 37 1) / 4)) (16 * (σ 32 (σ 37 1) % 4)) 65535 (σ 37 2 + 16 * σ 37 3 + 256 * N1 + 1024 * Z1 + 4096 * O1 + 16384 * S1)))
                    have l8 := lS.2.2.2
                    rw [q37 8 (by decide)] at l8
                    exact ⟨rfl, _, _, g', r2, fol (fT u), rfl, LW_fol hL3 (WF_fT Wu (by rw [E.1 17 (by decide), E.1 10 (by decide), aT_k (k := 17) (by decide), aT_k (k := 10) (by decide), k1, hsl, q10]; exact h12)) (by rw [q37 7 (by decide)]; exact m7) W3, WL_lfol W3, LM_LSt M3 lS, G', R2, by omega, by omega⟩
    refine Z_iconst (M := mL_isFenced) dL_isFenced_112 ?_
    refine J_iload (M := mL_isFenced) dL_isFenced_113 rfl ?_
    refine Z_bipush (M := mL_isFenced) dL_isFenced_115 rfl ?_
    refine Z_irem (M := mL_isFenced) (by omega) (by first | assumption | exact pI_rg _ | (unfold rg; omega)) (by decide) (by first | assumption | exact pI_rg _ | (unfold rg; omega)) dL_isFenced_117 ?_
    refine Z_iadd (M := mL_isFenced) dL_isFenced_118 ?_
    refine Z_eq (M := mL_isFenced) hN.symm ?_
    refine J_istore (M := mL_isFenced) dL_isFenced_119 (by decide) ?_
    refine J_iload (M := mL_isFenced) dL_isFenced_121 rfl ?_
    refine Z_bipush (M := mL_isFenced) dL_isFenced_123 rfl ?_
    refine Z_idiv (M := mL_isFenced) (by omega) (by first | assumption | exact pI_rg _ | (unfold rg; omega)) (by decide) (by first | assumption | exact pI_rg _ | (unfold rg; omega)) dL_isFenced_125 ?_
    refine Z_bipush (M := mL_isFenced) dL_isFenced_126 rfl ?_
    refine Z_irem (M := mL_isFenced) (by omega) (by first | assumption | exact pI_rg _ | (unfold rg; omega)) (by decide) (by first | assumption | exact pI_rg _ | (unfold rg; omega)) dL_isFenced_128 ?_
    refine J_istore (M := mL_isFenced) dL_isFenced_129 (by decide) ?_
    refine J_aload (M := mL_isFenced) dL_isFenced_131 rfl ?_
    refine Z_iconst (M := mL_isFenced) dL_isFenced_133 ?_
    refine L_iald (M := mL_isFenced) (kf := 37) (N := 10) dL_isFenced_134 (by decide) rfl (by decide) (by omega) (by omega) ?_
    refine J_istore (M := mL_isFenced) dL_isFenced_135 (by decide) ?_
    refine J_aload_n (M := mL_isFenced) dL_isFenced_137 rfl rfl ?_
    refine J_callW (M := mL_isFenced) (as := [_]) dL_isFenced_138 ca_L_152 ⟨by decide, by decide⟩ rfl (Nat.le_of_ble_eq_true rfl) (k' := 20) (n' := 126) (by decide) (by decide) (al_yes R (by omega) ((can_i L M W R).mpr hcan)) (fun v_ h_ hv_ => ?_)
    obtain ⟨rfl, r1, R1, rfl⟩ := hv_
    refine Z_eq (M := mL_isFenced) (b := σ 32 (σ 37 1)) (by rw [k1, hsl, q10]) ?_
    refine J_aload_n (M := mL_isFenced) dL_isFenced_141 rfl rfl ?_
    refine J_iload (M := mL_isFenced) dL_isFenced_142 rfl ?_
    refine L_iald (M := mL_isFenced) (kf := 32) (N := 9) dL_isFenced_144 (by decide) rfl (by decide) (by omega) (by omega) ?_
    refine Z_ic_ne (M := mL_isFenced) (tgt := 152) (by have := wl32 W (σ 37 1); unfold rg; omega) (by have := wl32 W (σ 37 1); unfold rg; omega) dL_isFenced_145 (by decide) (fun c_145 => ?_) (fun c_145 => ?_)
    · exact absurd rfl c_145
    · refine Z_iconst (M := mL_isFenced) dL_isFenced_148 ?_
      refine J_goto (M := mL_isFenced) (tgt := 153) dL_isFenced_149 (by decide) ?_
      refine J_istore (M := mL_isFenced) dL_isFenced_153 (by decide) ?_
      refine J_aload (M := mL_isFenced) dL_isFenced_155 rfl ?_
      refine Z_iconst (M := mL_isFenced) dL_isFenced_157 ?_
      refine Z_iconst (M := mL_isFenced) dL_isFenced_158 ?_
      refine L_iast (M := mL_isFenced) (kf := 37) (N := 10) dL_isFenced_159 (by decide) rfl (by decide) (by omega) (by omega) ?_
      refine J_aload (M := mL_isFenced) dL_isFenced_160 rfl ?_
      refine Z_bipush (M := mL_isFenced) dL_isFenced_162 rfl ?_
      refine Z_iconst (M := mL_isFenced) dL_isFenced_164 ?_
      refine L_iast (M := mL_isFenced) (kf := 37) (N := 10) dL_isFenced_165 (by decide) rfl (by decide) (by omega) (by omega) ?_
      refine Z_iconst (M := mL_isFenced) dL_isFenced_166 ?_
      refine J_istore (M := mL_isFenced) dL_isFenced_167 (by decide) ?_
      refine J_le (M := mL_isFenced) (k' := 14 + 1 * N.toNat) (n' := 90 + 6 * N.toNat) (by omega) (by omega) ?_
      refine J_sub (M := mL_isFenced) (fenced_l (σ := σ) (τ := τ) (c := c + 1) (q := q) (z := z) (N := N) (b := σ 37 1) hL hq hN6 kk N.toNat 0 (by omega) _ _ _ (z / 6 % 50) ⟨R1, EVS_0, fun k hk => ?_, fun y hy => ?_, ⟨rfl, rfl⟩, WL_ts (WL_ts W (Or.inl rfl)) (Or.inl rfl), by omega, fun i i0 i1 => absurd i1 (by omega), fun i j _ hj => absurd hj (by omega)⟩) (And.intro rfl (And.intro rfl (And.intro rfl (And.intro rfl (And.intro rfl (And.intro rfl (And.intro rfl (And.intro rfl (And.intro rfl (And.intro rfl (And.intro rfl (And.intro rfl (And.intro rfl (And.intro rfl (And.intro rfl (And.intro rfl (And.intro rfl trivial)))))))))))))))))
      · rw [ts_n (by omega), ts_n (by omega)]
      · rw [ts_else (by omega), ts_else (by omega)]
  · refine J_aload_n (M := mL_isFenced) dL_isFenced_69 rfl rfl ?_
    refine J_callW (M := mL_isFenced) (as := [_]) dL_isFenced_70 ca_L_152 ⟨by decide, by decide⟩ rfl (Nat.le_of_ble_eq_true rfl) (k' := 10) (n' := 100) (by decide) (by decide) (al_no R (by omega) (fun y => c_66 ((can_i L M W R).mp y))) (fun v_ h_ hv_ => ?_)
    obtain ⟨rfl, rfl⟩ := hv_
    refine Z_bipush (M := mL_isFenced) dL_isFenced_73 rfl ?_
    refine Z_ic_ne (M := mL_isFenced) (tgt := 110) (by first | assumption | exact pI_rg _ | (unfold rg; omega)) (by first | assumption | exact pI_rg _ | (unfold rg; omega)) dL_isFenced_75 (by decide) (fun c_75 => ?_) (fun c_75 => ?_)
    · exact absurd rfl c_75
    · refine J_aload (M := mL_isFenced) dL_isFenced_78 rfl ?_
      refine Z_iconst (M := mL_isFenced) dL_isFenced_80 ?_
      refine L_iald (M := mL_isFenced) (kf := 37) (N := 10) dL_isFenced_81 (by decide) rfl (by decide) (by omega) (by omega) ?_
      refine Z_iconst (M := mL_isFenced) dL_isFenced_82 ?_
      refine Z_ic_eq (M := mL_isFenced) (tgt := 106) (by first | assumption | exact pI_rg _ | (unfold rg; omega)) (by first | assumption | exact pI_rg _ | (unfold rg; omega)) dL_isFenced_83 (by decide) (fun c_83 => ?_) (fun c_83 => ?_)
      · omega
      · refine J_aload_n (M := mL_isFenced) dL_isFenced_86 rfl rfl ?_
        refine J_callW (M := mL_isFenced) (as := [_]) dL_isFenced_87 ca_L_155 ⟨by decide, by decide⟩ rfl (Nat.le_of_ble_eq_true rfl) (k' := 5) (n' := 50) (by decide) (by decide) (ha_no R (by omega) L.1.2.1) (fun v_ h_ hv_ => ?_)
        obtain ⟨rfl, rfl⟩ := hv_
        refine Z_bipush (M := mL_isFenced) dL_isFenced_90 rfl ?_
        refine Z_ic_ne (M := mL_isFenced) (tgt := 110) (by first | assumption | exact pI_rg _ | (unfold rg; omega)) (by first | assumption | exact pI_rg _ | (unfold rg; omega)) dL_isFenced_92 (by decide) (fun c_92 => ?_) (fun c_92 => ?_)
        · exact absurd rfl c_92
        · refine J_aload_n (M := mL_isFenced) dL_isFenced_95 rfl rfl ?_
          refine Z_iconst (M := mL_isFenced) dL_isFenced_96 ?_
          refine Z_iconst (M := mL_isFenced) dL_isFenced_97 ?_
          refine J_callW (M := mL_isFenced) (as := [_, _, _]) dL_isFenced_98 ca_L_158 ⟨by decide, by decide⟩ rfl (Nat.le_of_ble_eq_true rfl) (k' := 0) (n' := 0) (by decide) (by decide) (he_no R L.1.2.1) (fun v_ h_ hv_ => ?_)
          obtain ⟨rfl, rfl⟩ := hv_
          refine Z_bipush (M := mL_isFenced) dL_isFenced_101 rfl ?_
          refine Z_ic_ne (M := mL_isFenced) (tgt := 110) (by first | assumption | exact pI_rg _ | (unfold rg; omega)) (by first | assumption | exact pI_rg _ | (unfold rg; omega)) dL_isFenced_103 (by decide) (fun c_103 => ?_) (fun c_103 => ?_)
          · exact absurd rfl c_103
          · refine Z_iconst (M := mL_isFenced) dL_isFenced_106 ?_
            refine J_goto (M := mL_isFenced) (tgt := 111) dL_isFenced_107 (by decide) ?_
            refine J_zret (M := mL_isFenced) dL_isFenced_111 rfl (by first | exact pI_zb _ | exact zb_of (Or.inl rfl) | exact zb_of (Or.inr rfl) | assumption) ?_
            exact ⟨rfl, σ, π, g, ρ, τ, rfl, IV_s I hc⟩

