/-! THE LAW: a bout begins -/
/-- true, and what the law keeps -/
def KQ (c : Int) : Option LV → LH → Prop := fun v h' => v = some (vI (iI 1)) ∧ ∃ (σ : TS) (π : Int → Int64) (g : LH) (ρ τ : TS), h' = HW g σ π ρ ∧ IV σ π g ρ τ c
theorem bg_no {X : GX} {g : LH} {σ σh ρ τ : TS} {π : Int → Int64} {c b v w : Int} (L : LW σ π τ) (M : LM σ) (R : RR ρ τ c) (hb0 : 0 ≤ b) (hb1 : b ≤ 8) (h7 : 5 < b → σ 37 7 = 4) (hv : 0 ≤ v ∧ v < σ 37 0) (hw : 0 ≤ w ∧ w < σ 37 0) (hno : lfen (σ 36) b 0 < 0 ∨ lfen (σ 36) b 1 < 0 ∨ 100 ≤ ltold (σ 30) π (σ 32) b) : CT X mL_begun [vR (some (1, 0)), vI (iI (num b)), vI (iI v), vI (iI w)] (HW g σh π ρ) (rQ (fun o h' => o = some (vI (iI (-7))) ∧ h' = HW g σh π ρ)) := by
  have a3 := L.1.1.2.2.1
  have m0 := M.1
  have nr := num_rg (b := b) ⟨hb0, hb1⟩
  have f0 := lfen_p L hb0 hb1 (s := 0) (Or.inl rfl) h7
  have f1 := lfen_p L hb0 hb1 (s := 1) (Or.inr rfl) h7
  have hp : VBo τ (num b) ∧ (0 ≤ v ∧ v ≤ τ 5 0 - 1) ∧ 0 ≤ w ∧ w ≤ τ 5 0 - 1 := ⟨vbo L.1 hb0 hb1 h7, by omega, by omega⟩
  have hq : ¬ (((VBo τ (num b) ∧ (0 ≤ v ∧ v ≤ τ 5 0 - 1) ∧ 0 ≤ w ∧ w ≤ τ 5 0 - 1) ∧ τ 19 0 = 0 ∧ 0 ≤ fa τ (num b) 0 ∧ 0 ≤ fa τ (num b) 1) ∧ wo τ (num b) = -1 ∧ (τ 3 v = 1 ∧ fa τ (num b) 0 = τ 2 v) ∧ τ 3 w = 1 ∧ fa τ (num b) 1 = τ 2 w) := by
    rintro ⟨⟨-, -, z1, z2⟩, z3, -⟩
    rw [f0] at z1
    rw [f1] at z2
    have := (open_i L M R hb0 hb1 h7 z1 z2).mp z3
    omega
  refine CT.mono (fun o h' hq2 => ?_) (wL_begun (p_begin (h := HL σh π g) R (b := num b) (v := v) (w := w) (by unfold rg; omega) (by unfold rg; omega) (by unfold rg; omega)))
  cases o with
  | inl o =>
    rcases hq2 with ⟨h1, rfl, rfl⟩ | ⟨h0, -⟩
    · rw [gl2 hp hq]
      exact ⟨rfl, rfl⟩
    · rw [gl2 hp hq] at h0
      exact absurd h0 (by decide)
  | inr k => exact hq2
theorem bg_yes {X : GX} {g : LH} {σ σh ρ τ : TS} {π : Int → Int64} {c b v w : Int} (L : LW σ π τ) (M : LM σ) (R : RR ρ τ c) (hb0 : 0 ≤ b) (hb1 : b ≤ 8) (h7 : 5 < b → σ 37 7 = 4) (hv : 0 ≤ v ∧ v < σ 37 0) (hw : 0 ≤ w ∧ w < σ 37 0) (hf0 : 0 ≤ lfen (σ 36) b 0) (hf1 : 0 ≤ lfen (σ 36) b 1) (ht : ltold (σ 30) π (σ 32) b < 100)
    (hv1 : σ 30 (2 * v) = lfen (σ 36) b 0 ∧ σ 30 (2 * v + 1) = 1) (hw1 : σ 30 (2 * w) = lfen (σ 36) b 1 ∧ σ 30 (2 * w + 1) = 1) : CT X mL_begun [vR (some (1, 0)), vI (iI (num b)), vI (iI v), vI (iI w)] (HW g σh π ρ) (rQ (fun o h' => o = some (vI (iI (σ 32 b))) ∧ ∃ r, RR r (ts (ts (ts (ts τ 17 0 (num b)) 18 0 v) 18 1 w) 20 0 0) c ∧ h' = HW g σh π r)) := by
  have a3 := L.1.1.2.2.1
  have a6 := L.1.2.1
  have m0 := M.1
  have nr := num_rg (b := b) ⟨hb0, hb1⟩
  have f0 := lfen_p L hb0 hb1 (s := 0) (Or.inl rfl) h7
  have f1 := lfen_p L hb0 hb1 (s := 1) (Or.inr rfl) h7
  obtain ⟨x1, x2, x3, -⟩ := L.2.2.1 v hv.1 hv.2
  obtain ⟨y1, y2, y3, -⟩ := L.2.2.1 w hw.1 hw.2
  rw [hv1.2] at x3
  rw [hw1.2] at y3
  have hp : VBo τ (num b) ∧ (0 ≤ v ∧ v ≤ τ 5 0 - 1) ∧ 0 ≤ w ∧ w ≤ τ 5 0 - 1 := ⟨vbo L.1 hb0 hb1 h7, by omega, by omega⟩
  have hq : ((VBo τ (num b) ∧ (0 ≤ v ∧ v ≤ τ 5 0 - 1) ∧ 0 ≤ w ∧ w ≤ τ 5 0 - 1) ∧ τ 19 0 = 0 ∧ 0 ≤ fa τ (num b) 0 ∧ 0 ≤ fa τ (num b) 1) ∧ wo τ (num b) = -1 ∧ (τ 3 v = 1 ∧ fa τ (num b) 0 = τ 2 v) ∧ τ 3 w = 1 ∧ fa τ (num b) 1 = τ 2 w :=
    ⟨⟨hp, a6, by rw [f0]; exact hf0, by rw [f1]; exact hf1⟩, (open_i L M R hb0 hb1 h7 hf0 hf1).mpr ht, ⟨x3, by rw [f0, x1, hv1.1]⟩, y3, by rw [f1, y1, hw1.1]⟩
  have hs := (L.2.2.2.2.1 b hb0 hb1).1
  refine CT.mono (fun o h' hq2 => ?_) (wL_begun (p_begin (h := HL σh π g) R (b := num b) (v := v) (w := w) (by unfold rg; omega) (by unfold rg; omega) (by unfold rg; omega)))
  cases o with
  | inl o =>
    rcases hq2 with ⟨h1, -⟩ | ⟨h0, rfl, r, hT, rfl⟩
    · rw [gl01 hp hq] at h1
      exact absurd rfl h1
    · exact ⟨by rw [slo_num ⟨hb0, hb1⟩, hs], r, hT, rfl⟩
  | inr k => exact hq2
/-- a bout has come: the law's numbers and the hall -/
def bgS (σ : TS) (b v w : Int) : TS := ts (ts (ts (ts σ 37 1 b) 37 2 v) 37 3 w) 37 6 0
def bgT (τ : TS) (b v w : Int) : TS := ts (ts (ts (ts τ 17 0 (num b)) 18 0 v) 18 1 w) 20 0 0
theorem bgS_k {σ : TS} {b v w : Int} {k : Nat} (h : ¬ k = 37) : bgS σ b v w k = σ k := by
  unfold bgS
  rw [ts_n h, ts_n h, ts_n h, ts_n h]
theorem bgS_37 {σ : TS} {b v w z : Int} (h : ¬ (z = 1 ∨ z = 2 ∨ z = 3 ∨ z = 6)) : bgS σ b v w 37 z = σ 37 z := by
  unfold bgS
  rw [ts_else (by omega), ts_else (by omega), ts_else (by omega), ts_else (by omega)]
theorem bgT_k {τ : TS} {b v w : Int} {k : Nat} (h : ¬ (k = 17 ∨ k = 18 ∨ k = 20)) : bgT τ b v w k = τ k := by
  unfold bgT
  rw [ts_n (by omega), ts_n (by omega), ts_n (by omega), ts_n (by omega)]
theorem LW_bg {σ : TS} {π : Int → Int64} {τ : TS} {b v w : Int} (L : LW σ π τ) (hb0 : 0 ≤ b) (h7 : 5 < b → σ 37 7 = 4) (hv : v < σ 37 0) (hw : w < σ 37 0) : LW (bgS σ b v w) π (bgT τ b v w) := by
  obtain ⟨⟨⟨a1, a2, a3, a4, a5⟩, a6, a7, a8⟩, p, x, ⟨g1, g2⟩, q, n, B⟩ := L
  refine ⟨⟨⟨?_, ?_, ?_, ?_, ?_⟩, ?_, ?_, ?_⟩, ?_, ?_, ⟨?_, ?_⟩, ?_, ?_, ?_⟩
  · rw [bgT_k (by decide), bgS_37 (by decide)]; exact a1
  · rw [bgT_k (by decide)]; exact a2
  · rw [bgT_k (by decide), bgS_37 (by decide)]; exact a3
  · rw [bgT_k (by decide)]; exact a4
  · rw [bgT_k (by decide)]; exact a5
  · rw [bgT_k (by decide)]; exact a6
  · rw [bgT_k (by decide), bgS_37 (by decide)]; exact a7
  · rw [bgT_k (by decide), bgS_37 (by decide)]; exact a8
  · unfold LPo
    rw [bgT_k (k := 6) (by decide), bgT_k (k := 7) (by decide)]
    exact p
  · unfold LX
    rw [bgT_k (k := 2) (by decide), bgT_k (k := 3) (by decide), bgT_k (k := 4) (by decide), bgS_k (k := 30) (by decide), bgS_37 (z := 0) (by decide)]
    exact x
  · intro h
    have h1 : bgS σ b v w 37 1 = b := rfl
    rw [h1] at h
    omega
  · intro _
    have h1 : bgS σ b v w 37 1 = b := rfl
    have h2 : bgS σ b v w 37 2 = v := rfl
    have h3 : bgS σ b v w 37 3 = w := rfl
    have h6 : bgS σ b v w 37 6 = 0 := rfl
    rw [h1, h2, h3, h6, bgS_37 (z := 0) (by decide), bgS_37 (z := 7) (by decide)]
    exact ⟨⟨rfl, rfl, rfl, rfl⟩, hv, hw, h7⟩
  · unfold LE
    rw [bgT_k (k := 10) (by decide), bgT_k (k := 11) (by decide), bgS_k (k := 32) (by decide), bgS_k (k := 33) (by decide)]
    exact q
  · unfold LN
    rw [bgT_k (k := 22) (by decide), bgS_k (k := 36) (by decide), bgS_k (k := 32) (by decide), bgS_37 (z := 7) (by decide)]
    exact n
  · intro i j b0 b1 j0 j1
    rw [bgS_k (k := 32) (by decide)] at j1
    have P := B i j b0 b1 j0 j1
    have ed : jd (bgT τ b v w) = jd τ := jd_k2 (bgT_k (by decide)) (fun k hk2 => bgT_k (by omega))
    have ej : jr (bgT τ b v w) = jr τ := by
      funext u t
      unfold jr
      rw [bgT_k (k := 0) (by decide), bgT_k (k := 12) (by decide), bgT_k (k := 15) (by decide), bgT_k (k := 16) (by decide)]
    unfold PB at P ⊢
    rw [bgT_k (k := 13) (by decide), ed, ej, bgS_37 (z := 0) (by decide)]
    exact P
theorem WL_bg {σ : TS} {b v w : Int} (W : WL σ) : WL (bgS σ b v w) := WL_ts (WL_ts (WL_ts (WL_ts W (Or.inl rfl)) (Or.inl rfl)) (Or.inl rfl)) (Or.inl rfl)
theorem LM_bg {σ : TS} {b v w : Int} (M : LM σ) (hb : 0 ≤ b ∧ b ≤ 8) (hv : 0 ≤ v ∧ v < σ 37 0) (hw : 0 ≤ w ∧ w < σ 37 0) : LM (bgS σ b v w) := by
  unfold LM at *
  have h1 : bgS σ b v w 37 1 = b := rfl
  have h2 : bgS σ b v w 37 2 = v := rfl
  have h3 : bgS σ b v w 37 3 = w := rfl
  have h6 : bgS σ b v w 37 6 = 0 := rfl
  rw [h1, h2, h3, h6, bgS_37 (z := 0) (by decide), bgS_37 (z := 4) (by decide), bgS_37 (z := 7) (by decide), bgS_37 (z := 9) (by decide)]
  omega
def lnb (σ : TS) : Int := if 0 < σ 37 7 then 9 else 6
theorem lnb_96 {σ : TS} : lnb σ = 9 ∧ 0 < σ 37 7 ∨ lnb σ = 6 ∧ σ 37 7 ≤ 0 := by
  unfold lnb
  split <;> omega
set_option maxRecDepth 100000 in
set_option maxHeartbeats 4000000 in
theorem begun_l {X : GX} {g : LH} {σ ρ : TS} {π : Int → Int64} {k n : Nat} {Q : LO → LH → Prop} {z : Int} (W : WL σ) (h7 : 0 ≤ σ 37 7 ∧ σ 37 7 ≤ 4) (hz : 0 ≤ z ∧ z ≤ 200000000) (kk : ∀ b, 0 ≤ b → b < lnb σ → J X mL_isBegun 109 [some (vR (some (1, 0))), some (vR (some (30, 0))), some (vR (some (31, 0))), some (vR (some (32, 0))), some (vR (some (36, 0))), some (vR (some (37, 0))), some (vI (iI z)), some (vI (iI b)), none, none, none, none, none] [] (HW g σ π ρ) k n Q) : ∀ (a i : Nat), (i : Int) + a = 9 → ∀ b, 0 ≤ b → b < lnb σ → J X mL_isBegun 23 [some (vR (some (1, 0))), some (vR (some (30, 0))), some (vR (some (31, 0))), some (vR (some (32, 0))), some (vR (some (36, 0))), some (vR (some (37, 0))), some (vI (iI z)), some (vI (iI b)), some (vI (iI i)), none, none, none, none] [] (HW g σ π ρ) k n Q := by
  have hnb := lnb_96 (σ := σ)
  intro a
  induction a with
  | zero =>
    intro i hi b b0 b1
    refine J_iload (M := mL_isBegun) dL_isBegun_23 rfl ?_
    refine Z_bipush (M := mL_isBegun) dL_isBegun_25 rfl ?_
    refine Z_ic_ge (M := mL_isBegun) (tgt := 109) (by first | assumption | exact pI_rg _ | (unfold rg; omega)) (by first | assumption | exact pI_rg _ | (unfold rg; omega)) dL_isBegun_27 (by decide) (fun c_27 => ?_) (fun c_27 => ?_)
    · exact J_sub (kk b b0 b1) (And.intro rfl (And.intro rfl (And.intro rfl (And.intro rfl (And.intro rfl (And.intro rfl (And.intro rfl (And.intro rfl trivial))))))))
    · omega
  | succ a ih =>
    intro i hi b b0 b1
    have q1 := ltold_rg (w := σ 30) (π := π) (e := σ 32) (b := b)
    have q2 := lfen_rg (x := σ 36) (b := b) (s := 0) (wl36 W) b0
    have q3 := lfen_rg (x := σ 36) (b := b) (s := 1) (wl36 W) b0
    refine J_iload (M := mL_isBegun) dL_isBegun_23 rfl ?_
    refine Z_bipush (M := mL_isBegun) dL_isBegun_25 rfl ?_
    refine Z_ic_ge (M := mL_isBegun) (tgt := 109) (by first | assumption | exact pI_rg _ | (unfold rg; omega)) (by first | assumption | exact pI_rg _ | (unfold rg; omega)) dL_isBegun_27 (by decide) (fun c_27 => ?_) (fun c_27 => ?_)
    · omega
    · refine J_iload (M := mL_isBegun) dL_isBegun_30 rfl ?_
      refine Z_bipush (M := mL_isBegun) dL_isBegun_32 rfl ?_
      refine Z_idiv (M := mL_isBegun) (by omega) (by unfold rg; omega) (by decide) (by unfold rg; omega) dL_isBegun_34 ?_
      refine Z_iconst (M := mL_isBegun) dL_isBegun_35 ?_
      refine Z_irem (M := mL_isBegun) (by omega) (by first | assumption | exact pI_rg _ | (unfold rg; omega)) (by decide) (by first | assumption | exact pI_rg _ | (unfold rg; omega)) dL_isBegun_36 ?_
      refine Z_if_le (M := mL_isBegun) (tgt := 109) (by first | assumption | exact pI_rg _ | (unfold rg; omega)) dL_isBegun_37 (by decide) (fun c_37 => ?_) (fun c_37 => ?_)
      · exact J_sub (kk b b0 b1) (And.intro rfl (And.intro rfl (And.intro rfl (And.intro rfl (And.intro rfl (And.intro rfl (And.intro rfl (And.intro rfl trivial))))))))
      · refine J_aload_n (M := mL_isBegun) dL_isBegun_40 rfl rfl ?_
        refine J_aload_n (M := mL_isBegun) dL_isBegun_41 rfl rfl ?_
        refine J_aload_n (M := mL_isBegun) dL_isBegun_42 rfl rfl ?_
        refine J_iload (M := mL_isBegun) dL_isBegun_43 rfl ?_
        refine M_callS (M := mL_isBegun) (as := [_, _, _, _]) dL_isBegun_45 ca_L_23 ⟨by decide, by decide⟩ rfl (Nat.le_of_ble_eq_true rfl) rfl rfl (rL_told lw30 lw31 lw32 (wl30 W) (wl32 W) (by omega)) ?_
        refine Z_bipush (M := mL_isBegun) dL_isBegun_48 rfl ?_
        refine Z_ic_ge (M := mL_isBegun) (tgt := 81) (by first | assumption | exact pI_rg _ | (unfold rg; omega)) (by first | assumption | exact pI_rg _ | (unfold rg; omega)) dL_isBegun_50 (by decide) (fun c_50 => ?_) (fun c_50 => ?_)
        · refine J_iload (M := mL_isBegun) dL_isBegun_81 rfl ?_
          refine Z_iconst (M := mL_isBegun) dL_isBegun_83 ?_
          refine Z_iadd (M := mL_isBegun) dL_isBegun_84 ?_
          refine Z_ij (M := mL_isBegun) (pcB := 100) (lnb σ) (fun hj_100 => ?_) ?_
          · refine J_aload (M := mL_isBegun) dL_isBegun_85 rfl ?_
            refine Z_bipush (M := mL_isBegun) dL_isBegun_87 rfl ?_
            refine L_iald (M := mL_isBegun) (kf := 37) (N := 10) dL_isBegun_89 (by decide) rfl (by decide) (by omega) (by omega) ?_
            refine Z_if_le (M := mL_isBegun) (tgt := 98) (by first | assumption | exact pI_rg _ | (unfold rg; omega)) dL_isBegun_90 (by decide) (fun c_90 => ?_) (fun c_90 => ?_)
            · refine Z_bipush (M := mL_isBegun) dL_isBegun_98 rfl ?_
              exact hj_100 _ (by omega)
            · refine Z_bipush (M := mL_isBegun) dL_isBegun_93 rfl ?_
              refine J_goto (M := mL_isBegun) (tgt := 100) dL_isBegun_95 (by decide) ?_
              exact hj_100 _ (by omega)
          refine Z_irem (M := mL_isBegun) (by omega) (by unfold rg; omega) (by omega) (by unfold rg; omega) dL_isBegun_100 ?_
          obtain ⟨y, hy⟩ : ∃ y, y = (b + 1) % lnb σ := ⟨_, rfl⟩
          have y0 : 0 ≤ y := by rw [hy]; exact Int.emod_nonneg _ (by omega)
          have y1 : y < lnb σ := by rw [hy]; exact Int.emod_lt_of_pos _ (by omega)
          refine Z_eq (M := mL_isBegun) hy.symm ?_
          refine J_istore (M := mL_isBegun) dL_isBegun_101 (by decide) ?_
          refine Z_iinc (M := mL_isBegun) dL_isBegun_103 rfl (by decide) ?_
          refine J_goto (M := mL_isBegun) (tgt := 23) dL_isBegun_106 (by decide) ?_
          exact J_sub (ih (i + 1) (by push_cast; omega) y y0 y1) (And.intro rfl (And.intro rfl (And.intro rfl (And.intro rfl (And.intro rfl (And.intro rfl (And.intro rfl (And.intro rfl (And.intro (vz (by push_cast; omega)) trivial)))))))))
        · refine J_iload (M := mL_isBegun) dL_isBegun_53 rfl ?_
          refine Z_iconst (M := mL_isBegun) dL_isBegun_55 ?_
          refine Z_ic_le (M := mL_isBegun) (tgt := 109) (by first | assumption | exact pI_rg _ | (unfold rg; omega)) (by first | assumption | exact pI_rg _ | (unfold rg; omega)) dL_isBegun_56 (by decide) (fun c_56 => ?_) (fun c_56 => ?_)
          · exact J_sub (kk b b0 b1) (And.intro rfl (And.intro rfl (And.intro rfl (And.intro rfl (And.intro rfl (And.intro rfl (And.intro rfl (And.intro rfl trivial))))))))
          · refine J_aload (M := mL_isBegun) dL_isBegun_59 rfl ?_
            refine J_iload (M := mL_isBegun) dL_isBegun_61 rfl ?_
            refine Z_iconst (M := mL_isBegun) dL_isBegun_63 ?_
            refine M_callS (M := mL_isBegun) (as := [_, _, _]) dL_isBegun_64 ca_L_27 ⟨by decide, by decide⟩ rfl (Nat.le_of_ble_eq_true rfl) rfl rfl (rL_fencer lw36 (by omega) (by omega)) ?_
            refine Z_if_lt (M := mL_isBegun) (tgt := 81) (by first | assumption | exact pI_rg _ | (unfold rg; omega)) dL_isBegun_67 (by decide) (fun c_67 => ?_) (fun c_67 => ?_)
            · refine J_iload (M := mL_isBegun) dL_isBegun_81 rfl ?_
              refine Z_iconst (M := mL_isBegun) dL_isBegun_83 ?_
              refine Z_iadd (M := mL_isBegun) dL_isBegun_84 ?_
              refine Z_ij (M := mL_isBegun) (pcB := 100) (lnb σ) (fun hj_100 => ?_) ?_
              · refine J_aload (M := mL_isBegun) dL_isBegun_85 rfl ?_
                refine Z_bipush (M := mL_isBegun) dL_isBegun_87 rfl ?_
                refine L_iald (M := mL_isBegun) (kf := 37) (N := 10) dL_isBegun_89 (by decide) rfl (by decide) (by omega) (by omega) ?_
                refine Z_if_le (M := mL_isBegun) (tgt := 98) (by first | assumption | exact pI_rg _ | (unfold rg; omega)) dL_isBegun_90 (by decide) (fun c_90 => ?_) (fun c_90 => ?_)
                · refine Z_bipush (M := mL_isBegun) dL_isBegun_98 rfl ?_
                  exact hj_100 _ (by omega)
                · refine Z_bipush (M := mL_isBegun) dL_isBegun_93 rfl ?_
                  refine J_goto (M := mL_isBegun) (tgt := 100) dL_isBegun_95 (by decide) ?_
                  exact hj_100 _ (by omega)
              refine Z_irem (M := mL_isBegun) (by omega) (by unfold rg; omega) (by omega) (by unfold rg; omega) dL_isBegun_100 ?_
              obtain ⟨y, hy⟩ : ∃ y, y = (b + 1) % lnb σ := ⟨_, rfl⟩
              have y0 : 0 ≤ y := by rw [hy]; exact Int.emod_nonneg _ (by omega)
              have y1 : y < lnb σ := by rw [hy]; exact Int.emod_lt_of_pos _ (by omega)
              refine Z_eq (M := mL_isBegun) hy.symm ?_
              refine J_istore (M := mL_isBegun) dL_isBegun_101 (by decide) ?_
              refine Z_iinc (M := mL_isBegun) dL_isBegun_103 rfl (by decide) ?_
              refine J_goto (M := mL_isBegun) (tgt := 23) dL_isBegun_106 (by decide) ?_
              exact J_sub (ih (i + 1) (by push_cast; omega) y y0 y1) (And.intro rfl (And.intro rfl (And.intro rfl (And.intro rfl (And.intro rfl (And.intro rfl (And.intro rfl (And.intro rfl (And.intro (vz (by push_cast; omega)) trivial)))))))))
            · refine J_aload (M := mL_isBegun) dL_isBegun_70 rfl ?_
              refine J_iload (M := mL_isBegun) dL_isBegun_72 rfl ?_
              refine Z_iconst (M := mL_isBegun) dL_isBegun_74 ?_
              refine M_callS (M := mL_isBegun) (as := [_, _, _]) dL_isBegun_75 ca_L_27 ⟨by decide, by decide⟩ rfl (Nat.le_of_ble_eq_true rfl) rfl rfl (rL_fencer lw36 (by omega) (by omega)) ?_
              refine Z_if_ge (M := mL_isBegun) (tgt := 109) (by first | assumption | exact pI_rg _ | (unfold rg; omega)) dL_isBegun_78 (by decide) (fun c_78 => ?_) (fun c_78 => ?_)
              · exact J_sub (kk b b0 b1) (And.intro rfl (And.intro rfl (And.intro rfl (And.intro rfl (And.intro rfl (And.intro rfl (And.intro rfl (And.intro rfl trivial))))))))
              · refine J_iload (M := mL_isBegun) dL_isBegun_81 rfl ?_
                refine Z_iconst (M := mL_isBegun) dL_isBegun_83 ?_
                refine Z_iadd (M := mL_isBegun) dL_isBegun_84 ?_
                refine Z_ij (M := mL_isBegun) (pcB := 100) (lnb σ) (fun hj_100 => ?_) ?_
                · refine J_aload (M := mL_isBegun) dL_isBegun_85 rfl ?_
                  refine Z_bipush (M := mL_isBegun) dL_isBegun_87 rfl ?_
                  refine L_iald (M := mL_isBegun) (kf := 37) (N := 10) dL_isBegun_89 (by decide) rfl (by decide) (by omega) (by omega) ?_
                  refine Z_if_le (M := mL_isBegun) (tgt := 98) (by first | assumption | exact pI_rg _ | (unfold rg; omega)) dL_isBegun_90 (by decide) (fun c_90 => ?_) (fun c_90 => ?_)
                  · refine Z_bipush (M := mL_isBegun) dL_isBegun_98 rfl ?_
                    exact hj_100 _ (by omega)
                  · refine Z_bipush (M := mL_isBegun) dL_isBegun_93 rfl ?_
                    refine J_goto (M := mL_isBegun) (tgt := 100) dL_isBegun_95 (by decide) ?_
                    exact hj_100 _ (by omega)
                refine Z_irem (M := mL_isBegun) (by omega) (by unfold rg; omega) (by omega) (by unfold rg; omega) dL_isBegun_100 ?_
                obtain ⟨y, hy⟩ : ∃ y, y = (b + 1) % lnb σ := ⟨_, rfl⟩
                have y0 : 0 ≤ y := by rw [hy]; exact Int.emod_nonneg _ (by omega)
                have y1 : y < lnb σ := by rw [hy]; exact Int.emod_lt_of_pos _ (by omega)
                refine Z_eq (M := mL_isBegun) hy.symm ?_
                refine J_istore (M := mL_isBegun) dL_isBegun_101 (by decide) ?_
                refine Z_iinc (M := mL_isBegun) dL_isBegun_103 rfl (by decide) ?_
                refine J_goto (M := mL_isBegun) (tgt := 23) dL_isBegun_106 (by decide) ?_
                exact J_sub (ih (i + 1) (by push_cast; omega) y y0 y1) (And.intro rfl (And.intro rfl (And.intro rfl (And.intro rfl (And.intro rfl (And.intro rfl (And.intro rfl (And.intro rfl (And.intro (vz (by push_cast; omega)) trivial)))))))))

set_option maxRecDepth 100000 in
set_option maxHeartbeats 4000000 in
theorem rL_isBegun {X : GX} {g : LH} {σ ρ τ : TS} {π : Int → Int64} {c z : Int} (I : IV σ π g ρ τ c) (hz : 0 ≤ z ∧ z ≤ 200000000) : CT X mL_isBegun [vR (some (1, 0)), vR (some (30, 0)), vR (some (31, 0)), vR (some (32, 0)), vR (some (36, 0)), vR (some (37, 0)), vI (iI z)] (HW g σ π ρ) (rQ (KQ c)) := by
  obtain ⟨L, W, M, G, R, d8, dc⟩ := id I
  obtain ⟨m0, m1, m2, m3, m4, m6, m7, m9⟩ := id M
  have hnb := lnb_96 (σ := σ)
  have hj109 : ∀ b, 0 ≤ b → b < lnb σ → J X mL_isBegun 109 [some (vR (some (1, 0))), some (vR (some (30, 0))), some (vR (some (31, 0))), some (vR (some (32, 0))), some (vR (some (36, 0))), some (vR (some (37, 0))), some (vI (iI z)), some (vI (iI b)), none, none, none, none, none] [] (HW g σ π ρ) 6 36 (rQ (KQ c)) := by
    intro b b0 b1
    have h75 : 5 < b → σ 37 7 = 4 := by omega
    have q2 := lfen_rg (x := σ 36) (b := b) (s := 0) (wl36 W) b0
    have q3 := lfen_rg (x := σ 36) (b := b) (s := 1) (wl36 W) b0
    have hj180 : 0 ≤ lfen (σ 36) b 0 → 0 ≤ lfen (σ 36) b 1 → J X mL_isBegun 180 [some (vR (some (1, 0))), some (vR (some (30, 0))), some (vR (some (31, 0))), some (vR (some (32, 0))), some (vR (some (36, 0))), some (vR (some (37, 0))), some (vI (iI z)), some (vI (iI b)), some (vI (iI (lfen (σ 36) b 0))), some (vI (iI (lfen (σ 36) b 1))), none, none, none] [] (HW g σ π ρ) 6 36 (rQ (KQ c)) := by
      intro hf0 hf1
      refine J_aload_n (M := mL_isBegun) dL_isBegun_180 rfl rfl ?_
      refine J_aload_n (M := mL_isBegun) dL_isBegun_181 rfl rfl ?_
      refine J_aload (M := mL_isBegun) dL_isBegun_182 rfl ?_
      refine J_iload (M := mL_isBegun) dL_isBegun_184 rfl ?_
      refine J_iload (M := mL_isBegun) dL_isBegun_186 rfl ?_
      refine J_callS (M := mL_isBegun) (as := [_, _, _, _, _]) dL_isBegun_188 ca_L_148 ⟨by decide, by decide⟩ rfl (Nat.le_of_ble_eq_true rfl) (k' := 4) (n' := 24) (by decide) (by decide) (rL_armed I (f := lfen (σ 36) b 0) ⟨hf0, by omega⟩ hz) (fun v_1 h_1 hv_1 => ?_)
      obtain ⟨σ1, ρ1, τ1, x1, rfl, rfl, I1, S1, hx1⟩ := hv_1
      obtain ⟨L1, W1, M1, G1, R1, d1, -⟩ := id I1
      obtain ⟨s1, s2, s3, s4⟩ := id S1
      refine J_istore (M := mL_isBegun) dL_isBegun_191 (by decide) ?_
      refine J_aload_n (M := mL_isBegun) dL_isBegun_193 rfl rfl ?_
      refine J_aload_n (M := mL_isBegun) dL_isBegun_194 rfl rfl ?_
      refine J_aload (M := mL_isBegun) dL_isBegun_195 rfl ?_
      refine J_iload (M := mL_isBegun) dL_isBegun_197 rfl ?_
      refine J_iload (M := mL_isBegun) dL_isBegun_199 rfl ?_
      refine Z_bipush (M := mL_isBegun) dL_isBegun_201 rfl ?_
      refine Z_idiv (M := mL_isBegun) (by omega) (by unfold rg; omega) (by decide) (by unfold rg; omega) dL_isBegun_203 ?_
      refine J_callS (M := mL_isBegun) (as := [_, _, _, _, _]) dL_isBegun_204 ca_L_148 ⟨by decide, by decide⟩ rfl (Nat.le_of_ble_eq_true rfl) (k' := 2) (n' := 12) (by decide) (by decide) (rL_armed I1 (f := lfen (σ 36) b 1) ⟨hf1, by omega⟩ (z := z / 7) ⟨by omega, by omega⟩) (fun v_2 h_2 hv_2 => ?_)
      obtain ⟨σ2, ρ2, τ2, x2, rfl, rfl, I2, S2, hx2⟩ := hv_2
      obtain ⟨L2, W2, M2, G2, R2, d2, -⟩ := id I2
      obtain ⟨t1, t2, t3, t4⟩ := id S2
      obtain ⟨n0, n1, n2, n3, n4, n6, n7, n9⟩ := id M2
      have e36 : σ2 36 = σ 36 := by rw [t1 36 (by decide), s1 36 (by decide)]
      have e7 : σ2 37 7 = σ 37 7 := by rw [t2 7 (by decide), s2 7 (by decide)]
      have M1a := M1.1
      refine J_istore (M := mL_isBegun) dL_isBegun_207 (by decide) ?_
      refine J_iload (M := mL_isBegun) dL_isBegun_209 rfl ?_
      refine Z_if_lt (M := mL_isBegun) (tgt := 219) (by unfold rg; omega) dL_isBegun_211 (by decide) (fun c_211 => ?_) (fun c_211 => ?_)
      · refine Z_iconst (M := mL_isBegun) dL_isBegun_219 ?_
        refine J_zret (M := mL_isBegun) dL_isBegun_220 rfl (by first | exact pI_zb _ | exact zb_of (Or.inl rfl) | exact zb_of (Or.inr rfl) | assumption) ?_
        exact ⟨rfl, σ2, π, g, ρ2, τ2, rfl, I2⟩
      · refine J_iload (M := mL_isBegun) dL_isBegun_214 rfl ?_
        refine Z_if_ge (M := mL_isBegun) (tgt := 221) (by unfold rg; omega) dL_isBegun_216 (by decide) (fun c_216 => ?_) (fun c_216 => ?_)
        · have X1 : 0 ≤ x1 ∧ x1 < σ2 37 0 := by omega
          have X2 : 0 ≤ x2 ∧ x2 < σ2 37 0 := by omega
          obtain ⟨-, y1, y2, y3⟩ := hx1.resolve_left (by omega)
          obtain ⟨-, -, y4, y5⟩ := hx2.resolve_left (by omega)
          have z1 := t4 x1 y1
          rw [y2, y3] at z1
          have q4 := ltold_rg (w := σ2 30) (π := π) (e := σ2 32) (b := b)
          have g0 : 0 ≤ lfen (σ2 36) b 0 := by rw [e36]; exact hf0
          have g1 : 0 ≤ lfen (σ2 36) b 1 := by rw [e36]; exact hf1
          refine Z_bj (M := mL_isBegun) (pcB := 246) (ltold (σ2 30) π (σ2 32) b < 100) (fun hj_246 => ?_) ?_
          · refine J_aload (M := mL_isBegun) dL_isBegun_221 rfl ?_
            refine Z_iconst (M := mL_isBegun) dL_isBegun_223 ?_
            refine L_iald (M := mL_isBegun) (kf := 37) (N := 10) dL_isBegun_224 (by decide) rfl (by decide) (by omega) (by omega) ?_
            first
              | refine Z_pt (M := mL_isBegun) (tgt := 245) dL_isBegun_225 (by decide) (fun c_225 => ?_) (fun c_225 => ?_)
              | refine Z_if_ne (M := mL_isBegun) (tgt := 245) (by first | assumption | exact pI_rg _ | (unfold rg; omega)) dL_isBegun_225 (by decide) (fun c_225 => ?_) (fun c_225 => ?_)
            · omega
            · refine J_aload_n (M := mL_isBegun) dL_isBegun_228 rfl rfl ?_
              refine J_aload_n (M := mL_isBegun) dL_isBegun_229 rfl rfl ?_
              refine J_aload_n (M := mL_isBegun) dL_isBegun_230 rfl rfl ?_
              refine J_iload (M := mL_isBegun) dL_isBegun_231 rfl ?_
              refine M_callS (M := mL_isBegun) (as := [_, _, _, _]) dL_isBegun_233 ca_L_23 ⟨by decide, by decide⟩ rfl (Nat.le_of_ble_eq_true rfl) rfl rfl (rL_told lw30 lw31 lw32 (wl30 W2) (wl32 W2) (by omega)) ?_
              refine Z_bipush (M := mL_isBegun) dL_isBegun_236 rfl ?_
              refine Z_ic_ge (M := mL_isBegun) (tgt := 245) (by first | assumption | exact pI_rg _ | (unfold rg; omega)) (by first | assumption | exact pI_rg _ | (unfold rg; omega)) dL_isBegun_238 (by decide) (fun c_238 => ?_) (fun c_238 => ?_)
              · refine Z_iconst (M := mL_isBegun) dL_isBegun_245 ?_
                exact hj_246 _ (pI_f (by omega)).symm
              · refine Z_iconst (M := mL_isBegun) dL_isBegun_241 ?_
                refine J_goto (M := mL_isBegun) (tgt := 246) dL_isBegun_242 (by decide) ?_
                exact hj_246 _ (pI_t (by omega)).symm
          refine J_istore (M := mL_isBegun) dL_isBegun_246 (by decide) ?_
          refine J_iload (M := mL_isBegun) dL_isBegun_248 rfl ?_
          first
            | refine Z_pf (M := mL_isBegun) (tgt := 277) dL_isBegun_250 (by decide) (fun c_250 => ?_) (fun c_250 => ?_)
            | refine Z_if_eq (M := mL_isBegun) (tgt := 277) (by first | assumption | exact pI_rg _ | (unfold rg; omega)) dL_isBegun_250 (by decide) (fun c_250 => ?_) (fun c_250 => ?_)
          · -- the call
            refine J_aload_n (M := mL_isBegun) dL_isBegun_277 rfl rfl ?_
            refine J_iload (M := mL_isBegun) dL_isBegun_278 rfl ?_
            refine M_callS (M := mL_isBegun) (as := [_]) dL_isBegun_280 ca_L_49 ⟨by decide, by decide⟩ rfl (Nat.le_of_ble_eq_true rfl) rfl rfl (rL_number (by omega)) ?_
            refine J_iload (M := mL_isBegun) dL_isBegun_283 rfl ?_
            refine J_iload (M := mL_isBegun) dL_isBegun_285 rfl ?_
            refine J_callW (M := mL_isBegun) (as := [_, _, _, _]) dL_isBegun_287 ca_L_144 ⟨by decide, by decide⟩ rfl (Nat.le_of_ble_eq_true rfl) (k' := 0) (n' := 0) (by decide) (by decide) (bg_no L2 M2 R2 b0 (by omega) (fun q => by rw [e7]; exact h75 q) X1 X2 (by omega)) (fun v_ h_ hv_ => ?_)
            obtain ⟨rfl, rfl⟩ := hv_
            refine J_iload (M := mL_isBegun) dL_isBegun_290 rfl ?_
            first
              | refine Z_pf (M := mL_isBegun) (tgt := 302) dL_isBegun_292 (by decide) (fun c_292 => ?_) (fun c_292 => ?_)
              | refine Z_if_eq (M := mL_isBegun) (tgt := 302) (by first | assumption | exact pI_rg _ | (unfold rg; omega)) dL_isBegun_292 (by decide) (fun c_292 => ?_) (fun c_292 => ?_)
            · refine Z_bipush (M := mL_isBegun) dL_isBegun_302 rfl ?_
              refine Z_ic_ne (M := mL_isBegun) (tgt := 311) (by unfold rg; omega) (by unfold rg; omega) dL_isBegun_304 (by decide) (fun c_304 => ?_) (fun c_304 => ?_)
              · exact absurd rfl c_304
              · refine Z_iconst (M := mL_isBegun) dL_isBegun_307 ?_
                refine J_goto (M := mL_isBegun) (tgt := 312) dL_isBegun_308 (by decide) ?_
                refine J_zret (M := mL_isBegun) dL_isBegun_312 rfl (by first | exact pI_zb _ | exact zb_of (Or.inl rfl) | exact zb_of (Or.inr rfl) | assumption) ?_
                exact ⟨rfl, σ2, π, g, ρ2, τ2, rfl, I2⟩
            · exact absurd c_292 (by assumption)
          · refine J_aload (M := mL_isBegun) dL_isBegun_253 rfl ?_
            refine Z_iconst (M := mL_isBegun) dL_isBegun_255 ?_
            refine J_iload (M := mL_isBegun) dL_isBegun_256 rfl ?_
            refine L_iast (M := mL_isBegun) (kf := 37) (N := 10) dL_isBegun_258 (by decide) rfl (by decide) (by omega) (by omega) ?_
            refine J_aload (M := mL_isBegun) dL_isBegun_259 rfl ?_
            refine Z_iconst (M := mL_isBegun) dL_isBegun_261 ?_
            refine J_iload (M := mL_isBegun) dL_isBegun_262 rfl ?_
            refine L_iast (M := mL_isBegun) (kf := 37) (N := 10) dL_isBegun_264 (by decide) rfl (by decide) (by omega) (by omega) ?_
            refine J_aload (M := mL_isBegun) dL_isBegun_265 rfl ?_
            refine Z_iconst (M := mL_isBegun) dL_isBegun_267 ?_
            refine J_iload (M := mL_isBegun) dL_isBegun_268 rfl ?_
            refine L_iast (M := mL_isBegun) (kf := 37) (N := 10) dL_isBegun_270 (by decide) rfl (by decide) (by omega) (by omega) ?_
            refine J_aload (M := mL_isBegun) dL_isBegun_271 rfl ?_
            refine Z_bipush (M := mL_isBegun) dL_isBegun_273 rfl ?_
            refine Z_iconst (M := mL_isBegun) dL_isBegun_275 ?_
            refine L_iast (M := mL_isBegun) (kf := 37) (N := 10) dL_isBegun_276 (by decide) rfl (by decide) (by omega) (by omega) ?_
            -- the call
            refine J_aload_n (M := mL_isBegun) dL_isBegun_277 rfl rfl ?_
            refine J_iload (M := mL_isBegun) dL_isBegun_278 rfl ?_
            refine M_callS (M := mL_isBegun) (as := [_]) dL_isBegun_280 ca_L_49 ⟨by decide, by decide⟩ rfl (Nat.le_of_ble_eq_true rfl) rfl rfl (rL_number (by omega)) ?_
            refine J_iload (M := mL_isBegun) dL_isBegun_283 rfl ?_
            refine J_iload (M := mL_isBegun) dL_isBegun_285 rfl ?_
            have hh : ts (ts (ts (ts σ2 37 1 b) 37 2 x1) 37 3 x2) 37 6 0 = bgS σ2 b x1 x2 := rfl
            rw [hh]
            refine J_callW (M := mL_isBegun) (as := [_, _, _, _]) dL_isBegun_287 ca_L_144 ⟨by decide, by decide⟩ rfl (Nat.le_of_ble_eq_true rfl) (k' := 0) (n' := 0) (by decide) (by decide) (bg_yes L2 M2 R2 b0 (by omega) (fun q => by rw [e7]; exact h75 q) X1 X2 g0 g1 (by assumption) ⟨by rw [e36]; exact z1.1, z1.2⟩ ⟨by rw [e36]; exact y4, y5⟩) (fun v_ h_ hv_ => ?_)
            obtain ⟨rfl, r3, R3, rfl⟩ := hv_
            refine J_iload (M := mL_isBegun) dL_isBegun_290 rfl ?_
            first
              | refine Z_pf (M := mL_isBegun) (tgt := 302) dL_isBegun_292 (by decide) (fun c_292 => ?_) (fun c_292 => ?_)
              | refine Z_if_eq (M := mL_isBegun) (tgt := 302) (by first | assumption | exact pI_rg _ | (unfold rg; omega)) dL_isBegun_292 (by decide) (fun c_292 => ?_) (fun c_292 => ?_)
            · exact absurd (by assumption) c_292
            · refine J_aload_n (M := mL_isBegun) dL_isBegun_295 rfl rfl ?_
              refine J_iload (M := mL_isBegun) dL_isBegun_296 rfl ?_
              refine L_iald (M := mL_isBegun) (kf := 32) (N := 9) dL_isBegun_298 (by decide) rfl (by decide) (by omega) (by omega) ?_
              refine Z_eq (M := mL_isBegun) (b := σ2 32 b) (by rw [bgS_k (by decide)]) ?_
              refine J_goto (M := mL_isBegun) (tgt := 304) dL_isBegun_299 (by decide) ?_
              refine Z_ic_ne (M := mL_isBegun) (tgt := 311) (by have := wl32 W2 b; unfold rg; omega) (by have := wl32 W2 b; unfold rg; omega) dL_isBegun_304 (by decide) (fun c_304 => ?_) (fun c_304 => ?_)
              · exact absurd rfl c_304
              · refine Z_iconst (M := mL_isBegun) dL_isBegun_307 ?_
                refine J_goto (M := mL_isBegun) (tgt := 312) dL_isBegun_308 (by decide) ?_
                refine J_zret (M := mL_isBegun) dL_isBegun_312 rfl (by first | exact pI_zb _ | exact zb_of (Or.inl rfl) | exact zb_of (Or.inr rfl) | assumption) ?_
                exact ⟨rfl, bgS σ2 b x1 x2, π, g, r3, bgT τ2 b x1 x2, rfl, LW_bg L2 b0 (fun q => by rw [e7]; exact h75 q) X1.2 X2.2, WL_bg W2, LM_bg M2 ⟨b0, by omega⟩ X1 X2, G2, R3, by rw [bgS_37 (by decide)]; exact d2, dc⟩
          
        · refine Z_iconst (M := mL_isBegun) dL_isBegun_219 ?_
          refine J_zret (M := mL_isBegun) dL_isBegun_220 rfl (by first | exact pI_zb _ | exact zb_of (Or.inl rfl) | exact zb_of (Or.inr rfl) | assumption) ?_
          exact ⟨rfl, σ2, π, g, ρ2, τ2, rfl, I2⟩
    refine J_aload (M := mL_isBegun) dL_isBegun_109 rfl ?_
    refine J_iload (M := mL_isBegun) dL_isBegun_111 rfl ?_
    refine Z_iconst (M := mL_isBegun) dL_isBegun_113 ?_
    refine M_callS (M := mL_isBegun) (as := [_, _, _]) dL_isBegun_114 ca_L_27 ⟨by decide, by decide⟩ rfl (Nat.le_of_ble_eq_true rfl) rfl rfl (rL_fencer lw36 (by omega) (by omega)) ?_
    refine J_istore (M := mL_isBegun) dL_isBegun_117 (by decide) ?_
    refine J_aload (M := mL_isBegun) dL_isBegun_119 rfl ?_
    refine J_iload (M := mL_isBegun) dL_isBegun_121 rfl ?_
    refine Z_iconst (M := mL_isBegun) dL_isBegun_123 ?_
    refine M_callS (M := mL_isBegun) (as := [_, _, _]) dL_isBegun_124 ca_L_27 ⟨by decide, by decide⟩ rfl (Nat.le_of_ble_eq_true rfl) rfl rfl (rL_fencer lw36 (by omega) (by omega)) ?_
    refine J_istore (M := mL_isBegun) dL_isBegun_127 (by decide) ?_
    refine J_iload (M := mL_isBegun) dL_isBegun_129 rfl ?_
    refine Z_if_lt (M := mL_isBegun) (tgt := 139) (by first | assumption | exact pI_rg _ | (unfold rg; omega)) dL_isBegun_131 (by decide) (fun c_131 => ?_) (fun c_131 => ?_)
    · refine J_aload (M := mL_isBegun) dL_isBegun_139 rfl ?_
      refine Z_iconst (M := mL_isBegun) dL_isBegun_141 ?_
      refine L_iald (M := mL_isBegun) (kf := 37) (N := 10) dL_isBegun_142 (by decide) rfl (by decide) (by omega) (by omega) ?_
      first
        | refine Z_pf (M := mL_isBegun) (tgt := 174) dL_isBegun_143 (by decide) (fun c_143 => ?_) (fun c_143 => ?_)
        | refine Z_if_eq (M := mL_isBegun) (tgt := 174) (by first | assumption | exact pI_rg _ | (unfold rg; omega)) dL_isBegun_143 (by decide) (fun c_143 => ?_) (fun c_143 => ?_)
      · refine Z_iconst (M := mL_isBegun) dL_isBegun_174 ?_
        refine J_goto (M := mL_isBegun) (tgt := 179) dL_isBegun_175 (by decide) ?_
        refine J_zret (M := mL_isBegun) dL_isBegun_179 rfl (by first | exact pI_zb _ | exact zb_of (Or.inl rfl) | exact zb_of (Or.inr rfl) | assumption) ?_
        exact ⟨rfl, σ, π, g, ρ, τ, rfl, I⟩
      · refine J_aload_n (M := mL_isBegun) dL_isBegun_146 rfl rfl ?_
        refine J_iload (M := mL_isBegun) dL_isBegun_147 rfl ?_
        refine M_callS (M := mL_isBegun) (as := [_]) dL_isBegun_149 ca_L_49 ⟨by decide, by decide⟩ rfl (Nat.le_of_ble_eq_true rfl) rfl rfl (rL_number (by omega)) ?_
        refine J_iload (M := mL_isBegun) dL_isBegun_152 rfl ?_
        refine J_aload (M := mL_isBegun) dL_isBegun_154 rfl ?_
        refine Z_iconst (M := mL_isBegun) dL_isBegun_156 ?_
        refine L_iald (M := mL_isBegun) (kf := 37) (N := 10) dL_isBegun_157 (by decide) rfl (by decide) (by omega) (by omega) ?_
        refine Z_irem (M := mL_isBegun) (by omega) (by unfold rg; omega) (by omega) (by unfold rg; omega) dL_isBegun_158 ?_
        obtain ⟨y, hy⟩ : ∃ y, y = z % σ 37 0 := ⟨_, rfl⟩
        have y0 : 0 ≤ y := by rw [hy]; exact Int.emod_nonneg _ (by omega)
        have y1 : y < σ 37 0 := by rw [hy]; exact Int.emod_lt_of_pos _ (by omega)
        refine Z_eq (M := mL_isBegun) hy.symm ?_
        refine J_iload (M := mL_isBegun) dL_isBegun_159 rfl ?_
        refine J_aload (M := mL_isBegun) dL_isBegun_161 rfl ?_
        refine Z_iconst (M := mL_isBegun) dL_isBegun_163 ?_
        refine L_iald (M := mL_isBegun) (kf := 37) (N := 10) dL_isBegun_164 (by decide) rfl (by decide) (by omega) (by omega) ?_
        refine Z_irem (M := mL_isBegun) (by omega) (by unfold rg; omega) (by omega) (by unfold rg; omega) dL_isBegun_165 ?_
        refine Z_eq (M := mL_isBegun) hy.symm ?_
        refine J_callW (M := mL_isBegun) (as := [_, _, _, _]) dL_isBegun_166 ca_L_144 ⟨by decide, by decide⟩ rfl (Nat.le_of_ble_eq_true rfl) (k' := 0) (n' := 0) (by decide) (by decide) (bg_no L M R b0 (by omega) h75 ⟨y0, y1⟩ ⟨y0, y1⟩ (by omega)) (fun v_ h_ hv_ => ?_)
        obtain ⟨rfl, rfl⟩ := hv_
        refine Z_bipush (M := mL_isBegun) dL_isBegun_169 rfl ?_
        refine Z_ic_ne (M := mL_isBegun) (tgt := 178) (by unfold rg; omega) (by unfold rg; omega) dL_isBegun_171 (by decide) (fun c_171 => ?_) (fun c_171 => ?_)
        · exact absurd rfl c_171
        · refine Z_iconst (M := mL_isBegun) dL_isBegun_174 ?_
          refine J_goto (M := mL_isBegun) (tgt := 179) dL_isBegun_175 (by decide) ?_
          refine J_zret (M := mL_isBegun) dL_isBegun_179 rfl (by first | exact pI_zb _ | exact zb_of (Or.inl rfl) | exact zb_of (Or.inr rfl) | assumption) ?_
          exact ⟨rfl, σ, π, g, ρ, τ, rfl, I⟩
    · refine J_iload (M := mL_isBegun) dL_isBegun_134 rfl ?_
      refine Z_if_ge (M := mL_isBegun) (tgt := 180) (by first | assumption | exact pI_rg _ | (unfold rg; omega)) dL_isBegun_136 (by decide) (fun c_136 => ?_) (fun c_136 => ?_)
      · exact hj180 (by omega) (by omega)
      · refine J_aload (M := mL_isBegun) dL_isBegun_139 rfl ?_
        refine Z_iconst (M := mL_isBegun) dL_isBegun_141 ?_
        refine L_iald (M := mL_isBegun) (kf := 37) (N := 10) dL_isBegun_142 (by decide) rfl (by decide) (by omega) (by omega) ?_
        first
          | refine Z_pf (M := mL_isBegun) (tgt := 174) dL_isBegun_143 (by decide) (fun c_143 => ?_) (fun c_143 => ?_)
          | refine Z_if_eq (M := mL_isBegun) (tgt := 174) (by first | assumption | exact pI_rg _ | (unfold rg; omega)) dL_isBegun_143 (by decide) (fun c_143 => ?_) (fun c_143 => ?_)
        · refine Z_iconst (M := mL_isBegun) dL_isBegun_174 ?_
          refine J_goto (M := mL_isBegun) (tgt := 179) dL_isBegun_175 (by decide) ?_
          refine J_zret (M := mL_isBegun) dL_isBegun_179 rfl (by first | exact pI_zb _ | exact zb_of (Or.inl rfl) | exact zb_of (Or.inr rfl) | assumption) ?_
          exact ⟨rfl, σ, π, g, ρ, τ, rfl, I⟩
        · refine J_aload_n (M := mL_isBegun) dL_isBegun_146 rfl rfl ?_
          refine J_iload (M := mL_isBegun) dL_isBegun_147 rfl ?_
          refine M_callS (M := mL_isBegun) (as := [_]) dL_isBegun_149 ca_L_49 ⟨by decide, by decide⟩ rfl (Nat.le_of_ble_eq_true rfl) rfl rfl (rL_number (by omega)) ?_
          refine J_iload (M := mL_isBegun) dL_isBegun_152 rfl ?_
          refine J_aload (M := mL_isBegun) dL_isBegun_154 rfl ?_
          refine Z_iconst (M := mL_isBegun) dL_isBegun_156 ?_
          refine L_iald (M := mL_isBegun) (kf := 37) (N := 10) dL_isBegun_157 (by decide) rfl (by decide) (by omega) (by omega) ?_
          refine Z_irem (M := mL_isBegun) (by omega) (by unfold rg; omega) (by omega) (by unfold rg; omega) dL_isBegun_158 ?_
          obtain ⟨y, hy⟩ : ∃ y, y = z % σ 37 0 := ⟨_, rfl⟩
          have y0 : 0 ≤ y := by rw [hy]; exact Int.emod_nonneg _ (by omega)
          have y1 : y < σ 37 0 := by rw [hy]; exact Int.emod_lt_of_pos _ (by omega)
          refine Z_eq (M := mL_isBegun) hy.symm ?_
          refine J_iload (M := mL_isBegun) dL_isBegun_159 rfl ?_
          refine J_aload (M := mL_isBegun) dL_isBegun_161 rfl ?_
          refine Z_iconst (M := mL_isBegun) dL_isBegun_163 ?_
          refine L_iald (M := mL_isBegun) (kf := 37) (N := 10) dL_isBegun_164 (by decide) rfl (by decide) (by omega) (by omega) ?_
          refine Z_irem (M := mL_isBegun) (by omega) (by unfold rg; omega) (by omega) (by unfold rg; omega) dL_isBegun_165 ?_
          refine Z_eq (M := mL_isBegun) hy.symm ?_
          refine J_callW (M := mL_isBegun) (as := [_, _, _, _]) dL_isBegun_166 ca_L_144 ⟨by decide, by decide⟩ rfl (Nat.le_of_ble_eq_true rfl) (k' := 0) (n' := 0) (by decide) (by decide) (bg_no L M R b0 (by omega) h75 ⟨y0, y1⟩ ⟨y0, y1⟩ (by omega)) (fun v_ h_ hv_ => ?_)
          obtain ⟨rfl, rfl⟩ := hv_
          refine Z_bipush (M := mL_isBegun) dL_isBegun_169 rfl ?_
          refine Z_ic_ne (M := mL_isBegun) (tgt := 178) (by unfold rg; omega) (by unfold rg; omega) dL_isBegun_171 (by decide) (fun c_171 => ?_) (fun c_171 => ?_)
          · exact absurd rfl c_171
          · refine Z_iconst (M := mL_isBegun) dL_isBegun_174 ?_
            refine J_goto (M := mL_isBegun) (tgt := 179) dL_isBegun_175 (by decide) ?_
            refine J_zret (M := mL_isBegun) dL_isBegun_179 rfl (by first | exact pI_zb _ | exact zb_of (Or.inl rfl) | exact zb_of (Or.inr rfl) | assumption) ?_
            exact ⟨rfl, σ, π, g, ρ, τ, rfl, I⟩
  refine CT_of (by decide +kernel) rfl (Nat.le_of_ble_eq_true rfl) ?_
  refine J_iload (M := mL_isBegun) dL_isBegun_0 rfl ?_
  refine Z_ij (M := mL_isBegun) (pcB := 17) (lnb σ) (fun hj_17 => ?_) ?_
  · refine J_aload (M := mL_isBegun) dL_isBegun_2 rfl ?_
    refine Z_bipush (M := mL_isBegun) dL_isBegun_4 rfl ?_
    refine L_iald (M := mL_isBegun) (kf := 37) (N := 10) dL_isBegun_6 (by decide) rfl (by decide) (by omega) (by omega) ?_
    refine Z_if_le (M := mL_isBegun) (tgt := 15) (by first | assumption | exact pI_rg _ | (unfold rg; omega)) dL_isBegun_7 (by decide) (fun c_7 => ?_) (fun c_7 => ?_)
    · refine Z_bipush (M := mL_isBegun) dL_isBegun_15 rfl ?_
      exact hj_17 _ (by omega)
    · refine Z_bipush (M := mL_isBegun) dL_isBegun_10 rfl ?_
      refine J_goto (M := mL_isBegun) (tgt := 17) dL_isBegun_12 (by decide) ?_
      exact hj_17 _ (by omega)
  refine Z_irem (M := mL_isBegun) (by omega) (by unfold rg; omega) (by omega) (by unfold rg; omega) dL_isBegun_17 ?_
  obtain ⟨y, hy⟩ : ∃ y, y = z % lnb σ := ⟨_, rfl⟩
  have y0 : 0 ≤ y := by rw [hy]; exact Int.emod_nonneg _ (by omega)
  have y1 : y < lnb σ := by rw [hy]; exact Int.emod_lt_of_pos _ (by omega)
  refine Z_eq (M := mL_isBegun) hy.symm ?_
  refine J_istore (M := mL_isBegun) dL_isBegun_18 (by decide) ?_
  refine Z_iconst (M := mL_isBegun) dL_isBegun_20 ?_
  refine J_istore (M := mL_isBegun) dL_isBegun_21 (by decide) ?_
  exact J_sub (begun_l W (by omega) hz hj109 9 0 (by omega) y y0 y1) (And.intro rfl (And.intro rfl (And.intro rfl (And.intro rfl (And.intro rfl (And.intro rfl (And.intro rfl (And.intro rfl (And.intro rfl trivial)))))))))

