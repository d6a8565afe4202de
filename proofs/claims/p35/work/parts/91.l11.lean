/-! THE LAW: an appeal -/
theorem lb_ap {π : Int → Int64} {b j b' j' : Int} {A : Nat} (hj : 0 ≤ j ∧ j ≤ 11) (hj' : 0 ≤ j' ∧ j' ≤ 11) (hA : A < 4) {f m : Nat} (hf : f + m ≤ 16) (hd : ¬ (b' = b ∧ j' = j) ∨ f + m ≤ 14) : lb (upL π (3 * b + j / 4) (pt (π (3 * b + j / 4)) (16 * (j % 4) + 14) 3 A)) b' j' f m = lb π b' j' f m := by
  unfold lb upL
  by_cases e : 3 * b' + j' / 4 = 3 * b + j / 4
  · rw [if_pos e]
    obtain ⟨q, hq⟩ : ∃ q : Nat, j % 4 = q := ⟨(j % 4).toNat, by omega⟩
    obtain ⟨q', hq'⟩ : ∃ q : Nat, j' % 4 = q := ⟨(j' % 4).toNat, by omega⟩
    have hqq : ¬ q = q' ∨ f + m ≤ 14 := by omega
    rw [hq, hq', e]
    have e2 := pt_ot (x := π (3 * b + j / 4)) (S := 16 * q + 14) (n := 2) (A := A) (f := 16 * q' + f) (m := m) (by omega) (by omega) (by decide) hA (by omega) (by omega)
    rw [show (16 * (q' : Int) + (f : Int)).toNat = 16 * q' + f by omega, show ((m : Int)).toNat = m from rfl, show (16 * (q : Int) + 14) = ((16 * q + 14 : Nat) : Int) by push_cast; rfl]
    exact e2
  · rw [if_neg e]
theorem lb_ap2 {π : Int → Int64} {b j : Int} {A : Nat} (hj : 0 ≤ j ∧ j ≤ 11) (hA : A < 4) : lb (upL π (3 * b + j / 4) (pt (π (3 * b + j / 4)) (16 * (j % 4) + 14) 3 A)) b j 14 2 = A := by
  unfold lb upL
  rw [if_pos rfl]
  obtain ⟨q, hq⟩ : ∃ q : Nat, j % 4 = q := ⟨(j % 4).toNat, by omega⟩
  rw [hq]
  have e := pt_in (x := π (3 * b + j / 4)) (S := 16 * q + 14) (n := 2) (A := A) (f := 0) (m := 2) (by omega) (by omega) (by decide) hA (by decide)
  rw [show (16 * (q : Int) + 14).toNat = 16 * q + 14 + 0 by omega, show ((2 : Int)).toNat = 2 from rfl, show (16 * (q : Int) + 14) = ((16 * q + 14 : Nat) : Int) by push_cast; rfl]
  refine e.trans ?_
  rw [show ((A / 2 ^ 0 % 2 ^ 2 : Nat) : Int) = ((A / 1 % 4 : Nat) : Int) from rfl]
  omega
theorem LW_a {σ : TS} {π : Int → Int64} {τ : TS} {b j d : Int} (L : LW σ π τ) (W : WF τ) (hb : 0 ≤ b ∧ b ≤ 8) (hj : 0 ≤ j) (he : j < σ 32 b) (hd : -1 ≤ d ∧ d ≤ 1) : LW σ (upL π (3 * b + j / 4) (pt (π (3 * b + j / 4)) (16 * (j % 4) + 14) 3 (d + 1))) (ts τ 14 (12 * slb b + j) d) := by
  obtain ⟨a, p, x, g, q, n, B⟩ := L
  have j11 : j ≤ 11 := by have := wf10 W (slb b); have := (q b hb.1 hb.2).1; omega
  have hp0 : 0 ≤ 12 * slb b + j := by have := slb_rg hb; omega
  obtain ⟨A, hA⟩ : ∃ A : Nat, d + 1 = A := ⟨(d + 1).toNat, by omega⟩
  have hA4 : A < 4 := by omega
  rw [hA]
  have hE : EQP (ts τ 14 (12 * slb b + j) d) τ (12 * slb b + j) := ⟨rfl, rfl, rfl, fun f hf => ⟨rfl, if_neg hf⟩, fun _ _ => rfl, fun _ _ => ⟨rfl, rfl⟩⟩
  have hj14 : (ts τ 14 (12 * slb b + j) d) 14 (12 * slb b + j) = d := ts_self
  refine ⟨a, p, x, g, q, n, fun i y i0 i1 y0 y1 => ?_⟩
  have y11 : y ≤ 11 := by have := wf10 W (slb i); have := (q i i0 i1).1; omega
  have P := B i y i0 i1 y0 y1
  have o : ∀ {f m : Nat}, f + m ≤ 14 → lb (upL π (3 * b + j / 4) (pt (π (3 * b + j / 4)) (16 * (j % 4) + 14) 3 A)) i y f m = lb π i y f m := fun hf => lb_ap ⟨hj, j11⟩ ⟨y0, y11⟩ hA4 (by omega) (Or.inr hf)
  have o0 := o (f := 0) (m := 4) (by decide)
  have o4 := o (f := 4) (m := 4) (by decide)
  have o8 := o (f := 8) (m := 2) (by decide)
  have o10 := o (f := 10) (m := 2) (by decide)
  have o12 := o (f := 12) (m := 2) (by decide)
  have ej : jr (ts τ 14 (12 * slb b + j) d) = jr τ := rfl
  unfold PB lt0 at P ⊢
  obtain ⟨⟨P1, P2⟩, P3, ⟨P4, P5, P6⟩, P7⟩ := P
  rw [ej]
  refine ⟨⟨o0.trans P1, o4.trans P2⟩, P3, ⟨o8.trans P4, o10.trans P5, o12.trans P6⟩, ?_⟩
  by_cases c : i = b ∧ y = j
  · obtain ⟨c1, c2⟩ := c
    subst c1
    subst c2
    rw [lb_ap2 ⟨hj, j11⟩ hA4, jd_jr hj14, ej, ← hA]
    have hd3 : d = -1 ∨ d = 0 ∨ d = 1 := by omega
    rw [← hA] at o8 o10 o12
    rcases hd3 with rfl | rfl | rfl
    · exact o8.trans P4
    · exact o10.trans P5
    · exact o12.trans P6
  · have hph : ¬ 12 * slb i + y = 12 * slb b + j := fun z => by
      have : slb i = slb b := by omega
      exact c ⟨slb_inj ⟨i0, i1⟩ hb this, by omega⟩
    have h14 := lb_ap (π := π) (b := b) (j := j) (b' := i) (j' := y) (A := A) ⟨hj, j11⟩ ⟨y0, y11⟩ hA4 (f := 14) (m := 2) (by decide) (Or.inl c)
    have h14' : lb (upL π (3 * b + j / 4) (pt (π (3 * b + j / 4)) (16 * (j % 4) + 14) 3 A)) i y 14 2 = lb π i y 14 2 := h14
    rw [h14', jd_E hE W (by have := slb_rg ⟨i0, i1⟩; omega) hph]
    have l2 := lb2 (π := π) (b := i) (j := y) (f := 14)
    obtain ⟨v, hv⟩ : ∃ v : Nat, lb π i y 14 2 = v := ⟨(lb π i y 14 2).toNat, by omega⟩
    rw [hv] at P7 l2 ⊢
    have ec : (8 : Int) + 2 * (v : Int) = ((8 + 2 * v : Nat) : Int) := by push_cast; rfl
    rw [ec] at P7 ⊢
    exact (lb_ap (f := 8 + 2 * v) (m := 2) ⟨hj, j11⟩ ⟨y0, y11⟩ hA4 (by omega) (Or.inl c)).trans P7
theorem LW_u {σ : TS} {π : Int → Int64} {τ : TS} {b s v : Int} (L : LW σ π τ) (hb : 0 ≤ b ∧ b ≤ 8) (hs : s = 0 ∨ s = 1) : LW (ts σ 33 (2 * b + s) v) π (ts τ 11 (2 * slb b + s) v) := by
  obtain ⟨a, p, x, g, q, n, B⟩ := L
  refine ⟨a, p, x, g, fun i i0 i1 => ?_, n, B⟩
  obtain ⟨q1, q2, q3⟩ := q i i0 i1
  refine ⟨q1, ?_, ?_⟩
  · show upZ (τ 11) (2 * slb b + s) v (2 * slb i) = upZ (σ 33) (2 * b + s) v (2 * i)
    unfold upZ
    by_cases c : i = b ∧ s = 0
    · rw [if_pos (by rw [c.1, c.2]; omega), if_pos (by omega)]
    · rw [if_neg (fun z => c (by have : slb i = slb b := by omega
                                 exact ⟨slb_inj ⟨i0, i1⟩ hb this, by omega⟩)), if_neg (by omega)]
      exact q2
  · show upZ (τ 11) (2 * slb b + s) v (2 * slb i + 1) = upZ (σ 33) (2 * b + s) v (2 * i + 1)
    unfold upZ
    by_cases c : i = b ∧ s = 1
    · rw [if_pos (by rw [c.1, c.2]), if_pos (by omega)]
    · rw [if_neg (fun z => c (by have : slb i = slb b := by omega
                                 exact ⟨slb_inj ⟨i0, i1⟩ hb this, by omega⟩)), if_neg (by omega)]
      exact q3
theorem ap_no {X : GX} {g : LH} {σh ρ τ : TS} {π : Int → Int64} {c s d : Int} (R : RR ρ τ c) (hs : 0 ≤ s ∧ s ≤ 1) (hd : -1 ≤ d ∧ d ≤ 1) (h : ¬ ((((¬ τ 17 0 = -1 ∧ τ 19 0 = 0) ∧ ¬ τ 20 0 = 0) ∧ 0 ≤ s ∧ s ≤ 1) ∧ τ 11 (2 * slo (τ 17 0) + s) < 2)) : CT X mL_appealed [vR (some (1, 0)), vI (iI s), vI (iI d)] (HW g σh π ρ) (rQ (fun o h' => o = some (vI (iI (-7))) ∧ h' = HW g σh π ρ)) := by
  have hn := gl3' hs hd h
  refine CT.mono (fun o h' hq => ?_) (wL_appealed (Or.inr hn) (p_appeal (h := HL σh π g) R (s := s) (d := d) (by unfold rg; omega) (by unfold rg; omega)))
  cases o with
  | inl o =>
    rcases hq with ⟨h1, rfl, rfl⟩ | ⟨h0, -⟩
    · exact ⟨rfl, rfl⟩
    · rw [hn] at h0
      exact absurd h0 (by decide)
  | inr k => exact hq
theorem ap_yes {X : GX} {g : LH} {σh ρ τ : TS} {π : Int → Int64} {c s d : Int} (R : RR ρ τ c) (hs : 0 ≤ s ∧ s ≤ 1) (hd : -1 ≤ d ∧ d ≤ 1) (h : (((¬ τ 17 0 = -1 ∧ τ 19 0 = 0) ∧ ¬ τ 20 0 = 0) ∧ 0 ≤ s ∧ s ≤ 1) ∧ τ 11 (2 * slo (τ 17 0) + s) < 2) : CT X mL_appealed [vR (some (1, 0)), vI (iI s), vI (iI d)] (HW g σh π ρ) (rQ (LQ0 g σh π (tch (ts τ 14 (12 * slo (τ 17 0) + (τ 10 (slo (τ 17 0)) - 1)) d) (slo (τ 17 0)) (τ 10 (slo (τ 17 0)) - 1)) (fun r => RR r (fol (ts (ts τ 14 (12 * slo (τ 17 0) + (τ 10 (slo (τ 17 0)) - 1)) d) 11 (2 * slo (τ 17 0) + s) (τ 11 (2 * slo (τ 17 0) + s) + (pI (tch (ts τ 14 (12 * slo (τ 17 0) + (τ 10 (slo (τ 17 0)) - 1)) d) (slo (τ 17 0)) (τ 10 (slo (τ 17 0)) - 1) = tch τ (slo (τ 17 0)) (τ 10 (slo (τ 17 0)) - 1)))))) c))) := by
  have hn := gl0 hs hd h
  refine CT.mono (fun o h' hq => ?_) (wL_appealed (Or.inl hn) (p_appeal (h := HL σh π g) R (s := s) (d := d) (by unfold rg; omega) (by unfold rg; omega)))
  cases o with
  | inl o =>
    rcases hq with ⟨h1, -⟩ | ⟨h0, rfl, r, hT, rfl⟩
    · exact absurd hn h1
    · exact ⟨rfl, r, hT, rfl⟩
  | inr k => exact hq
set_option maxRecDepth 100000 in
set_option maxHeartbeats 4000000 in
theorem rL_isAppealed {X : GX} {g : LH} {σ ρ τ : TS} {π : Int → Int64} {c z : Int} (I : IV σ π g ρ τ c) (hc : c ≤ 199) (hz : 0 ≤ z ∧ z ≤ 10000000) : CT X mL_isAppealed [vR (some (1, 0)), vR (some (30, 0)), vR (some (31, 0)), vR (some (32, 0)), vR (some (33, 0)), vR (some (36, 0)), vR (some (37, 0)), vI (iI z)] (HW g σ π ρ) (rQ (KQ (c + 1))) := by
  obtain ⟨L, W, M, G, R, d8, dc⟩ := id I
  obtain ⟨m0, m1, m2, m3, m4, m6, m7, m9⟩ := id M
  refine CT_of (by decide +kernel) rfl (Nat.le_of_ble_eq_true rfl) ?_
  refine J_iload (M := mL_isAppealed) dL_isAppealed_0 rfl ?_
  refine Z_iconst (M := mL_isAppealed) dL_isAppealed_2 ?_
  refine Z_irem (M := mL_isAppealed) (by omega) (by first | assumption | exact pI_rg _ | (unfold rg; omega)) (by decide) (by first | assumption | exact pI_rg _ | (unfold rg; omega)) dL_isAppealed_3 ?_
  obtain ⟨s, hs⟩ : ∃ s, s = z % 2 := ⟨_, rfl⟩
  have hs01 : 0 ≤ s ∧ s ≤ 1 := by omega
  refine Z_eq (M := mL_isAppealed) hs.symm ?_
  refine J_istore (M := mL_isAppealed) dL_isAppealed_4 (by decide) ?_
  refine J_iload (M := mL_isAppealed) dL_isAppealed_6 rfl ?_
  refine Z_iconst (M := mL_isAppealed) dL_isAppealed_8 ?_
  refine Z_idiv (M := mL_isAppealed) (by omega) (by first | assumption | exact pI_rg _ | (unfold rg; omega)) (by decide) (by first | assumption | exact pI_rg _ | (unfold rg; omega)) dL_isAppealed_9 ?_
  refine Z_iconst (M := mL_isAppealed) dL_isAppealed_10 ?_
  refine Z_irem (M := mL_isAppealed) (by omega) (by first | assumption | exact pI_rg _ | (unfold rg; omega)) (by decide) (by first | assumption | exact pI_rg _ | (unfold rg; omega)) dL_isAppealed_11 ?_
  refine Z_iconst (M := mL_isAppealed) dL_isAppealed_12 ?_
  refine Z_isub (M := mL_isAppealed) dL_isAppealed_13 ?_
  obtain ⟨d, hd⟩ : ∃ d, d = z / 2 % 3 - 1 := ⟨_, rfl⟩
  have hd11 : -1 ≤ d ∧ d ≤ 1 := by omega
  refine Z_eq (M := mL_isAppealed) hd.symm ?_
  have hj55 : ¬ ((((¬ τ 17 0 = -1 ∧ τ 19 0 = 0) ∧ ¬ τ 20 0 = 0) ∧ 0 ≤ s ∧ s ≤ 1) ∧ τ 11 (2 * slo (τ 17 0) + s) < 2) → J X mL_isAppealed 55 [some (vR (some (1, 0))), some (vR (some (30, 0))), some (vR (some (31, 0))), some (vR (some (32, 0))), some (vR (some (33, 0))), some (vR (some (36, 0))), some (vR (some (37, 0))), none, some (vI (iI s)), some (vI (iI d)), none, none, none, none, none] [] (HW g σ π ρ) 3 24 (rQ (KQ (c + 1))) := by
    intro hno
    refine J_aload_n (M := mL_isAppealed) dL_isAppealed_55 rfl rfl ?_
    refine J_iload (M := mL_isAppealed) dL_isAppealed_56 rfl ?_
    refine J_iload (M := mL_isAppealed) dL_isAppealed_58 rfl ?_
    refine J_callW (M := mL_isAppealed) (as := [_, _, _]) dL_isAppealed_60 ca_L_191 ⟨by decide, by decide⟩ rfl (Nat.le_of_ble_eq_true rfl) (k' := 0) (n' := 0) (by decide) (by decide) (ap_no R (by omega) (by omega) hno) (fun v_ h_ hv_ => ?_)
    obtain ⟨rfl, rfl⟩ := hv_
    refine Z_bipush (M := mL_isAppealed) dL_isAppealed_63 rfl ?_
    refine Z_ic_ne (M := mL_isAppealed) (tgt := 72) (by first | assumption | exact pI_rg _ | (unfold rg; omega)) (by first | assumption | exact pI_rg _ | (unfold rg; omega)) dL_isAppealed_65 (by decide) (fun c_65 => ?_) (fun c_65 => ?_)
    · exact absurd rfl c_65
    · refine Z_iconst (M := mL_isAppealed) dL_isAppealed_68 ?_
      refine J_goto (M := mL_isAppealed) (tgt := 73) dL_isAppealed_69 (by decide) ?_
      refine J_zret (M := mL_isAppealed) dL_isAppealed_73 rfl (by first | exact pI_zb _ | exact zb_of (Or.inl rfl) | exact zb_of (Or.inr rfl) | assumption) ?_
      exact ⟨rfl, σ, π, g, ρ, τ, rfl, IV_s I hc⟩
  refine J_istore (M := mL_isAppealed) dL_isAppealed_14 (by decide) ?_
  refine J_aload (M := mL_isAppealed) dL_isAppealed_16 rfl ?_
  refine Z_iconst (M := mL_isAppealed) dL_isAppealed_18 ?_
  refine L_iald (M := mL_isAppealed) (kf := 37) (N := 10) dL_isAppealed_19 (by decide) rfl (by decide) (by omega) (by omega) ?_
  refine Z_if_lt (M := mL_isAppealed) (tgt := 55) (by first | assumption | exact pI_rg _ | (unfold rg; omega)) dL_isAppealed_20 (by decide) (fun c_20 => ?_) (fun c_20 => ?_)
  · exact J_sub (hj55 (fun y => by
      obtain ⟨⟨⟨⟨y1, y2⟩, y3⟩, y4⟩, y5⟩ := y
      by_cases z1 : 0 ≤ σ 37 1
      · obtain ⟨⟨k1, k2, k3, k4⟩, -⟩ := L.2.2.2.1.2 z1
        have hsl := slo_num (b := σ 37 1) ⟨z1, m1.2⟩
        obtain ⟨q10, q11, q12⟩ := L.2.2.2.2.1 (σ 37 1) z1 m1.2
        rw [k1, hsl] at y5
        have hu : τ 11 (2 * slb (σ 37 1) + s) = σ 33 (2 * σ 37 1 + s) := by
          have : s = 0 ∨ s = 1 := by omega
          rcases this with w | w
          · rw [w, Int.add_zero, Int.add_zero]; exact q11
          · rw [w]; exact q12
        rw [hu] at y5
        omega
      · exact y1 (L.2.2.2.1.1 (by omega)))) (And.intro rfl (And.intro rfl (And.intro rfl (And.intro rfl (And.intro rfl (And.intro rfl (And.intro rfl (And.intro rfl (And.intro rfl trivial)))))))))
  · refine J_aload (M := mL_isAppealed) dL_isAppealed_23 rfl ?_
    refine Z_iconst (M := mL_isAppealed) dL_isAppealed_25 ?_
    refine L_iald (M := mL_isAppealed) (kf := 37) (N := 10) dL_isAppealed_26 (by decide) rfl (by decide) (by omega) (by omega) ?_
    refine Z_iconst (M := mL_isAppealed) dL_isAppealed_27 ?_
    refine Z_ic_eq (M := mL_isAppealed) (tgt := 55) (by first | assumption | exact pI_rg _ | (unfold rg; omega)) (by first | assumption | exact pI_rg _ | (unfold rg; omega)) dL_isAppealed_28 (by decide) (fun c_28 => ?_) (fun c_28 => ?_)
    · exact J_sub (hj55 (fun y => by
        obtain ⟨⟨⟨⟨y1, y2⟩, y3⟩, y4⟩, y5⟩ := y
        by_cases z1 : 0 ≤ σ 37 1
        · obtain ⟨⟨k1, k2, k3, k4⟩, -⟩ := L.2.2.2.1.2 z1
          have hsl := slo_num (b := σ 37 1) ⟨z1, m1.2⟩
          obtain ⟨q10, q11, q12⟩ := L.2.2.2.2.1 (σ 37 1) z1 m1.2
          rw [k1, hsl] at y5
          have hu : τ 11 (2 * slb (σ 37 1) + s) = σ 33 (2 * σ 37 1 + s) := by
            have : s = 0 ∨ s = 1 := by omega
            rcases this with w | w
            · rw [w, Int.add_zero, Int.add_zero]; exact q11
            · rw [w]; exact q12
          rw [hu] at y5
          omega
        · exact y1 (L.2.2.2.1.1 (by omega)))) (And.intro rfl (And.intro rfl (And.intro rfl (And.intro rfl (And.intro rfl (And.intro rfl (And.intro rfl (And.intro rfl (And.intro rfl trivial)))))))))
    · refine J_aload (M := mL_isAppealed) dL_isAppealed_31 rfl ?_
      refine Z_bipush (M := mL_isAppealed) dL_isAppealed_33 rfl ?_
      refine L_iald (M := mL_isAppealed) (kf := 37) (N := 10) dL_isAppealed_35 (by decide) rfl (by decide) (by omega) (by omega) ?_
      first
        | refine Z_pf (M := mL_isAppealed) (tgt := 55) dL_isAppealed_36 (by decide) (fun c_36 => ?_) (fun c_36 => ?_)
        | refine Z_if_eq (M := mL_isAppealed) (tgt := 55) (by first | assumption | exact pI_rg _ | (unfold rg; omega)) dL_isAppealed_36 (by decide) (fun c_36 => ?_) (fun c_36 => ?_)
      · exact J_sub (hj55 (fun y => by
          obtain ⟨⟨⟨⟨y1, y2⟩, y3⟩, y4⟩, y5⟩ := y
          by_cases z1 : 0 ≤ σ 37 1
          · obtain ⟨⟨k1, k2, k3, k4⟩, -⟩ := L.2.2.2.1.2 z1
            have hsl := slo_num (b := σ 37 1) ⟨z1, m1.2⟩
            obtain ⟨q10, q11, q12⟩ := L.2.2.2.2.1 (σ 37 1) z1 m1.2
            rw [k1, hsl] at y5
            have hu : τ 11 (2 * slb (σ 37 1) + s) = σ 33 (2 * σ 37 1 + s) := by
              have : s = 0 ∨ s = 1 := by omega
              rcases this with w | w
              · rw [w, Int.add_zero, Int.add_zero]; exact q11
              · rw [w]; exact q12
            rw [hu] at y5
            omega
          · exact y1 (L.2.2.2.1.1 (by omega)))) (And.intro rfl (And.intro rfl (And.intro rfl (And.intro rfl (And.intro rfl (And.intro rfl (And.intro rfl (And.intro rfl (And.intro rfl trivial)))))))))
      · refine J_aload (M := mL_isAppealed) dL_isAppealed_39 rfl ?_
        refine Z_iconst (M := mL_isAppealed) dL_isAppealed_41 ?_
        refine J_aload (M := mL_isAppealed) dL_isAppealed_42 rfl ?_
        refine Z_iconst (M := mL_isAppealed) dL_isAppealed_44 ?_
        refine L_iald (M := mL_isAppealed) (kf := 37) (N := 10) dL_isAppealed_45 (by decide) rfl (by decide) (by omega) (by omega) ?_
        refine Z_imul (M := mL_isAppealed) dL_isAppealed_46 ?_
        refine J_iload (M := mL_isAppealed) dL_isAppealed_47 rfl ?_
        refine Z_iadd (M := mL_isAppealed) dL_isAppealed_49 ?_
        refine L_iald (M := mL_isAppealed) (kf := 33) (N := 18) dL_isAppealed_50 (by decide) rfl (by decide) (by omega) (by omega) ?_
        have b33 := wl33 W (2 * σ 37 1 + s)
        refine Z_iconst (M := mL_isAppealed) dL_isAppealed_51 ?_
        refine Z_ic_ne (M := mL_isAppealed) (tgt := 74) (by first | assumption | exact pI_rg _ | (unfold rg; omega)) (by first | assumption | exact pI_rg _ | (unfold rg; omega)) dL_isAppealed_52 (by decide) (fun c_52 => ?_) (fun c_52 => ?_)
        · have m1p : 0 ≤ σ 37 1 := by assumption
          obtain ⟨⟨k1, k2, k3, k4⟩, k5, k6, k7⟩ := L.2.2.2.1.2 m1p
          have hsl := slo_num (b := σ 37 1) ⟨m1p, m1.2⟩
          obtain ⟨q10, q11, q12⟩ := L.2.2.2.2.1 (σ 37 1) m1p m1.2
          have hs17 : slo (τ 17 0) = slb (σ 37 1) := by rw [k1, hsl]
          have hu : τ 11 (2 * slb (σ 37 1) + s) = σ 33 (2 * σ 37 1 + s) := by
            have : s = 0 ∨ s = 1 := by omega
            rcases this with z | z
            · rw [z, Int.add_zero, Int.add_zero]; exact q11
            · rw [z]; exact q12
          have b33 := wl33 W (2 * σ 37 1 + s)
          have n17 : ¬ τ 17 0 = -1 := by rw [k1]; have := num_rg (b := σ 37 1) ⟨m1p, m1.2⟩; omega
          have hPO := (R.2.2.2.2.1.1 L.1.2.1).2.2.2 n17
          have he1 := hPO.2.2.2.2.2.2.2 (by omega)
          rw [hs17, q10] at he1
          have b32 := wl32 W (σ 37 1)
          have hyes : (((¬ τ 17 0 = -1 ∧ τ 19 0 = 0) ∧ ¬ τ 20 0 = 0) ∧ 0 ≤ s ∧ s ≤ 1) ∧ τ 11 (2 * slo (τ 17 0) + s) < 2 := ⟨⟨⟨⟨n17, L.1.2.1⟩, by omega⟩, by omega, by omega⟩, by rw [hs17, hu]; omega⟩
          have L2 := LW_a (b := σ 37 1) (j := σ 32 (σ 37 1) - 1) (d := d) L R.1 ⟨m1p, m1.2⟩ (by omega) (by omega) (by omega)
          have W2 : WF (ts τ 14 (12 * slb (σ 37 1) + (σ 32 (σ 37 1) - 1)) d) := WF_ts R.1 (show -2 ≤ d ∧ d ≤ 1 by omega)
          obtain ⟨T0, hT0⟩ : ∃ x, x = ltch (σ 30) π (σ 37 1) (σ 32 (σ 37 1) - 1) := ⟨_, rfl⟩
          obtain ⟨T1, hT1⟩ : ∃ x, x = ltch (σ 30) (upL π (3 * σ 37 1 + (σ 32 (σ 37 1) - 1) / 4) (pt (π (3 * σ 37 1 + (σ 32 (σ 37 1) - 1) / 4)) (16 * ((σ 32 (σ 37 1) - 1) % 4) + 14) 3 (d + 1))) (σ 37 1) (σ 32 (σ 37 1) - 1) := ⟨_, rfl⟩
          have r0 := ltch_rg (w := σ 30) (π := π) (b := σ 37 1) (j := σ 32 (σ 37 1) - 1)
          have r1 := ltch_rg (w := σ 30) (π := (upL π (3 * σ 37 1 + (σ 32 (σ 37 1) - 1) / 4) (pt (π (3 * σ 37 1 + (σ 32 (σ 37 1) - 1) / 4)) (16 * ((σ 32 (σ 37 1) - 1) % 4) + 14) 3 (d + 1)))) (b := σ 37 1) (j := σ 32 (σ 37 1) - 1)
          rw [← hT0] at r0
          rw [← hT1] at r1
          have e0 := ltch_tch L R.1 m1p m1.2 (j := σ 32 (σ 37 1) - 1) (by omega) (by omega)
          have e1 := ltch_tch L2 W2 m1p m1.2 (j := σ 32 (σ 37 1) - 1) (by omega) (by omega)
          rw [← hT0] at e0
          rw [← hT1] at e1
          have hR := ap_yes (X := X) (g := g) (σh := σ) (π := π) R (s := s) (d := d) (by omega) (by omega) hyes
          refine J_aload (M := mL_isAppealed) dL_isAppealed_74 rfl ?_
          refine Z_iconst (M := mL_isAppealed) dL_isAppealed_76 ?_
          refine L_iald (M := mL_isAppealed) (kf := 37) (N := 10) dL_isAppealed_77 (by decide) rfl (by decide) (by omega) (by omega) ?_
          refine J_istore (M := mL_isAppealed) dL_isAppealed_78 (by decide) ?_
          refine J_aload_n (M := mL_isAppealed) dL_isAppealed_80 rfl rfl ?_
          refine J_iload (M := mL_isAppealed) dL_isAppealed_81 rfl ?_
          refine L_iald (M := mL_isAppealed) (kf := 32) (N := 9) dL_isAppealed_83 (by decide) rfl (by decide) (by omega) (by omega) ?_
          refine Z_iconst (M := mL_isAppealed) dL_isAppealed_84 ?_
          refine Z_isub (M := mL_isAppealed) dL_isAppealed_85 ?_
          refine J_istore (M := mL_isAppealed) dL_isAppealed_86 (by decide) ?_
          refine J_aload_n (M := mL_isAppealed) dL_isAppealed_88 rfl rfl ?_
          refine J_aload_n (M := mL_isAppealed) dL_isAppealed_89 rfl rfl ?_
          refine J_iload (M := mL_isAppealed) dL_isAppealed_90 rfl ?_
          refine J_iload (M := mL_isAppealed) dL_isAppealed_92 rfl ?_
          refine M_callS (M := mL_isAppealed) (as := [_, _, _, _]) dL_isAppealed_94 ca_L_19 ⟨by decide, by decide⟩ rfl (Nat.le_of_ble_eq_true rfl) rfl rfl (rL_touches lw30 lw31 (wl30 W) (by omega) (by omega)) ?_
          refine Z_eq (M := mL_isAppealed) hT0.symm ?_
          refine J_istore (M := mL_isAppealed) dL_isAppealed_97 (by decide) ?_
          refine Z_bipush (M := mL_isAppealed) dL_isAppealed_99 rfl ?_
          refine J_iload (M := mL_isAppealed) dL_isAppealed_101 rfl ?_
          refine Z_iconst (M := mL_isAppealed) dL_isAppealed_103 ?_
          refine Z_irem (M := mL_isAppealed) (by omega) (by first | assumption | exact pI_rg _ | (unfold rg; omega)) (by decide) (by first | assumption | exact pI_rg _ | (unfold rg; omega)) dL_isAppealed_104 ?_
          refine Z_imul (M := mL_isAppealed) dL_isAppealed_105 ?_
          refine Z_bipush (M := mL_isAppealed) dL_isAppealed_106 rfl ?_
          refine Z_iadd (M := mL_isAppealed) dL_isAppealed_108 ?_
          refine J_istore (M := mL_isAppealed) dL_isAppealed_109 (by decide) ?_
          refine J_aload_n (M := mL_isAppealed) dL_isAppealed_111 rfl rfl ?_
          refine Z_iconst (M := mL_isAppealed) dL_isAppealed_112 ?_
          refine J_iload (M := mL_isAppealed) dL_isAppealed_113 rfl ?_
          refine Z_imul (M := mL_isAppealed) dL_isAppealed_115 ?_
          refine J_iload (M := mL_isAppealed) dL_isAppealed_116 rfl ?_
          refine Z_iconst (M := mL_isAppealed) dL_isAppealed_118 ?_
          refine Z_idiv (M := mL_isAppealed) (by omega) (by first | assumption | exact pI_rg _ | (unfold rg; omega)) (by decide) (by first | assumption | exact pI_rg _ | (unfold rg; omega)) dL_isAppealed_119 ?_
          refine Z_iadd (M := mL_isAppealed) dL_isAppealed_120 ?_
          refine J_aload_n (M := mL_isAppealed) dL_isAppealed_121 rfl rfl ?_
          refine Z_iconst (M := mL_isAppealed) dL_isAppealed_122 ?_
          refine J_iload (M := mL_isAppealed) dL_isAppealed_123 rfl ?_
          refine Z_imul (M := mL_isAppealed) dL_isAppealed_125 ?_
          refine J_iload (M := mL_isAppealed) dL_isAppealed_126 rfl ?_
          refine Z_iconst (M := mL_isAppealed) dL_isAppealed_128 ?_
          refine Z_idiv (M := mL_isAppealed) (by omega) (by first | assumption | exact pI_rg _ | (unfold rg; omega)) (by decide) (by first | assumption | exact pI_rg _ | (unfold rg; omega)) dL_isAppealed_129 ?_
          refine Z_iadd (M := mL_isAppealed) dL_isAppealed_130 ?_
          refine L_lald (M := mL_isAppealed) dL_isAppealed_131 (by omega) (by omega) ?_
          refine Z_ldc2 (M := mL_isAppealed) (z := 3) dL_isAppealed_132 kl_194 (by decide +kernel) ?_
          refine J_iload (M := mL_isAppealed) dL_isAppealed_135 rfl ?_
          refine J_lshl (M := mL_isAppealed) dL_isAppealed_137 ?_
          refine Z_ldc2 (M := mL_isAppealed) (z := (-1)) dL_isAppealed_138 kl_185 (by decide +kernel) ?_
          refine J_lxor (M := mL_isAppealed) dL_isAppealed_141 ?_
          refine J_land (M := mL_isAppealed) dL_isAppealed_142 ?_
          refine J_iload (M := mL_isAppealed) dL_isAppealed_143 rfl ?_
          refine Z_iconst (M := mL_isAppealed) dL_isAppealed_145 ?_
          refine Z_iadd (M := mL_isAppealed) dL_isAppealed_146 ?_
          refine Z_i2l (M := mL_isAppealed) (by first | assumption | exact pI_rg _ | (unfold rg; omega)) dL_isAppealed_147 ?_
          refine J_iload (M := mL_isAppealed) dL_isAppealed_148 rfl ?_
          refine J_lshl (M := mL_isAppealed) dL_isAppealed_150 ?_
          refine J_lor (M := mL_isAppealed) dL_isAppealed_151 ?_
          refine Z_leq (M := mL_isAppealed) (y := (pt (π (3 * σ 37 1 + (σ 32 (σ 37 1) - 1) / 4)) (16 * ((σ 32 (σ 37 1) - 1) % 4) + 14) 3 (d + 1))) rfl ?_
          refine L_last (M := mL_isAppealed) dL_isAppealed_152 (by omega) (by omega) ?_
          refine J_aload_n (M := mL_isAppealed) dL_isAppealed_153 rfl rfl ?_
          refine J_aload_n (M := mL_isAppealed) dL_isAppealed_154 rfl rfl ?_
          refine J_iload (M := mL_isAppealed) dL_isAppealed_155 rfl ?_
          refine J_iload (M := mL_isAppealed) dL_isAppealed_157 rfl ?_
          refine M_callS (M := mL_isAppealed) (as := [_, _, _, _]) dL_isAppealed_159 ca_L_19 ⟨by decide, by decide⟩ rfl (Nat.le_of_ble_eq_true rfl) rfl rfl (rL_touches lw30 lw31 (wl30 W) (by omega) (by omega)) ?_
          refine Z_eq (M := mL_isAppealed) hT1.symm ?_
          refine J_istore (M := mL_isAppealed) dL_isAppealed_162 (by decide) ?_
          refine J_aload (M := mL_isAppealed) dL_isAppealed_164 rfl ?_
          refine Z_iconst (M := mL_isAppealed) dL_isAppealed_166 ?_
          refine J_iload (M := mL_isAppealed) dL_isAppealed_167 rfl ?_
          refine Z_imul (M := mL_isAppealed) dL_isAppealed_169 ?_
          refine J_iload (M := mL_isAppealed) dL_isAppealed_170 rfl ?_
          refine Z_iadd (M := mL_isAppealed) dL_isAppealed_172 ?_
          refine J_dup2 (M := mL_isAppealed) dL_isAppealed_173 rfl rfl ?_
          refine L_iald (M := mL_isAppealed) (kf := 33) (N := 18) dL_isAppealed_174 (by decide) rfl (by decide) (by omega) (by omega) ?_
          refine Z_ij (M := mL_isAppealed) (pcB := 187) (if T1 = T0 then 1 else 0) (fun hj_187 => ?_) ?_
          · refine J_iload (M := mL_isAppealed) dL_isAppealed_175 rfl ?_
            refine J_iload (M := mL_isAppealed) dL_isAppealed_177 rfl ?_
            refine Z_ic_ne (M := mL_isAppealed) (tgt := 186) (by first | assumption | exact pI_rg _ | (unfold rg; omega)) (by first | assumption | exact pI_rg _ | (unfold rg; omega)) dL_isAppealed_179 (by decide) (fun c_179 => ?_) (fun c_179 => ?_)
            · refine Z_iconst (M := mL_isAppealed) dL_isAppealed_186 ?_
              exact hj_187 _ (by first | rw [if_pos (by omega)] | rw [if_neg (by omega)])
            · refine Z_iconst (M := mL_isAppealed) dL_isAppealed_182 ?_
              refine J_goto (M := mL_isAppealed) (tgt := 187) dL_isAppealed_183 (by decide) ?_
              exact hj_187 _ (by first | rw [if_pos (by omega)] | rw [if_neg (by omega)])
          refine Z_iadd (M := mL_isAppealed) dL_isAppealed_187 ?_
          refine L_iast (M := mL_isAppealed) (kf := 33) (N := 18) dL_isAppealed_188 (by decide) rfl (by decide) (by omega) (by omega) ?_
          have hif : (if T1 = T0 then (1 : Int) else 0) = pI (T1 = T0) := by
            by_cases z : T1 = T0
            · rw [if_pos z, pI_t z]
            · rw [if_neg z, pI_f z]
          have L3 := LW_u (s := s) (v := σ 33 (2 * σ 37 1 + s) + (if T1 = T0 then 1 else 0)) L2 ⟨m1p, m1.2⟩ (by omega)
          have W3 : WL (ts σ 33 (2 * σ 37 1 + s) (σ 33 (2 * σ 37 1 + s) + (if T1 = T0 then 1 else 0))) := WL_ts W (Or.inr (show 0 ≤ _ ∧ _ ≤ 2 by split <;> omega))
          have M3 : LM (ts σ 33 (2 * σ 37 1 + s) (σ 33 (2 * σ 37 1 + s) + (if T1 = T0 then 1 else 0))) := M
          have WF3 : WF (ts (ts τ 14 (12 * slb (σ 37 1) + (σ 32 (σ 37 1) - 1)) d) 11 (2 * slb (σ 37 1) + s) (σ 33 (2 * σ 37 1 + s) + (if T1 = T0 then 1 else 0))) := WF_ts W2 (show 0 ≤ _ ∧ _ ≤ 2 by split <;> omega)
          refine J_aload_n (M := mL_isAppealed) dL_isAppealed_189 rfl rfl ?_
          refine J_aload_n (M := mL_isAppealed) dL_isAppealed_190 rfl rfl ?_
          refine J_aload_n (M := mL_isAppealed) dL_isAppealed_191 rfl rfl ?_
          refine J_aload (M := mL_isAppealed) dL_isAppealed_192 rfl ?_
          refine J_aload (M := mL_isAppealed) dL_isAppealed_194 rfl ?_
          refine J_aload (M := mL_isAppealed) dL_isAppealed_196 rfl ?_
          refine J_callS (M := mL_isAppealed) (as := [_, _, _, _, _, _]) dL_isAppealed_198 ca_L_187 ⟨by decide, by decide⟩ rfl (Nat.le_of_ble_eq_true rfl) (k' := 1) (n' := 6) (by decide) (by decide) (rL_follow G W3 M3) (fun v_ h_ hv_ => ?_)
          obtain ⟨rfl, g', G', rfl⟩ := hv_
          refine J_aload_n (M := mL_isAppealed) dL_isAppealed_201 rfl rfl ?_
          refine J_iload (M := mL_isAppealed) dL_isAppealed_202 rfl ?_
          refine J_iload (M := mL_isAppealed) dL_isAppealed_204 rfl ?_
          refine J_callW (M := mL_isAppealed) (as := [_, _, _]) dL_isAppealed_206 ca_L_191 ⟨by decide, by decide⟩ rfl (Nat.le_of_ble_eq_true rfl) (k' := 0) (n' := 0) (by decide) (by decide) (ap_yes R (s := s) (d := d) (by omega) (by omega) hyes) (fun v_ h_ hv_ => ?_)
          obtain ⟨rfl, r2, R2, rfl⟩ := hv_
          rw [hs17, q10, ← e0, ← e1, hu, ← hif] at R2
          refine Z_eq (M := mL_isAppealed) (b := T1) (by rw [hs17, q10]; exact e1.symm) ?_
          refine J_iload (M := mL_isAppealed) dL_isAppealed_209 rfl ?_
          refine Z_ic_ne (M := mL_isAppealed) (tgt := 218) (by unfold rg; omega) (by unfold rg; omega) dL_isAppealed_211 (by decide) (fun c_211 => ?_) (fun c_211 => ?_)
          · exact absurd rfl c_211
          · refine Z_iconst (M := mL_isAppealed) dL_isAppealed_214 ?_
            refine J_goto (M := mL_isAppealed) (tgt := 219) dL_isAppealed_215 (by decide) ?_
            refine J_zret (M := mL_isAppealed) dL_isAppealed_219 rfl (by first | exact pI_zb _ | exact zb_of (Or.inl rfl) | exact zb_of (Or.inr rfl) | assumption) ?_
            have lS := LSt_fol (σ := (ts σ 33 (2 * σ 37 1 + s) (σ 33 (2 * σ 37 1 + s) + (if T1 = T0 then 1 else 0)))) (π := (upL π (3 * σ 37 1 + (σ 32 (σ 37 1) - 1) / 4) (pt (π (3 * σ 37 1 + (σ 32 (σ 37 1) - 1) / 4)) (16 * ((σ 32 (σ 37 1) - 1) % 4) + 14) 3 (d + 1))))
            have l8 := lS.2.2.2
            rw [show (ts σ 33 (2 * σ 37 1 + s) (σ 33 (2 * σ 37 1 + s) + (if T1 = T0 then 1 else 0))) 37 8 = σ 37 8 from rfl] at l8
            exact ⟨rfl, _, _, g', r2, _, rfl, LW_fol L3 WF3 m7 W3, WL_lfol W3, LM_LSt M3 lS, G', RR_mono (by omega) R2, by omega, by omega⟩
          
        · exact J_sub (hj55 (fun y => by
            obtain ⟨⟨⟨⟨y1, y2⟩, y3⟩, y4⟩, y5⟩ := y
            by_cases z1 : 0 ≤ σ 37 1
            · obtain ⟨⟨k1, k2, k3, k4⟩, -⟩ := L.2.2.2.1.2 z1
              have hsl := slo_num (b := σ 37 1) ⟨z1, m1.2⟩
              obtain ⟨q10, q11, q12⟩ := L.2.2.2.2.1 (σ 37 1) z1 m1.2
              rw [k1, hsl] at y5
              have hu : τ 11 (2 * slb (σ 37 1) + s) = σ 33 (2 * σ 37 1 + s) := by
                have : s = 0 ∨ s = 1 := by omega
                rcases this with w | w
                · rw [w, Int.add_zero, Int.add_zero]; exact q11
                · rw [w]; exact q12
              rw [hu] at y5
              omega
            · exact y1 (L.2.2.2.1.1 (by omega)))) (And.intro rfl (And.intro rfl (And.intro rfl (And.intro rfl (And.intro rfl (And.intro rfl (And.intro rfl (And.intro rfl (And.intro rfl trivial)))))))))

