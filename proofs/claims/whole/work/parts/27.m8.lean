/-! THE REFERENCE: the readers -/
set_option maxRecDepth 100000 in
set_option maxHeartbeats 4000000 in
theorem c_weaponOf {X : GX} {h : LH} {τ : TS} (W : WF τ) {s : Int} (hs : rg s) : CM X mX8_weaponOf [vI (iI s)] h τ (ans τ (gl (pI (0 ≤ s ∧ s ≤ 1)) 1 1) (if τ 17 0 = -1 then -1 else τ 18 s) (ts τ 33 0 0)) := by
  have b17 := wf17 W 0
  refine CM_of (by decide +kernel) rfl (Nat.le_of_ble_eq_true rfl) ?_
  refine J_aload_n (M := mX8_weaponOf) dX8_weaponOf_0 rfl rfl ?_
  refine J_iload_n (M := mX8_weaponOf) dX8_weaponOf_1 rfl rfl ?_
  refine M_callS (M := mX8_weaponOf) (as := [_]) dX8_weaponOf_2 ca_X8_167 ⟨by decide, by decide⟩ rfl (Nat.le_of_ble_eq_true rfl) rfl rfl (c_isSide (by first | assumption | exact pI_rg _ | (unfold rg; omega))) ?_
  refine Z_iconst (M := mX8_weaponOf) dX8_weaponOf_5 ?_
  refine Z_iconst (M := mX8_weaponOf) dX8_weaponOf_6 ?_
  refine M_call (M := mX8_weaponOf) (as := [_, _, _]) dX8_weaponOf_7 ca_X8_101 ⟨by decide, by decide⟩ rfl (Nat.le_of_ble_eq_true rfl) rfl rfl (c_goes (by first | assumption | exact pI_rg _ | (unfold rg; omega)) (by first | assumption | exact pI_rg _ | (unfold rg; omega)) (by first | assumption | exact pI_rg _ | (unfold rg; omega))) (fun v_7 t_7 hv_7 => ?_)
  obtain ⟨rfl, e_7⟩ := hv_7
  rw [e_7]
  have W1 : WF (ts τ 33 0 (gl (pI (0 ≤ s ∧ s ≤ 1)) 1 1)) := WF_ts W gl_rg
  first
    | refine Z_pf (M := mX8_weaponOf) (tgt := 34) dX8_weaponOf_10 (by decide) (fun c_10 => ?_) (fun c_10 => ?_)
    | refine Z_if_eq (M := mX8_weaponOf) (tgt := 34) (by first | assumption | exact pI_rg _ | (unfold rg; omega)) dX8_weaponOf_10 (by decide) (fun c_10 => ?_) (fun c_10 => ?_)
  · refine Z_iconst (M := mX8_weaponOf) dX8_weaponOf_34 ?_
    refine M_iret (M := mX8_weaponOf) dX8_weaponOf_35 rfl ?_
    exact Or.inl (And.intro (gl_n (by assumption)) (And.intro rfl rfl))
  · have hc := c_10
    simp only [pI_n0] at hc
    refine J_aload_n (M := mX8_weaponOf) dX8_weaponOf_13 rfl rfl ?_
    refine M_get (M := mX8_weaponOf) dX8_weaponOf_14 fi_X8_47 rfl ?_
    refine Z_eq (M := mX8_weaponOf) (b := τ 17 0) rfl ?_
    refine Z_iconst (M := mX8_weaponOf) dX8_weaponOf_17 ?_
    refine Z_ic_ne (M := mX8_weaponOf) (tgt := 25) (by first | assumption | exact pI_rg _ | (unfold rg; omega)) (by first | assumption | exact pI_rg _ | (unfold rg; omega)) dX8_weaponOf_18 (by decide) (fun c_18 => ?_) (fun c_18 => ?_)
    · refine J_aload_n (M := mX8_weaponOf) dX8_weaponOf_25 rfl rfl ?_
      refine M_get (M := mX8_weaponOf) (v := vR (some (58, 0))) dX8_weaponOf_26 fi_X8_51 rfl ?_
      refine J_iload_n (M := mX8_weaponOf) dX8_weaponOf_29 rfl rfl ?_
      refine M_iald (M := mX8_weaponOf) (kf := 18) (N := 2) dX8_weaponOf_30 rfl (by decide) (by omega) (by omega) ?_
      refine Z_eq (M := mX8_weaponOf) (b := τ 18 _) rfl ?_
      refine Z_eq (M := mX8_weaponOf) (b := (if τ 17 0 = -1 then -1 else τ 18 s)) (if_neg (by omega)).symm ?_
      refine J_goto (M := mX8_weaponOf) (tgt := 35) dX8_weaponOf_31 (by decide) ?_
      refine M_iret (M := mX8_weaponOf) dX8_weaponOf_35 rfl ?_
      exact Or.inr (And.intro (gl_0 c_10) (And.intro rfl (by rw [gl_0 c_10])))
    · refine Z_iconst (M := mX8_weaponOf) dX8_weaponOf_21 ?_
      refine Z_eq (M := mX8_weaponOf) (b := (if τ 17 0 = -1 then -1 else τ 18 s)) (if_pos (by omega)).symm ?_
      skip
      refine J_goto (M := mX8_weaponOf) (tgt := 35) dX8_weaponOf_22 (by decide) ?_
      refine M_iret (M := mX8_weaponOf) dX8_weaponOf_35 rfl ?_
      exact Or.inr (And.intro (gl_0 c_10) (And.intro rfl (by rw [gl_0 c_10])))

set_option maxRecDepth 100000 in
set_option maxHeartbeats 4000000 in
theorem c_fencerOf {X : GX} {h : LH} {τ : TS} (W : WF τ) {b s : Int} (hb : rg b) (hs : rg s) : CM X mX8_fencerOf [vI (iI b), vI (iI s)] h τ (ans τ (gl (pI (((0 ≤ b ∧ b ≤ τ 9 0 - 1) ∨ (0 < τ 21 0 ∧ 101 ≤ b ∧ b ≤ 99 + τ 21 0)) ∧ 0 ≤ s ∧ s ≤ 1)) 1 1) (if fa τ b s < 0 then -1 else fa τ b s) (ts τ 33 0 0)) := by
  have bfa := fa_rg W b s
  have hbb : ((0 ≤ b ∧ b ≤ τ 9 0 - 1) ∨ (0 < τ 21 0 ∧ 101 ≤ b ∧ b ≤ 99 + τ 21 0)) → okb b := by unfold okb; have := wf9 W 0; have := wf21 W 0; omega
  refine CM_of (by decide +kernel) rfl (Nat.le_of_ble_eq_true rfl) ?_
  
  refine J_aload_n (M := mX8_fencerOf) dX8_fencerOf_0 rfl rfl ?_
  refine Z_bj (M := mX8_fencerOf) (pcB := 21) ((((0 ≤ b ∧ b ≤ τ 9 0 - 1) ∨ (0 < τ 21 0 ∧ 101 ≤ b ∧ b ≤ 99 + τ 21 0)) ∧ 0 ≤ s ∧ s ≤ 1)) (fun hj_21 => ?_) ?_
  · refine J_aload_n (M := mX8_fencerOf) dX8_fencerOf_1 rfl rfl ?_
    refine J_iload_n (M := mX8_fencerOf) dX8_fencerOf_2 rfl rfl ?_
    refine M_call (M := mX8_fencerOf) (as := [_]) dX8_fencerOf_3 ca_X8_152 ⟨by decide, by decide⟩ rfl (Nat.le_of_ble_eq_true rfl) rfl rfl (c_isBout W (by first | assumption | exact pI_rg _ | (unfold rg; omega))) (fun v_3 t_3 hv_3 => ?_)
    obtain ⟨rfl, e_3⟩ := hv_3
    rw [e_3]
    first
      | refine Z_pf (M := mX8_fencerOf) (tgt := 20) dX8_fencerOf_6 (by decide) (fun c_6 => ?_) (fun c_6 => ?_)
      | refine Z_if_eq (M := mX8_fencerOf) (tgt := 20) (by first | assumption | exact pI_rg _ | (unfold rg; omega)) dX8_fencerOf_6 (by decide) (fun c_6 => ?_) (fun c_6 => ?_)
    · refine Z_iconst (M := mX8_fencerOf) dX8_fencerOf_20 ?_
      exact hj_21 _ (pI_f (by omega)).symm
    · refine J_iload_n (M := mX8_fencerOf) dX8_fencerOf_9 rfl rfl ?_
      refine M_callS (M := mX8_fencerOf) (as := [_]) dX8_fencerOf_10 ca_X8_167 ⟨by decide, by decide⟩ rfl (Nat.le_of_ble_eq_true rfl) rfl rfl (c_isSide (by first | assumption | exact pI_rg _ | (unfold rg; omega))) ?_
      first
        | refine Z_pf (M := mX8_fencerOf) (tgt := 20) dX8_fencerOf_13 (by decide) (fun c_13 => ?_) (fun c_13 => ?_)
        | refine Z_if_eq (M := mX8_fencerOf) (tgt := 20) (by first | assumption | exact pI_rg _ | (unfold rg; omega)) dX8_fencerOf_13 (by decide) (fun c_13 => ?_) (fun c_13 => ?_)
      · refine Z_iconst (M := mX8_fencerOf) dX8_fencerOf_20 ?_
        exact hj_21 _ (pI_f (by omega)).symm
      · refine Z_iconst (M := mX8_fencerOf) dX8_fencerOf_16 ?_
        refine J_goto (M := mX8_fencerOf) (tgt := 21) dX8_fencerOf_17 (by decide) ?_
        exact hj_21 _ (pI_t (by omega)).symm
  refine Z_iconst (M := mX8_fencerOf) dX8_fencerOf_21 ?_
  refine Z_iconst (M := mX8_fencerOf) dX8_fencerOf_22 ?_
  refine M_call (M := mX8_fencerOf) (as := [_, _, _]) dX8_fencerOf_23 ca_X8_101 ⟨by decide, by decide⟩ rfl (Nat.le_of_ble_eq_true rfl) rfl rfl (c_goes (by first | assumption | exact pI_rg _ | (unfold rg; omega)) (by first | assumption | exact pI_rg _ | (unfold rg; omega)) (by first | assumption | exact pI_rg _ | (unfold rg; omega))) (fun v_23 t_23 hv_23 => ?_)
  obtain ⟨rfl, e_23⟩ := hv_23
  rw [e_23]
  have W1 : WF (ts τ 33 0 (gl (pI (((0 ≤ b ∧ b ≤ τ 9 0 - 1) ∨ (0 < τ 21 0 ∧ 101 ≤ b ∧ b ≤ 99 + τ 21 0)) ∧ 0 ≤ s ∧ s ≤ 1)) 1 1)) := WF_ts W gl_rg
  first
    | refine Z_pt (M := mX8_fencerOf) (tgt := 31) dX8_fencerOf_26 (by decide) (fun c_26 => ?_) (fun c_26 => ?_)
    | refine Z_if_ne (M := mX8_fencerOf) (tgt := 31) (by first | assumption | exact pI_rg _ | (unfold rg; omega)) dX8_fencerOf_26 (by decide) (fun c_26 => ?_) (fun c_26 => ?_)
  · have hc := c_26
    simp only [pI_n0] at hc
    have hb1 := hbb hc.1.1
    rw [gl_0 c_26] at W1
    rw [gl_0 c_26]
    refine J_aload_n (M := mX8_fencerOf) dX8_fencerOf_31 rfl rfl ?_
    refine J_iload_n (M := mX8_fencerOf) dX8_fencerOf_32 rfl rfl ?_
    refine J_iload_n (M := mX8_fencerOf) dX8_fencerOf_33 rfl rfl ?_
    refine M_call (M := mX8_fencerOf) (as := [_, _]) dX8_fencerOf_34 ca_X8_149 ⟨by decide, by decide⟩ rfl (Nat.le_of_ble_eq_true rfl) rfl rfl (c_fencerAt W1 hb1 (by omega)) (fun v_34 t_34 hv_34 => ?_)
    obtain ⟨rfl, e_34⟩ := hv_34
    rw [e_34]
    rw [show fa (ts τ 33 0 0) b s = fa τ b s from rfl]
    refine J_istore_n (M := mX8_fencerOf) dX8_fencerOf_37 rfl (by decide) ?_
    refine J_iload_n (M := mX8_fencerOf) dX8_fencerOf_38 rfl rfl ?_
    refine Z_if_ge (M := mX8_fencerOf) (tgt := 46) (by first | assumption | exact pI_rg _ | (unfold rg; omega)) dX8_fencerOf_39 (by decide) (fun c_39 => ?_) (fun c_39 => ?_)
    · refine J_iload_n (M := mX8_fencerOf) dX8_fencerOf_46 rfl rfl ?_
      refine Z_eq (M := mX8_fencerOf) (b := (if fa τ b s < 0 then -1 else fa τ b s)) (if_neg (by omega)).symm ?_
      refine M_iret (M := mX8_fencerOf) dX8_fencerOf_47 rfl ?_
      exact Or.inr (And.intro rfl (And.intro rfl rfl))
    · refine Z_iconst (M := mX8_fencerOf) dX8_fencerOf_42 ?_
      refine Z_eq (M := mX8_fencerOf) (b := (if fa τ b s < 0 then -1 else fa τ b s)) (if_pos (by omega)).symm ?_
      refine J_goto (M := mX8_fencerOf) (tgt := 47) dX8_fencerOf_43 (by decide) ?_
      refine M_iret (M := mX8_fencerOf) dX8_fencerOf_47 rfl ?_
      exact Or.inr (And.intro rfl (And.intro rfl rfl))
  · refine Z_iconst (M := mX8_fencerOf) dX8_fencerOf_29 ?_
    refine M_iret (M := mX8_fencerOf) dX8_fencerOf_30 rfl ?_
    exact Or.inl (And.intro (gl_n (by assumption)) (And.intro rfl rfl))

theorem SQ_33 {τ : TS} {x : Int} : SQ (ts τ 33 0 x) τ := SQ_l (by decide) SQ_rfl
theorem te_33 {τ : TS} {s x : Int} : te (ts τ 33 0 x) s = te τ s := rfl
theorem wo_33 {τ : TS} {s x : Int} : wo (ts τ 33 0 x) s = wo τ s := rfl
theorem tch_33 {τ : TS} {s n x : Int} : tch (ts τ 33 0 x) s n = tch τ s n := rfl
set_option maxRecDepth 100000 in
set_option maxHeartbeats 4000000 in
theorem c_score {X : GX} {h : LH} {τ : TS} (W : WF τ) {b s : Int} (hb : rg b) (hs : rg s) : CM X mX8_score [vI (iI b), vI (iI s)] h τ (ansQ τ (gl (pI (((0 ≤ b ∧ b ≤ τ 9 0 - 1) ∨ (0 < τ 21 0 ∧ 101 ≤ b ∧ b ≤ 99 + τ 21 0)) ∧ 0 ≤ s ∧ s ≤ 1)) 1 1) (if s = 0 then (te τ (slo b)).1 else (te τ (slo b)).2.1) (ts τ 33 0 0)) := by
  have hbb : ((0 ≤ b ∧ b ≤ τ 9 0 - 1) ∨ (0 < τ 21 0 ∧ 101 ≤ b ∧ b ≤ 99 + τ 21 0)) → okb b := by unfold okb; have := wf9 W 0; have := wf21 W 0; omega
  refine CM_of (by decide +kernel) rfl (Nat.le_of_ble_eq_true rfl) ?_
  refine J_aload_n (M := mX8_score) dX8_score_0 rfl rfl ?_
  refine Z_bj (M := mX8_score) (pcB := 21) ((((0 ≤ b ∧ b ≤ τ 9 0 - 1) ∨ (0 < τ 21 0 ∧ 101 ≤ b ∧ b ≤ 99 + τ 21 0)) ∧ 0 ≤ s ∧ s ≤ 1)) (fun hj_21 => ?_) ?_
  · refine J_aload_n (M := mX8_score) dX8_score_1 rfl rfl ?_
    refine J_iload_n (M := mX8_score) dX8_score_2 rfl rfl ?_
    refine M_call (M := mX8_score) (as := [_]) dX8_score_3 ca_X8_152 ⟨by decide, by decide⟩ rfl (Nat.le_of_ble_eq_true rfl) rfl rfl (c_isBout W (by first | assumption | exact pI_rg _ | (unfold rg; omega))) (fun v_3 t_3 hv_3 => ?_)
    obtain ⟨rfl, e_3⟩ := hv_3
    rw [e_3]
    first
      | refine Z_pf (M := mX8_score) (tgt := 20) dX8_score_6 (by decide) (fun c_6 => ?_) (fun c_6 => ?_)
      | refine Z_if_eq (M := mX8_score) (tgt := 20) (by first | assumption | exact pI_rg _ | (unfold rg; omega)) dX8_score_6 (by decide) (fun c_6 => ?_) (fun c_6 => ?_)
    · refine Z_iconst (M := mX8_score) dX8_score_20 ?_
      exact hj_21 _ (pI_f (by omega)).symm
    · refine J_iload_n (M := mX8_score) dX8_score_9 rfl rfl ?_
      refine M_callS (M := mX8_score) (as := [_]) dX8_score_10 ca_X8_167 ⟨by decide, by decide⟩ rfl (Nat.le_of_ble_eq_true rfl) rfl rfl (c_isSide (by first | assumption | exact pI_rg _ | (unfold rg; omega))) ?_
      first
        | refine Z_pf (M := mX8_score) (tgt := 20) dX8_score_13 (by decide) (fun c_13 => ?_) (fun c_13 => ?_)
        | refine Z_if_eq (M := mX8_score) (tgt := 20) (by first | assumption | exact pI_rg _ | (unfold rg; omega)) dX8_score_13 (by decide) (fun c_13 => ?_) (fun c_13 => ?_)
      · refine Z_iconst (M := mX8_score) dX8_score_20 ?_
        exact hj_21 _ (pI_f (by omega)).symm
      · refine Z_iconst (M := mX8_score) dX8_score_16 ?_
        refine J_goto (M := mX8_score) (tgt := 21) dX8_score_17 (by decide) ?_
        exact hj_21 _ (pI_t (by omega)).symm
  refine Z_iconst (M := mX8_score) dX8_score_21 ?_
  refine Z_iconst (M := mX8_score) dX8_score_22 ?_
  refine M_call (M := mX8_score) (as := [_, _, _]) dX8_score_23 ca_X8_101 ⟨by decide, by decide⟩ rfl (Nat.le_of_ble_eq_true rfl) rfl rfl (c_goes (by first | assumption | exact pI_rg _ | (unfold rg; omega)) (by first | assumption | exact pI_rg _ | (unfold rg; omega)) (by first | assumption | exact pI_rg _ | (unfold rg; omega))) (fun v_23 t_23 hv_23 => ?_)
  obtain ⟨rfl, e_23⟩ := hv_23
  rw [e_23]
  have W1 : WF (ts τ 33 0 (gl (pI (((0 ≤ b ∧ b ≤ τ 9 0 - 1) ∨ (0 < τ 21 0 ∧ 101 ≤ b ∧ b ≤ 99 + τ 21 0)) ∧ 0 ≤ s ∧ s ≤ 1)) 1 1)) := WF_ts W gl_rg
  first
    | refine Z_pt (M := mX8_score) (tgt := 31) dX8_score_26 (by decide) (fun c_26 => ?_) (fun c_26 => ?_)
    | refine Z_if_ne (M := mX8_score) (tgt := 31) (by first | assumption | exact pI_rg _ | (unfold rg; omega)) dX8_score_26 (by decide) (fun c_26 => ?_) (fun c_26 => ?_)
  · have hc := c_26
    simp only [pI_n0] at hc
    have hb1 := hbb hc.1.1
    have hsl := slo_rg hb1
    rw [gl_0 c_26] at W1
    rw [gl_0 c_26]
    refine J_aload_n (M := mX8_score) dX8_score_31 rfl rfl ?_
    refine J_iload_n (M := mX8_score) dX8_score_32 rfl rfl ?_
    refine M_callS (M := mX8_score) (as := [_]) dX8_score_33 ca_X8_164 ⟨by decide, by decide⟩ rfl (Nat.le_of_ble_eq_true rfl) rfl rfl (c_slotOf (by first | assumption | exact pI_rg _ | (unfold rg; omega))) ?_
    refine M_call (M := mX8_score) (as := [_]) dX8_score_36 ca_X8_145 ⟨by decide, by decide⟩ rfl (Nat.le_of_ble_eq_true rfl) rfl rfl (c_tells W1 (by omega) (by omega)) (fun v_36 t_36 hv_36 => ?_)
    obtain ⟨rfl, e_36⟩ := hv_36
    rw [e_36]
    rw [te_33]
    refine J_iload_n (M := mX8_score) dX8_score_39 rfl rfl ?_
    first
      | refine Z_pt (M := mX8_score) (tgt := 50) dX8_score_40 (by decide) (fun c_40 => ?_) (fun c_40 => ?_)
      | refine Z_if_ne (M := mX8_score) (tgt := 50) (by first | assumption | exact pI_rg _ | (unfold rg; omega)) dX8_score_40 (by decide) (fun c_40 => ?_) (fun c_40 => ?_)
    · refine J_aload_n (M := mX8_score) dX8_score_50 rfl rfl ?_
      refine M_get (M := mX8_score) dX8_score_51 fi_X8_132 rfl ?_
      refine Z_eq (M := mX8_score) (b := (if s = 0 then (te τ (slo b)).1 else (te τ (slo b)).2.1)) (if_neg (by omega)).symm ?_
      refine M_iret (M := mX8_score) dX8_score_54 rfl ?_
      exact ansQ_y (WF_t3 W1 (te_rg W _)) rfl rfl rfl (by repeat (first | exact SQ_rfl | exact SQ_wt | refine SQ_c ?_ | refine SQ_l (by decide) ?_ | refine SQ_r (by decide) ?_ | refine SQ_t3 ?_))
    · refine J_aload_n (M := mX8_score) dX8_score_43 rfl rfl ?_
      refine M_get (M := mX8_score) dX8_score_44 fi_X8_129 rfl ?_
      refine Z_eq (M := mX8_score) (b := (if s = 0 then (te τ (slo b)).1 else (te τ (slo b)).2.1)) (if_pos (by omega)).symm ?_
      refine J_goto (M := mX8_score) (tgt := 54) dX8_score_47 (by decide) ?_
      refine M_iret (M := mX8_score) dX8_score_54 rfl ?_
      exact ansQ_y (WF_t3 W1 (te_rg W _)) rfl rfl rfl (by repeat (first | exact SQ_rfl | exact SQ_wt | refine SQ_c ?_ | refine SQ_l (by decide) ?_ | refine SQ_r (by decide) ?_ | refine SQ_t3 ?_))
  · refine Z_iconst (M := mX8_score) dX8_score_29 ?_
    refine M_iret (M := mX8_score) dX8_score_30 rfl ?_
    exact ansQ_n (by assumption) (gl_n (by assumption)) rfl ts0 (by repeat (first | exact SQ_rfl | exact SQ_wt | refine SQ_c ?_ | refine SQ_l (by decide) ?_ | refine SQ_r (by decide) ?_ | refine SQ_t3 ?_))

set_option maxRecDepth 100000 in
set_option maxHeartbeats 4000000 in
theorem c_scoreAnew {X : GX} {h : LH} {τ : TS} (W : WF τ) {b s : Int} (hb : rg b) (hs : rg s) : CM X mX8_scoreAnew [vI (iI b), vI (iI s)] h τ (ansQ τ (gl (pI (((0 ≤ b ∧ b ≤ τ 9 0 - 1) ∨ (0 < τ 21 0 ∧ 101 ≤ b ∧ b ≤ 99 + τ 21 0)) ∧ 0 ≤ s ∧ s ≤ 1)) 1 1) (if s = 0 then (te τ (slo b)).1 else (te τ (slo b)).2.1) (ts τ 33 0 0)) := by
  refine CM_of (by decide +kernel) rfl (Nat.le_of_ble_eq_true rfl) ?_
  refine J_aload_n (M := mX8_scoreAnew) dX8_scoreAnew_0 rfl rfl ?_
  refine J_iload_n (M := mX8_scoreAnew) dX8_scoreAnew_1 rfl rfl ?_
  refine J_iload_n (M := mX8_scoreAnew) dX8_scoreAnew_2 rfl rfl ?_
  refine M_call (M := mX8_scoreAnew) (as := [_, _]) dX8_scoreAnew_3 ca_X8_184 ⟨by decide, by decide⟩ rfl (Nat.le_of_ble_eq_true rfl) rfl rfl (c_score W (by assumption) (by assumption)) (fun v_3 t_3 hv_3 => ?_)
  obtain ⟨w_3, ⟨hg_3, rfl, hu_3, hs_3⟩ | ⟨hg_3, rfl, hu_3, hs_3⟩⟩ := hv_3
  · refine M_iret (M := mX8_scoreAnew) dX8_scoreAnew_6 rfl ?_
    exact ansQ_n w_3 hg_3 rfl hu_3 hs_3
  refine M_iret (M := mX8_scoreAnew) dX8_scoreAnew_6 rfl ?_
  exact ansQ_y w_3 hg_3 rfl hu_3 hs_3

set_option maxRecDepth 100000 in
set_option maxHeartbeats 4000000 in
theorem c_winner {X : GX} {h : LH} {τ : TS} (W : WF τ) {b : Int} (hb : rg b) : CM X mX8_winner [vI (iI b)] h τ (ansQ τ (gl (pI ((0 ≤ b ∧ b ≤ τ 9 0 - 1) ∨ (0 < τ 21 0 ∧ 101 ≤ b ∧ b ≤ 99 + τ 21 0))) 1 1) (wo τ b) (ts τ 33 0 0)) := by
  have hbb : ((0 ≤ b ∧ b ≤ τ 9 0 - 1) ∨ (0 < τ 21 0 ∧ 101 ≤ b ∧ b ≤ 99 + τ 21 0)) → okb b := by unfold okb; have := wf9 W 0; have := wf21 W 0; omega
  refine CM_of (by decide +kernel) rfl (Nat.le_of_ble_eq_true rfl) ?_
  refine J_aload_n (M := mX8_winner) dX8_winner_0 rfl rfl ?_
  refine J_aload_n (M := mX8_winner) dX8_winner_1 rfl rfl ?_
  refine J_iload_n (M := mX8_winner) dX8_winner_2 rfl rfl ?_
  refine M_call (M := mX8_winner) (as := [_]) dX8_winner_3 ca_X8_152 ⟨by decide, by decide⟩ rfl (Nat.le_of_ble_eq_true rfl) rfl rfl (c_isBout W (by first | assumption | exact pI_rg _ | (unfold rg; omega))) (fun v_3 t_3 hv_3 => ?_)
  obtain ⟨rfl, e_3⟩ := hv_3
  rw [e_3]
  refine Z_iconst (M := mX8_winner) dX8_winner_6 ?_
  refine Z_iconst (M := mX8_winner) dX8_winner_7 ?_
  refine M_call (M := mX8_winner) (as := [_, _, _]) dX8_winner_8 ca_X8_101 ⟨by decide, by decide⟩ rfl (Nat.le_of_ble_eq_true rfl) rfl rfl (c_goes (by first | assumption | exact pI_rg _ | (unfold rg; omega)) (by first | assumption | exact pI_rg _ | (unfold rg; omega)) (by first | assumption | exact pI_rg _ | (unfold rg; omega))) (fun v_8 t_8 hv_8 => ?_)
  obtain ⟨rfl, e_8⟩ := hv_8
  rw [e_8]
  have W1 : WF (ts τ 33 0 (gl (pI ((0 ≤ b ∧ b ≤ τ 9 0 - 1) ∨ (0 < τ 21 0 ∧ 101 ≤ b ∧ b ≤ 99 + τ 21 0))) 1 1)) := WF_ts W gl_rg
  first
    | refine Z_pf (M := mX8_winner) (tgt := 22) dX8_winner_11 (by decide) (fun c_11 => ?_) (fun c_11 => ?_)
    | refine Z_if_eq (M := mX8_winner) (tgt := 22) (by first | assumption | exact pI_rg _ | (unfold rg; omega)) dX8_winner_11 (by decide) (fun c_11 => ?_) (fun c_11 => ?_)
  · refine Z_iconst (M := mX8_winner) dX8_winner_22 ?_
    refine M_iret (M := mX8_winner) dX8_winner_23 rfl ?_
    exact ansQ_n (by assumption) (gl_n (by assumption)) rfl ts0 (by repeat (first | exact SQ_rfl | exact SQ_wt | refine SQ_c ?_ | refine SQ_l (by decide) ?_ | refine SQ_r (by decide) ?_ | refine SQ_t3 ?_))
  · have hc := c_11
    simp only [pI_n0] at hc
    have hb1 := hbb hc.1
    rw [gl_0 c_11] at W1
    rw [gl_0 c_11]
    refine J_aload_n (M := mX8_winner) dX8_winner_14 rfl rfl ?_
    refine J_iload_n (M := mX8_winner) dX8_winner_15 rfl rfl ?_
    refine M_call (M := mX8_winner) (as := [_]) dX8_winner_16 ca_X8_155 ⟨by decide, by decide⟩ rfl (Nat.le_of_ble_eq_true rfl) rfl rfl (c_winnerOf W1 hb1) (fun v_16 t_16 hv_16 => ?_)
    obtain ⟨rfl, e_16⟩ := hv_16
    rw [e_16]
    rw [wo_33]
    refine J_goto (M := mX8_winner) (tgt := 23) dX8_winner_19 (by decide) ?_
    refine M_iret (M := mX8_winner) dX8_winner_23 rfl ?_
    exact ansQ_y (WF_wt W1 b) rfl rfl (by rw [wt_ns 33 (Or.inr (by decide))]; rfl) SQ_wt

set_option maxRecDepth 100000 in
set_option maxHeartbeats 4000000 in
theorem c_phrases {X : GX} {h : LH} {τ : TS} (W : WF τ) {b : Int} (hb : rg b) : CM X mX8_phrases [vI (iI b)] h τ (ans τ (gl (pI ((0 ≤ b ∧ b ≤ τ 9 0 - 1) ∨ (0 < τ 21 0 ∧ 101 ≤ b ∧ b ≤ 99 + τ 21 0))) 1 1) (τ 10 (slo b)) (ts τ 33 0 0)) := by
  have hbb : ((0 ≤ b ∧ b ≤ τ 9 0 - 1) ∨ (0 < τ 21 0 ∧ 101 ≤ b ∧ b ≤ 99 + τ 21 0)) → okb b := by unfold okb; have := wf9 W 0; have := wf21 W 0; omega
  refine CM_of (by decide +kernel) rfl (Nat.le_of_ble_eq_true rfl) ?_
  refine J_aload_n (M := mX8_phrases) dX8_phrases_0 rfl rfl ?_
  refine J_aload_n (M := mX8_phrases) dX8_phrases_1 rfl rfl ?_
  refine J_iload_n (M := mX8_phrases) dX8_phrases_2 rfl rfl ?_
  refine M_call (M := mX8_phrases) (as := [_]) dX8_phrases_3 ca_X8_152 ⟨by decide, by decide⟩ rfl (Nat.le_of_ble_eq_true rfl) rfl rfl (c_isBout W (by first | assumption | exact pI_rg _ | (unfold rg; omega))) (fun v_3 t_3 hv_3 => ?_)
  obtain ⟨rfl, e_3⟩ := hv_3
  rw [e_3]
  refine Z_iconst (M := mX8_phrases) dX8_phrases_6 ?_
  refine Z_iconst (M := mX8_phrases) dX8_phrases_7 ?_
  refine M_call (M := mX8_phrases) (as := [_, _, _]) dX8_phrases_8 ca_X8_101 ⟨by decide, by decide⟩ rfl (Nat.le_of_ble_eq_true rfl) rfl rfl (c_goes (by first | assumption | exact pI_rg _ | (unfold rg; omega)) (by first | assumption | exact pI_rg _ | (unfold rg; omega)) (by first | assumption | exact pI_rg _ | (unfold rg; omega))) (fun v_8 t_8 hv_8 => ?_)
  obtain ⟨rfl, e_8⟩ := hv_8
  rw [e_8]
  have W1 : WF (ts τ 33 0 (gl (pI ((0 ≤ b ∧ b ≤ τ 9 0 - 1) ∨ (0 < τ 21 0 ∧ 101 ≤ b ∧ b ≤ 99 + τ 21 0))) 1 1)) := WF_ts W gl_rg
  first
    | refine Z_pf (M := mX8_phrases) (tgt := 26) dX8_phrases_11 (by decide) (fun c_11 => ?_) (fun c_11 => ?_)
    | refine Z_if_eq (M := mX8_phrases) (tgt := 26) (by first | assumption | exact pI_rg _ | (unfold rg; omega)) dX8_phrases_11 (by decide) (fun c_11 => ?_) (fun c_11 => ?_)
  · refine Z_iconst (M := mX8_phrases) dX8_phrases_26 ?_
    refine M_iret (M := mX8_phrases) dX8_phrases_27 rfl ?_
    exact Or.inl (And.intro (gl_n (by assumption)) (And.intro rfl rfl))
  · have hc := c_11
    simp only [pI_n0] at hc
    have hb1 := hbb hc.1
    have hsl := slo_rg hb1
    refine J_aload_n (M := mX8_phrases) dX8_phrases_14 rfl rfl ?_
    refine M_get (M := mX8_phrases) (v := vR (some (50, 0))) dX8_phrases_15 fi_X8_26 rfl ?_
    refine J_iload_n (M := mX8_phrases) dX8_phrases_18 rfl rfl ?_
    refine M_callS (M := mX8_phrases) (as := [_]) dX8_phrases_19 ca_X8_164 ⟨by decide, by decide⟩ rfl (Nat.le_of_ble_eq_true rfl) rfl rfl (c_slotOf (by first | assumption | exact pI_rg _ | (unfold rg; omega))) ?_
    refine M_iald (M := mX8_phrases) (kf := 10) (N := 82) dX8_phrases_22 rfl (by decide) (by omega) (by omega) ?_
    refine Z_eq (M := mX8_phrases) (b := τ 10 _) rfl ?_
    refine J_goto (M := mX8_phrases) (tgt := 27) dX8_phrases_23 (by decide) ?_
    refine M_iret (M := mX8_phrases) dX8_phrases_27 rfl ?_
    exact Or.inr (And.intro (gl_0 c_11) (And.intro rfl (by rw [gl_0 c_11])))

set_option maxRecDepth 100000 in
set_option maxHeartbeats 4000000 in
theorem c_touches {X : GX} {h : LH} {τ : TS} (W : WF τ) {b n : Int} (hb : rg b) (hn : rg n) : CM X mX8_touches [vI (iI b), vI (iI n)] h τ (ans τ (gl (pI (((0 ≤ b ∧ b ≤ τ 9 0 - 1) ∨ (0 < τ 21 0 ∧ 101 ≤ b ∧ b ≤ 99 + τ 21 0)) ∧ 0 ≤ n ∧ n ≤ τ 10 (slo b) - 1)) 1 1) (tch τ (slo b) n) (ts τ 33 0 0)) := by
  have hbb : ((0 ≤ b ∧ b ≤ τ 9 0 - 1) ∨ (0 < τ 21 0 ∧ 101 ≤ b ∧ b ≤ 99 + τ 21 0)) → okb b := by unfold okb; have := wf9 W 0; have := wf21 W 0; omega
  refine CM_of (by decide +kernel) rfl (Nat.le_of_ble_eq_true rfl) ?_
  refine J_aload_n (M := mX8_touches) dX8_touches_0 rfl rfl ?_
  refine J_iload_n (M := mX8_touches) dX8_touches_1 rfl rfl ?_
  refine M_call (M := mX8_touches) (as := [_]) dX8_touches_2 ca_X8_152 ⟨by decide, by decide⟩ rfl (Nat.le_of_ble_eq_true rfl) rfl rfl (c_isBout W (by first | assumption | exact pI_rg _ | (unfold rg; omega))) (fun v_2 t_2 hv_2 => ?_)
  obtain ⟨rfl, e_2⟩ := hv_2
  rw [e_2]
  refine J_istore_n (M := mX8_touches) dX8_touches_5 rfl (by decide) ?_
  refine J_aload_n (M := mX8_touches) dX8_touches_6 rfl rfl ?_
  refine Z_bj (M := mX8_touches) (pcB := 43) ((((0 ≤ b ∧ b ≤ τ 9 0 - 1) ∨ (0 < τ 21 0 ∧ 101 ≤ b ∧ b ≤ 99 + τ 21 0)) ∧ 0 ≤ n ∧ n ≤ τ 10 (slo b) - 1)) (fun hj_43 => ?_) ?_
  · refine J_iload_n (M := mX8_touches) dX8_touches_7 rfl rfl ?_
    first
      | refine Z_pf (M := mX8_touches) (tgt := 42) dX8_touches_8 (by decide) (fun c_8 => ?_) (fun c_8 => ?_)
      | refine Z_if_eq (M := mX8_touches) (tgt := 42) (by first | assumption | exact pI_rg _ | (unfold rg; omega)) dX8_touches_8 (by decide) (fun c_8 => ?_) (fun c_8 => ?_)
    · refine Z_iconst (M := mX8_touches) dX8_touches_42 ?_
      exact hj_43 _ (pI_f (by omega)).symm
    · refine J_iload_n (M := mX8_touches) dX8_touches_11 rfl rfl ?_
      refine Z_iconst (M := mX8_touches) dX8_touches_12 ?_
      refine J_aload_n (M := mX8_touches) dX8_touches_13 rfl rfl ?_
      refine M_get (M := mX8_touches) (v := vR (some (50, 0))) dX8_touches_14 fi_X8_26 rfl ?_
      refine J_iload_n (M := mX8_touches) dX8_touches_17 rfl rfl ?_
      first
        | refine Z_pf (M := mX8_touches) (tgt := 28) dX8_touches_18 (by decide) (fun c_18 => ?_) (fun c_18 => ?_)
        | refine Z_if_eq (M := mX8_touches) (tgt := 28) (by first | assumption | exact pI_rg _ | (unfold rg; omega)) dX8_touches_18 (by decide) (fun c_18 => ?_) (fun c_18 => ?_)
      · have b10 := wf10 W 0
        refine Z_iconst (M := mX8_touches) dX8_touches_28 ?_
        refine M_iald (M := mX8_touches) (kf := 10) (N := 82) dX8_touches_29 rfl (by decide) (by omega) (by omega) ?_
        refine Z_eq (M := mX8_touches) (b := τ 10 _) rfl ?_
        refine Z_iconst (M := mX8_touches) dX8_touches_30 ?_
        refine Z_isub (M := mX8_touches) dX8_touches_31 ?_
        refine M_callS (M := mX8_touches) (as := [_, _, _]) dX8_touches_32 ca_X8_85 ⟨by decide, by decide⟩ rfl (Nat.le_of_ble_eq_true rfl) rfl rfl (c_in (by first | assumption | exact pI_rg _ | (unfold rg; omega)) (by first | assumption | exact pI_rg _ | (unfold rg; omega)) (by first | assumption | exact pI_rg _ | (unfold rg; omega))) ?_
        first
          | refine Z_pf (M := mX8_touches) (tgt := 42) dX8_touches_35 (by decide) (fun c_35 => ?_) (fun c_35 => ?_)
          | refine Z_if_eq (M := mX8_touches) (tgt := 42) (by first | assumption | exact pI_rg _ | (unfold rg; omega)) dX8_touches_35 (by decide) (fun c_35 => ?_) (fun c_35 => ?_)
        · refine Z_iconst (M := mX8_touches) dX8_touches_42 ?_
          exact hj_43 _ (pI_f (by omega)).symm
        · refine Z_iconst (M := mX8_touches) dX8_touches_38 ?_
          refine J_goto (M := mX8_touches) (tgt := 43) dX8_touches_39 (by decide) ?_
          exact hj_43 _ (pI_t (by omega)).symm
      · have hb1 := hbb (by omega)
        have hsl := slo_rg hb1
        have b10 := wf10 W (slo b)
        refine J_iload_n (M := mX8_touches) dX8_touches_21 rfl rfl ?_
        refine M_callS (M := mX8_touches) (as := [_]) dX8_touches_22 ca_X8_164 ⟨by decide, by decide⟩ rfl (Nat.le_of_ble_eq_true rfl) rfl rfl (c_slotOf (by first | assumption | exact pI_rg _ | (unfold rg; omega))) ?_
        refine J_goto (M := mX8_touches) (tgt := 29) dX8_touches_25 (by decide) ?_
        refine M_iald (M := mX8_touches) (kf := 10) (N := 82) dX8_touches_29 rfl (by decide) (by omega) (by omega) ?_
        refine Z_eq (M := mX8_touches) (b := τ 10 _) rfl ?_
        refine Z_iconst (M := mX8_touches) dX8_touches_30 ?_
        refine Z_isub (M := mX8_touches) dX8_touches_31 ?_
        refine M_callS (M := mX8_touches) (as := [_, _, _]) dX8_touches_32 ca_X8_85 ⟨by decide, by decide⟩ rfl (Nat.le_of_ble_eq_true rfl) rfl rfl (c_in (by first | assumption | exact pI_rg _ | (unfold rg; omega)) (by first | assumption | exact pI_rg _ | (unfold rg; omega)) (by first | assumption | exact pI_rg _ | (unfold rg; omega))) ?_
        first
          | refine Z_pf (M := mX8_touches) (tgt := 42) dX8_touches_35 (by decide) (fun c_35 => ?_) (fun c_35 => ?_)
          | refine Z_if_eq (M := mX8_touches) (tgt := 42) (by first | assumption | exact pI_rg _ | (unfold rg; omega)) dX8_touches_35 (by decide) (fun c_35 => ?_) (fun c_35 => ?_)
        · refine Z_iconst (M := mX8_touches) dX8_touches_42 ?_
          exact hj_43 _ (pI_f (by omega)).symm
        · refine Z_iconst (M := mX8_touches) dX8_touches_38 ?_
          refine J_goto (M := mX8_touches) (tgt := 43) dX8_touches_39 (by decide) ?_
          exact hj_43 _ (pI_t (by omega)).symm
  refine Z_iconst (M := mX8_touches) dX8_touches_43 ?_
  refine Z_iconst (M := mX8_touches) dX8_touches_44 ?_
  refine M_call (M := mX8_touches) (as := [_, _, _]) dX8_touches_45 ca_X8_101 ⟨by decide, by decide⟩ rfl (Nat.le_of_ble_eq_true rfl) rfl rfl (c_goes (by first | assumption | exact pI_rg _ | (unfold rg; omega)) (by first | assumption | exact pI_rg _ | (unfold rg; omega)) (by first | assumption | exact pI_rg _ | (unfold rg; omega))) (fun v_45 t_45 hv_45 => ?_)
  obtain ⟨rfl, e_45⟩ := hv_45
  rw [e_45]
  have W1 : WF (ts τ 33 0 (gl (pI (((0 ≤ b ∧ b ≤ τ 9 0 - 1) ∨ (0 < τ 21 0 ∧ 101 ≤ b ∧ b ≤ 99 + τ 21 0)) ∧ 0 ≤ n ∧ n ≤ τ 10 (slo b) - 1)) 1 1)) := WF_ts W gl_rg
  first
    | refine Z_pf (M := mX8_touches) (tgt := 63) dX8_touches_48 (by decide) (fun c_48 => ?_) (fun c_48 => ?_)
    | refine Z_if_eq (M := mX8_touches) (tgt := 63) (by first | assumption | exact pI_rg _ | (unfold rg; omega)) dX8_touches_48 (by decide) (fun c_48 => ?_) (fun c_48 => ?_)
  · refine Z_iconst (M := mX8_touches) dX8_touches_63 ?_
    refine M_iret (M := mX8_touches) dX8_touches_64 rfl ?_
    exact Or.inl (And.intro (gl_n (by assumption)) (And.intro rfl rfl))
  · have hc := c_48
    simp only [pI_n0] at hc
    have hb1 := hbb hc.1.1
    have hsl := slo_rg hb1
    have b10 := wf10 W (slo b)
    rw [gl_0 c_48] at W1
    rw [gl_0 c_48]
    refine J_aload_n (M := mX8_touches) dX8_touches_51 rfl rfl ?_
    refine J_iload_n (M := mX8_touches) dX8_touches_52 rfl rfl ?_
    refine M_callS (M := mX8_touches) (as := [_]) dX8_touches_53 ca_X8_164 ⟨by decide, by decide⟩ rfl (Nat.le_of_ble_eq_true rfl) rfl rfl (c_slotOf (by first | assumption | exact pI_rg _ | (unfold rg; omega))) ?_
    refine J_iload_n (M := mX8_touches) dX8_touches_56 rfl rfl ?_
    refine M_call (M := mX8_touches) (as := [_, _]) dX8_touches_57 ca_X8_138 ⟨by decide, by decide⟩ rfl (Nat.le_of_ble_eq_true rfl) rfl rfl (c_touched W1 (by omega) (by omega) (by omega) (by omega)) (fun v_57 t_57 hv_57 => ?_)
    obtain ⟨rfl, e_57⟩ := hv_57
    rw [e_57]
    rw [tch_33]
    refine J_goto (M := mX8_touches) (tgt := 64) dX8_touches_60 (by decide) ?_
    refine M_iret (M := mX8_touches) dX8_touches_64 rfl ?_
    exact Or.inr (And.intro rfl (And.intro rfl rfl))

set_option maxRecDepth 100000 in
set_option maxHeartbeats 4000000 in
theorem c_appeals {X : GX} {h : LH} {τ : TS} (W : WF τ) {b s : Int} (hb : rg b) (hs : rg s) : CM X mX8_appeals [vI (iI b), vI (iI s)] h τ (ans τ (gl (pI (((0 ≤ b ∧ b ≤ τ 9 0 - 1) ∨ (0 < τ 21 0 ∧ 101 ≤ b ∧ b ≤ 99 + τ 21 0)) ∧ 0 ≤ s ∧ s ≤ 1)) 1 1) (2 - τ 11 (2 * slo b + s)) (ts τ 33 0 0)) := by
  have hbb : ((0 ≤ b ∧ b ≤ τ 9 0 - 1) ∨ (0 < τ 21 0 ∧ 101 ≤ b ∧ b ≤ 99 + τ 21 0)) → okb b := by unfold okb; have := wf9 W 0; have := wf21 W 0; omega
  refine CM_of (by decide +kernel) rfl (Nat.le_of_ble_eq_true rfl) ?_
  refine J_aload_n (M := mX8_appeals) dX8_appeals_0 rfl rfl ?_
  refine Z_bj (M := mX8_appeals) (pcB := 21) ((((0 ≤ b ∧ b ≤ τ 9 0 - 1) ∨ (0 < τ 21 0 ∧ 101 ≤ b ∧ b ≤ 99 + τ 21 0)) ∧ 0 ≤ s ∧ s ≤ 1)) (fun hj_21 => ?_) ?_
  · refine J_aload_n (M := mX8_appeals) dX8_appeals_1 rfl rfl ?_
    refine J_iload_n (M := mX8_appeals) dX8_appeals_2 rfl rfl ?_
    refine M_call (M := mX8_appeals) (as := [_]) dX8_appeals_3 ca_X8_152 ⟨by decide, by decide⟩ rfl (Nat.le_of_ble_eq_true rfl) rfl rfl (c_isBout W (by first | assumption | exact pI_rg _ | (unfold rg; omega))) (fun v_3 t_3 hv_3 => ?_)
    obtain ⟨rfl, e_3⟩ := hv_3
    rw [e_3]
    first
      | refine Z_pf (M := mX8_appeals) (tgt := 20) dX8_appeals_6 (by decide) (fun c_6 => ?_) (fun c_6 => ?_)
      | refine Z_if_eq (M := mX8_appeals) (tgt := 20) (by first | assumption | exact pI_rg _ | (unfold rg; omega)) dX8_appeals_6 (by decide) (fun c_6 => ?_) (fun c_6 => ?_)
    · refine Z_iconst (M := mX8_appeals) dX8_appeals_20 ?_
      exact hj_21 _ (pI_f (by omega)).symm
    · refine J_iload_n (M := mX8_appeals) dX8_appeals_9 rfl rfl ?_
      refine M_callS (M := mX8_appeals) (as := [_]) dX8_appeals_10 ca_X8_167 ⟨by decide, by decide⟩ rfl (Nat.le_of_ble_eq_true rfl) rfl rfl (c_isSide (by first | assumption | exact pI_rg _ | (unfold rg; omega))) ?_
      first
        | refine Z_pf (M := mX8_appeals) (tgt := 20) dX8_appeals_13 (by decide) (fun c_13 => ?_) (fun c_13 => ?_)
        | refine Z_if_eq (M := mX8_appeals) (tgt := 20) (by first | assumption | exact pI_rg _ | (unfold rg; omega)) dX8_appeals_13 (by decide) (fun c_13 => ?_) (fun c_13 => ?_)
      · refine Z_iconst (M := mX8_appeals) dX8_appeals_20 ?_
        exact hj_21 _ (pI_f (by omega)).symm
      · refine Z_iconst (M := mX8_appeals) dX8_appeals_16 ?_
        refine J_goto (M := mX8_appeals) (tgt := 21) dX8_appeals_17 (by decide) ?_
        exact hj_21 _ (pI_t (by omega)).symm
  refine Z_iconst (M := mX8_appeals) dX8_appeals_21 ?_
  refine Z_iconst (M := mX8_appeals) dX8_appeals_22 ?_
  refine M_call (M := mX8_appeals) (as := [_, _, _]) dX8_appeals_23 ca_X8_101 ⟨by decide, by decide⟩ rfl (Nat.le_of_ble_eq_true rfl) rfl rfl (c_goes (by first | assumption | exact pI_rg _ | (unfold rg; omega)) (by first | assumption | exact pI_rg _ | (unfold rg; omega)) (by first | assumption | exact pI_rg _ | (unfold rg; omega))) (fun v_23 t_23 hv_23 => ?_)
  obtain ⟨rfl, e_23⟩ := hv_23
  rw [e_23]
  have W1 : WF (ts τ 33 0 (gl (pI (((0 ≤ b ∧ b ≤ τ 9 0 - 1) ∨ (0 < τ 21 0 ∧ 101 ≤ b ∧ b ≤ 99 + τ 21 0)) ∧ 0 ≤ s ∧ s ≤ 1)) 1 1)) := WF_ts W gl_rg
  first
    | refine Z_pf (M := mX8_appeals) (tgt := 47) dX8_appeals_26 (by decide) (fun c_26 => ?_) (fun c_26 => ?_)
    | refine Z_if_eq (M := mX8_appeals) (tgt := 47) (by first | assumption | exact pI_rg _ | (unfold rg; omega)) dX8_appeals_26 (by decide) (fun c_26 => ?_) (fun c_26 => ?_)
  · refine Z_iconst (M := mX8_appeals) dX8_appeals_47 ?_
    refine M_iret (M := mX8_appeals) dX8_appeals_48 rfl ?_
    exact Or.inl (And.intro (gl_n (by assumption)) (And.intro rfl rfl))
  · have hc := c_26
    simp only [pI_n0] at hc
    have hb1 := hbb hc.1.1
    have hsl := slo_rg hb1
    refine Z_iconst (M := mX8_appeals) dX8_appeals_29 ?_
    refine J_aload_n (M := mX8_appeals) dX8_appeals_30 rfl rfl ?_
    refine M_get (M := mX8_appeals) (v := vR (some (51, 0))) dX8_appeals_31 fi_X8_29 rfl ?_
    refine Z_iconst (M := mX8_appeals) dX8_appeals_34 ?_
    refine J_iload_n (M := mX8_appeals) dX8_appeals_35 rfl rfl ?_
    refine M_callS (M := mX8_appeals) (as := [_]) dX8_appeals_36 ca_X8_164 ⟨by decide, by decide⟩ rfl (Nat.le_of_ble_eq_true rfl) rfl rfl (c_slotOf (by first | assumption | exact pI_rg _ | (unfold rg; omega))) ?_
    refine Z_imul (M := mX8_appeals) dX8_appeals_39 ?_
    refine J_iload_n (M := mX8_appeals) dX8_appeals_40 rfl rfl ?_
    refine Z_iadd (M := mX8_appeals) dX8_appeals_41 ?_
    refine M_iald (M := mX8_appeals) (kf := 11) (N := 164) dX8_appeals_42 rfl (by decide) (by omega) (by omega) ?_
    refine Z_eq (M := mX8_appeals) (b := τ 11 _) rfl ?_
    refine Z_isub (M := mX8_appeals) dX8_appeals_43 ?_
    refine J_goto (M := mX8_appeals) (tgt := 48) dX8_appeals_44 (by decide) ?_
    refine M_iret (M := mX8_appeals) dX8_appeals_48 rfl ?_
    exact Or.inr (And.intro (gl_0 c_26) (And.intro rfl (by rw [gl_0 c_26])))

set_option maxRecDepth 100000 in
set_option maxHeartbeats 4000000 in
theorem c_nodeWinner {X : GX} {h : LH} {τ : TS} (W : WF τ) {b : Int} (hb : rg b) : CM X mX8_nodeWinner [vI (iI b)] h τ (ans τ (gl (pI (0 < τ 21 0 ∧ 1 ≤ b ∧ b ≤ 2 * τ 21 0 - 1)) 1 1) (if τ 22 b < 0 then -1 else τ 22 b) (ts τ 33 0 0)) := by
  have b21 := wf21 W 0
  have b22 := wf22 W b
  refine CM_of (by decide +kernel) rfl (Nat.le_of_ble_eq_true rfl) ?_
  refine J_aload_n (M := mX8_nodeWinner) dX8_nodeWinner_0 rfl rfl ?_
  refine Z_bj (M := mX8_nodeWinner) (pcB := 29) ((0 < τ 21 0 ∧ 1 ≤ b ∧ b ≤ 2 * τ 21 0 - 1)) (fun hj_29 => ?_) ?_
  · refine J_aload_n (M := mX8_nodeWinner) dX8_nodeWinner_1 rfl rfl ?_
    refine M_get (M := mX8_nodeWinner) dX8_nodeWinner_2 fi_X8_95 rfl ?_
    refine Z_eq (M := mX8_nodeWinner) (b := τ 21 0) rfl ?_
    refine Z_if_le (M := mX8_nodeWinner) (tgt := 28) (by first | assumption | exact pI_rg _ | (unfold rg; omega)) dX8_nodeWinner_5 (by decide) (fun c_5 => ?_) (fun c_5 => ?_)
    · refine Z_iconst (M := mX8_nodeWinner) dX8_nodeWinner_28 ?_
      exact hj_29 _ (pI_f (by omega)).symm
    · refine J_iload_n (M := mX8_nodeWinner) dX8_nodeWinner_8 rfl rfl ?_
      refine Z_iconst (M := mX8_nodeWinner) dX8_nodeWinner_9 ?_
      refine Z_iconst (M := mX8_nodeWinner) dX8_nodeWinner_10 ?_
      refine J_aload_n (M := mX8_nodeWinner) dX8_nodeWinner_11 rfl rfl ?_
      refine M_get (M := mX8_nodeWinner) dX8_nodeWinner_12 fi_X8_95 rfl ?_
      refine Z_eq (M := mX8_nodeWinner) (b := τ 21 0) rfl ?_
      refine Z_imul (M := mX8_nodeWinner) dX8_nodeWinner_15 ?_
      refine Z_iconst (M := mX8_nodeWinner) dX8_nodeWinner_16 ?_
      refine Z_isub (M := mX8_nodeWinner) dX8_nodeWinner_17 ?_
      refine M_callS (M := mX8_nodeWinner) (as := [_, _, _]) dX8_nodeWinner_18 ca_X8_85 ⟨by decide, by decide⟩ rfl (Nat.le_of_ble_eq_true rfl) rfl rfl (c_in (by first | assumption | exact pI_rg _ | (unfold rg; omega)) (by first | assumption | exact pI_rg _ | (unfold rg; omega)) (by first | assumption | exact pI_rg _ | (unfold rg; omega))) ?_
      first
        | refine Z_pf (M := mX8_nodeWinner) (tgt := 28) dX8_nodeWinner_21 (by decide) (fun c_21 => ?_) (fun c_21 => ?_)
        | refine Z_if_eq (M := mX8_nodeWinner) (tgt := 28) (by first | assumption | exact pI_rg _ | (unfold rg; omega)) dX8_nodeWinner_21 (by decide) (fun c_21 => ?_) (fun c_21 => ?_)
      · refine Z_iconst (M := mX8_nodeWinner) dX8_nodeWinner_28 ?_
        exact hj_29 _ (pI_f (by omega)).symm
      · refine Z_iconst (M := mX8_nodeWinner) dX8_nodeWinner_24 ?_
        refine J_goto (M := mX8_nodeWinner) (tgt := 29) dX8_nodeWinner_25 (by decide) ?_
        exact hj_29 _ (pI_t (by omega)).symm
  refine Z_iconst (M := mX8_nodeWinner) dX8_nodeWinner_29 ?_
  refine Z_iconst (M := mX8_nodeWinner) dX8_nodeWinner_30 ?_
  refine M_call (M := mX8_nodeWinner) (as := [_, _, _]) dX8_nodeWinner_31 ca_X8_101 ⟨by decide, by decide⟩ rfl (Nat.le_of_ble_eq_true rfl) rfl rfl (c_goes (by first | assumption | exact pI_rg _ | (unfold rg; omega)) (by first | assumption | exact pI_rg _ | (unfold rg; omega)) (by first | assumption | exact pI_rg _ | (unfold rg; omega))) (fun v_31 t_31 hv_31 => ?_)
  obtain ⟨rfl, e_31⟩ := hv_31
  rw [e_31]
  have W1 : WF (ts τ 33 0 (gl (pI (0 < τ 21 0 ∧ 1 ≤ b ∧ b ≤ 2 * τ 21 0 - 1)) 1 1)) := WF_ts W gl_rg
  first
    | refine Z_pt (M := mX8_nodeWinner) (tgt := 39) dX8_nodeWinner_34 (by decide) (fun c_34 => ?_) (fun c_34 => ?_)
    | refine Z_if_ne (M := mX8_nodeWinner) (tgt := 39) (by first | assumption | exact pI_rg _ | (unfold rg; omega)) dX8_nodeWinner_34 (by decide) (fun c_34 => ?_) (fun c_34 => ?_)
  · have hc := c_34
    simp only [pI_n0] at hc
    refine J_aload_n (M := mX8_nodeWinner) dX8_nodeWinner_39 rfl rfl ?_
    refine M_get (M := mX8_nodeWinner) (v := vR (some (62, 0))) dX8_nodeWinner_40 fi_X8_54 rfl ?_
    refine J_iload_n (M := mX8_nodeWinner) dX8_nodeWinner_43 rfl rfl ?_
    refine M_iald (M := mX8_nodeWinner) (kf := 22) (N := 32) dX8_nodeWinner_44 rfl (by decide) (by omega) (by omega) ?_
    refine Z_eq (M := mX8_nodeWinner) (b := τ 22 _) rfl ?_
    refine Z_if_ge (M := mX8_nodeWinner) (tgt := 52) (by first | assumption | exact pI_rg _ | (unfold rg; omega)) dX8_nodeWinner_45 (by decide) (fun c_45 => ?_) (fun c_45 => ?_)
    · refine J_aload_n (M := mX8_nodeWinner) dX8_nodeWinner_52 rfl rfl ?_
      refine M_get (M := mX8_nodeWinner) (v := vR (some (62, 0))) dX8_nodeWinner_53 fi_X8_54 rfl ?_
      refine J_iload_n (M := mX8_nodeWinner) dX8_nodeWinner_56 rfl rfl ?_
      refine M_iald (M := mX8_nodeWinner) (kf := 22) (N := 32) dX8_nodeWinner_57 rfl (by decide) (by omega) (by omega) ?_
      refine Z_eq (M := mX8_nodeWinner) (b := τ 22 _) rfl ?_
      refine Z_eq (M := mX8_nodeWinner) (b := τ 22 b) rfl ?_
      refine Z_eq (M := mX8_nodeWinner) (b := (if τ 22 b < 0 then -1 else τ 22 b)) (if_neg (by omega)).symm ?_
      refine M_iret (M := mX8_nodeWinner) dX8_nodeWinner_58 rfl ?_
      exact Or.inr (And.intro (gl_0 c_34) (And.intro rfl (by rw [gl_0 c_34])))
    · refine Z_iconst (M := mX8_nodeWinner) dX8_nodeWinner_48 ?_
      refine Z_eq (M := mX8_nodeWinner) (b := (if τ 22 b < 0 then -1 else τ 22 b)) (if_pos (by omega)).symm ?_
      refine J_goto (M := mX8_nodeWinner) (tgt := 58) dX8_nodeWinner_49 (by decide) ?_
      refine M_iret (M := mX8_nodeWinner) dX8_nodeWinner_58 rfl ?_
      exact Or.inr (And.intro (gl_0 c_34) (And.intro rfl (by rw [gl_0 c_34])))
  · refine Z_iconst (M := mX8_nodeWinner) dX8_nodeWinner_37 ?_
    refine M_iret (M := mX8_nodeWinner) dX8_nodeWinner_38 rfl ?_
    exact Or.inl (And.intro (gl_n (by assumption)) (And.intro rfl rfl))

