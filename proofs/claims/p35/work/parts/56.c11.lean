/-! THE CLASS: contact and right -/
theorem sd_r {c : Int} (h : 0 ≤ c ∧ c ≤ 6) : (0 ≤ kd c ∧ kd c ≤ 2) ∧ -1 ≤ sd c ∧ sd c ≤ 1 := by
  unfold kd sd
  split <;> omega
def hrd (ρ : TS) (p x y z : Int) : TS := ts (ts (ts (ts ρ 30 (8 * p + ρ 33 p) x) 31 (8 * p + ρ 33 p) y) 32 (8 * p + ρ 33 p) z) 33 p (ρ 33 p + 1)
/-- the phrase that is on is no kept one -/
theorem run_no {ρ τ : TS} {c : Int} (R : RR ρ τ c) (hon : ¬ τ 19 0 = 0) : ∀ b, LVb τ b → ∀ j, 0 ≤ j → j < τ 10 b → ¬ 12 * b + j = la τ ∧ ¬ ρ 23 (12 * b + j) = ρ 41 0 := by
  obtain ⟨W, V, B, S, ⟨p1, p2⟩, f⟩ := R
  obtain ⟨q1, q2, q3, q4, q5, q6, q7⟩ := p2 hon
  intro b hb j j0 j1
  have w10 := wf10 W b
  have w10s := wf10 W (slo (τ 17 0))
  have h1 : ¬ 12 * b + j = la τ := by
    intro e
    unfold la at e
    have : b = slo (τ 17 0) := by omega
    subst this
    omega
  refine ⟨h1, fun e => h1 ?_⟩
  have a1 := ((S.2.2.1 b hb).1.2.2.2.2.2 j j0 j1).1.2.1.2
  rw [e] at a1
  rw [← a1]
  exact q6.2.1.2
theorem RR_hear {ρ τ : TS} {c cde t : Int} (R : RR ρ τ c) (hon : ¬ τ 19 0 = 0) (hc : 0 ≤ cde ∧ cde ≤ 6) (ht : 0 ≤ t ∧ t ≤ 2147483647) (hn : τ 12 (la τ) < 8) (hl : τ 12 (la τ) = 0 ∨ τ 16 (8 * la τ + τ 12 (la τ) - 1) ≤ t) : RR (hrd ρ (ρ 41 0) (kd cde) (sd cde) t) (evt τ cde t) c := by
  have hd := run_no R hon
  obtain ⟨W, V, B, S, ⟨p1, p2⟩, f⟩ := R
  obtain ⟨q1, q2, q3, q4, q5, q6, q7⟩ := p2 hon
  have hsd := sd_r hc
  have w12 := wf12 W (la τ)
  obtain ⟨h1, h2, h3, h4, h5, h6, h7, h8, h9⟩ := id q6
  have E : EQP (evt τ cde t) τ (la τ) := by
    refine ⟨rfl, rfl, rfl, fun f hf => ⟨?_, rfl⟩, fun z hz => rfl, fun z hz => ⟨?_, ?_⟩⟩
    · unfold evt; rw [ts_else hf, tsN (by decide), tsN (by decide)]
    · unfold evt; rw [tsN (by decide), tsN (by decide), ts_else (by omega)]
    · unfold evt; rw [tsN (by decide), ts_else (by omega), tsN (by decide)]
  have D : EQR (hrd ρ (ρ 41 0) (kd cde) (sd cde) t) ρ (ρ 41 0) := by
    refine ⟨Int.le_refl _, Int.le_refl _, fun q hq => ⟨rfl, rfl, rfl, ts_else hq, rfl, rfl, rfl, rfl⟩, fun z hz => ⟨?_, ?_, ?_⟩⟩
    · unfold hrd; rw [tsN (by decide), tsN (by decide), tsN (by decide), ts_else (by omega)]
    · unfold hrd; rw [tsN (by decide), tsN (by decide), ts_else (by omega), tsN (by decide)]
    · unfold hrd; rw [tsN (by decide), ts_else (by omega), tsN (by decide), tsN (by decide)]
  have SN' := SN_E S E D W (fun k hk => by unfold hrd; rw [ts_n (by omega), ts_n (by omega), ts_n (by omega), ts_n (by omega)]) (fun k hk => by unfold evt; rw [ts_n (by omega), ts_n (by omega), ts_n (by omega)]) hd S.2.2.2.2.2.2.2.2.2
  have W' : WF (evt τ cde t) := WF_ts (WF_ts (WF_ts W hc) ht) (show (0 : Int) ≤ _ ∧ _ ≤ (8 : Int) by omega)
  have V' : WK (hrd ρ (ρ 41 0) (kd cde) (sd cde) t) := WK_ts (WK_ts (WK_ts (WK_ts V hsd.1) hsd.2) ht) (show (0 : Int) ≤ _ ∧ _ ≤ (8 : Int) by omega)
  have P' : PH (hrd ρ (ρ 41 0) (kd cde) (sd cde) t) (evt τ cde t) (ρ 41 0) (la τ) := by
    have x33 : hrd ρ (ρ 41 0) (kd cde) (sd cde) t 33 (ρ 41 0) = ρ 33 (ρ 41 0) + 1 := ts_self
    have x12 : evt τ cde t 12 (la τ) = τ 12 (la τ) + 1 := ts_self
    have x16 : ∀ e, evt τ cde t 16 (8 * la τ + e) = if e = τ 12 (la τ) then t else τ 16 (8 * la τ + e) := fun e => by
      unfold evt
      rw [tsN (by decide), ts_s]
      unfold upZ
      by_cases z : e = τ 12 (la τ)
      · rw [if_pos (by omega), if_pos z]
      · rw [if_neg (by omega), if_neg z]; rfl
    have x15 : ∀ e, evt τ cde t 15 (8 * la τ + e) = if e = τ 12 (la τ) then cde else τ 15 (8 * la τ + e) := fun e => by
      unfold evt
      rw [tsN (by decide), tsN (by decide), ts_s]
      unfold upZ
      by_cases z : e = τ 12 (la τ)
      · rw [if_pos (by omega), if_pos z]
      · rw [if_neg (by omega), if_neg z]
    have y30 : ∀ e, hrd ρ (ρ 41 0) (kd cde) (sd cde) t 30 (8 * ρ 41 0 + e) = if e = τ 12 (la τ) then kd cde else ρ 30 (8 * ρ 41 0 + e) := fun e => by
      unfold hrd
      rw [tsN (by decide), tsN (by decide), tsN (by decide), ts_s]
      unfold upZ
      by_cases z : e = τ 12 (la τ)
      · rw [if_pos (by omega), if_pos z]
      · rw [if_neg (by omega), if_neg z]
    have y31 : ∀ e, hrd ρ (ρ 41 0) (kd cde) (sd cde) t 31 (8 * ρ 41 0 + e) = if e = τ 12 (la τ) then sd cde else ρ 31 (8 * ρ 41 0 + e) := fun e => by
      unfold hrd
      rw [tsN (by decide), tsN (by decide), ts_s]
      unfold upZ
      by_cases z : e = τ 12 (la τ)
      · rw [if_pos (by omega), if_pos z]
      · rw [if_neg (by omega), if_neg z]; rfl
    have y32 : ∀ e, hrd ρ (ρ 41 0) (kd cde) (sd cde) t 32 (8 * ρ 41 0 + e) = if e = τ 12 (la τ) then t else ρ 32 (8 * ρ 41 0 + e) := fun e => by
      unfold hrd
      rw [tsN (by decide), ts_s]
      unfold upZ
      by_cases z : e = τ 12 (la τ)
      · rw [if_pos (by omega), if_pos z]
      · rw [if_neg (by omega), if_neg z]; rfl
    refine ⟨h1, h2, h3, h4, by rw [x33, x12, h5], h6, h7, fun e a b => ?_, fun e e' a b d => ?_⟩
    · rw [x12] at b
      rw [y30, y31, y32, x15, x16]
      by_cases z : e = τ 12 (la τ)
      · rw [if_pos z, if_pos z, if_pos z, if_pos z, if_pos z]
        exact ⟨rfl, rfl, rfl⟩
      · rw [if_neg z, if_neg z, if_neg z, if_neg z, if_neg z]
        exact h8 e a (by omega)
    · rw [x12] at d
      rw [x16, x16]
      by_cases z' : e' = τ 12 (la τ)
      · rw [if_pos z']
        by_cases z : e = τ 12 (la τ)
        · rw [if_pos z]; exact Int.le_refl _
        · rw [if_neg z]
          have m := h9 e (τ 12 (la τ) - 1) a (by omega) (by omega)
          rw [show 8 * la τ + (τ 12 (la τ) - 1) = 8 * la τ + τ 12 (la τ) - 1 by omega] at m
          omega
      · rw [if_neg z', if_neg (by omega)]
        exact h9 e e' a b (by omega)
  exact ⟨W', V', B, SN', ⟨fun q => absurd q hon, fun _ => ⟨q1, q2, q3, q4, q5, P', q7⟩⟩, f⟩
theorem ltv_e {ρ τ : TS} {p f : Int} (P : PH ρ τ p f) (W : WF τ) : (0 < τ 12 f → ltv ρ p = τ 16 (8 * f + τ 12 f - 1)) ∧ (τ 12 f = 0 → ltv ρ p = 0) := by
  obtain ⟨h1, h2, h3, h4, h5, h6, h7, h8, h9⟩ := P
  unfold ltv
  rw [h5]
  refine ⟨fun q => ?_, fun q => ?_⟩
  · rw [if_pos q, (h8 (τ 12 f - 1) (by omega) (by omega)).2.2]
    congr 1
    omega
  · rw [if_neg (by omega)]
theorem idl_c {ρ τ : TS} {c : Int} (R : RR ρ τ c) : (τ 19 0 = 0 ∧ ρ 41 0 = -1) ∨ (¬ τ 19 0 = 0 ∧ PH ρ τ (ρ 41 0) (la τ)) := by
  by_cases q : τ 19 0 = 0
  · exact Or.inl ⟨q, (R.2.2.2.2.1.1 q).1⟩
  · exact Or.inr ⟨q, (R.2.2.2.2.1.2 q).2.2.2.2.2.1⟩
set_option maxRecDepth 100000 in
set_option maxHeartbeats 4000000 in
theorem p_contact {X : GX} {h : LH} {ρ τ : TS} {c : Int} (R : RR ρ τ c) {s t : Int} {p : Prop} (hs : rg s) (ht : rg t) : CX X mX7_contact [vR (some (1, 0)), vI (iI s), vI (iI (pI p)), vI (iI t)] h ρ (PX (gl (pI (0 ≤ s ∧ s ≤ 1)) (pI (0 ≤ t ∧ (τ 19 0 = 0 ∨ τ 12 (la τ) = 0 ∨ τ 16 (8 * la τ + τ 12 (la τ) - 1) ≤ t))) (pI (¬ τ 19 0 = 0 ∧ τ 12 (la τ) < 8))) (τ 12 (la τ) + 1) (fun r => RR r (evt τ (2 * s + pI p) t) c)) (EM [2, 1, 0] (gl (pI (0 ≤ s ∧ s ≤ 1)) (pI (0 ≤ t ∧ (τ 19 0 = 0 ∨ τ 12 (la τ) = 0 ∨ τ 16 (8 * la τ + τ 12 (la τ) - 1) ≤ t))) (pI (¬ τ 19 0 = 0 ∧ τ 12 (la τ) < 8)))) := by
  have W := R.1
  have V := R.2.1
  have w12 := wf12 W (la τ)
  have w19 := wf19 W 0
  have w16 := wf16 W (8 * la τ + τ 12 (la τ) - 1)
  have w41 := wk41 V 0
  refine CT_of (by decide +kernel) rfl (Nat.le_of_ble_eq_true rfl) ?_
  rcases idl_c R with ⟨h2, h7⟩ | ⟨h2, h8⟩
  · refine J_iload_n (M := mX7_contact) dX7_contact_0 rfl rfl ?_
    refine M_callS (M := mX7_contact) (as := [_]) dX7_contact_1 ca_X7_144 ⟨by decide, by decide⟩ rfl (Nat.le_of_ble_eq_true rfl) rfl rfl (kX7_isSide (by first | assumption | exact pI_rg _ | (unfold rg; omega))) ?_
    first
      | refine Z_pt (M := mX7_contact) (tgt := 17) dX7_contact_4 (by decide) (fun c_4 => ?_) (fun c_4 => ?_)
      | refine Z_if_ne (M := mX7_contact) (tgt := 17) (by first | assumption | exact pI_rg _ | (unfold rg; omega)) dX7_contact_4 (by decide) (fun c_4 => ?_) (fun c_4 => ?_)
    · refine J_aload_n (M := mX7_contact) dX7_contact_17 rfl rfl ?_
      refine J_iload_n (M := mX7_contact) dX7_contact_18 rfl rfl ?_
      refine J_callV (M := mX7_contact) (as := [_]) dX7_contact_19 ca_X7_181 ⟨by decide, by decide⟩ (hk_1 (by first | exact rfl | assumption | exact Or.inl (by assumption) | exact Or.inr rfl | (show 0 ≤ _ ∧ _ < _; omega))) rfl (Nat.le_of_ble_eq_true rfl) (k' := 1) (n' := 6) (by decide) (by decide) (kX7_isTooEarly V ht (by omega)) (fun v_19 h_19 hv_19 => ?_)
      obtain ⟨r_19, rfl, hv_19⟩ := hv_19
      obtain ⟨rfl, e_19⟩ := hv_19
      rw [e_19]
      first
        | refine Z_pf (M := mX7_contact) (tgt := 35) dX7_contact_22 (by decide) (fun c_22 => ?_) (fun c_22 => ?_)
        | refine Z_if_eq (M := mX7_contact) (tgt := 35) (by first | assumption | exact pI_rg _ | (unfold rg; omega)) dX7_contact_22 (by decide) (fun c_22 => ?_) (fun c_22 => ?_)
      · refine J_aload_n (M := mX7_contact) dX7_contact_35 rfl rfl ?_
        refine J_getf (M := mX7_contact) dX7_contact_36 fi_X7_30 (hk_1 (by first | exact rfl | assumption | exact Or.inl (by assumption) | exact Or.inr rfl | (show 0 ≤ _ ∧ _ < _; omega))) rfl ?_
        refine J_getf (M := mX7_contact) dX7_contact_39 fi_X7_101 (hk_5 (by first | exact rfl | assumption | exact Or.inl (by assumption) | exact Or.inr rfl | (show 0 ≤ _ ∧ _ < _; omega))) rfl ?_
        refine Z_rwb (M := mX7_contact) (g := ρ 41) (wk41 V) rfl (fun wb_41_12 => ?_)
        first | refine Z_some (M := mX7_contact) (by omega) ?_ | skip
        refine J_astore (M := mX7_contact) dX7_contact_42 (by decide) ?_
        refine J_aload (M := mX7_contact) dX7_contact_44 rfl ?_
        first | refine Z_some (M := mX7_contact) (by omega) ?_ | skip
        first | refine Z_uns (M := mX7_contact) (by omega) ?_ | skip
        refine K_ifnull (tgt := 57) dX7_contact_46 (by decide) (fun c_46 => ?_) (fun c_46 => ?_)
        · refine K_thr (M := mX7_contact) rfl rfl ti_60_189_64 (by decide) (by decide) (by decide) (by decide) (Or.inl ⟨dX7_contact_57, dX7_contact_60, dX7_contact_61, dX7_contact_63, dX7_contact_66⟩) ?_
          first
            | exact EM_1 (pI_f (by omega)) rfl
            | exact EM_2 (pI_n0.mpr (by omega)) (pI_f (by omega)) rfl
            | exact EM_3 (pI_n0.mpr (by omega)) (pI_n0.mpr (by omega)) (pI_f (by omega)) rfl
        · omega
      · refine K_thr (M := mX7_contact) rfl rfl ti_93_184_97 (by decide) (by decide) (by decide) (by decide) (Or.inl ⟨dX7_contact_25, dX7_contact_28, dX7_contact_29, dX7_contact_31, dX7_contact_34⟩) ?_
        first
          | exact EM_1 (pI_f (by omega)) rfl
          | exact EM_2 (pI_n0.mpr (by omega)) (pI_f (by omega)) rfl
          | exact EM_3 (pI_n0.mpr (by omega)) (pI_n0.mpr (by omega)) (pI_f (by omega)) rfl
    · refine K_thr (M := mX7_contact) rfl rfl ti_74_179_78 (by decide) (by decide) (by decide) (by decide) (Or.inl ⟨dX7_contact_7, dX7_contact_10, dX7_contact_11, dX7_contact_13, dX7_contact_16⟩) ?_
      first
        | exact EM_1 (pI_f (by omega)) rfl
        | exact EM_2 (pI_n0.mpr (by omega)) (pI_f (by omega)) rfl
        | exact EM_3 (pI_n0.mpr (by omega)) (pI_n0.mpr (by omega)) (pI_f (by omega)) rfl
  · have p0 := h8.1
    have h33 := h8.2.2.2.2.1
    obtain ⟨l1, l2⟩ := ltv_e h8 W
    refine J_iload_n (M := mX7_contact) dX7_contact_0 rfl rfl ?_
    refine M_callS (M := mX7_contact) (as := [_]) dX7_contact_1 ca_X7_144 ⟨by decide, by decide⟩ rfl (Nat.le_of_ble_eq_true rfl) rfl rfl (kX7_isSide (by first | assumption | exact pI_rg _ | (unfold rg; omega))) ?_
    first
      | refine Z_pt (M := mX7_contact) (tgt := 17) dX7_contact_4 (by decide) (fun c_4 => ?_) (fun c_4 => ?_)
      | refine Z_if_ne (M := mX7_contact) (tgt := 17) (by first | assumption | exact pI_rg _ | (unfold rg; omega)) dX7_contact_4 (by decide) (fun c_4 => ?_) (fun c_4 => ?_)
    · refine J_aload_n (M := mX7_contact) dX7_contact_17 rfl rfl ?_
      refine J_iload_n (M := mX7_contact) dX7_contact_18 rfl rfl ?_
      refine J_callV (M := mX7_contact) (as := [_]) dX7_contact_19 ca_X7_181 ⟨by decide, by decide⟩ (hk_1 (by first | exact rfl | assumption | exact Or.inl (by assumption) | exact Or.inr rfl | (show 0 ≤ _ ∧ _ < _; omega))) rfl (Nat.le_of_ble_eq_true rfl) (k' := 1) (n' := 6) (by decide) (by decide) (kX7_isTooEarly V ht (by omega)) (fun v_19 h_19 hv_19 => ?_)
      obtain ⟨r_19, rfl, hv_19⟩ := hv_19
      obtain ⟨rfl, e_19⟩ := hv_19
      rw [e_19]
      first
        | refine Z_pf (M := mX7_contact) (tgt := 35) dX7_contact_22 (by decide) (fun c_22 => ?_) (fun c_22 => ?_)
        | refine Z_if_eq (M := mX7_contact) (tgt := 35) (by first | assumption | exact pI_rg _ | (unfold rg; omega)) dX7_contact_22 (by decide) (fun c_22 => ?_) (fun c_22 => ?_)
      · refine J_aload_n (M := mX7_contact) dX7_contact_35 rfl rfl ?_
        refine J_getf (M := mX7_contact) dX7_contact_36 fi_X7_30 (hk_1 (by first | exact rfl | assumption | exact Or.inl (by assumption) | exact Or.inr rfl | (show 0 ≤ _ ∧ _ < _; omega))) rfl ?_
        refine J_getf (M := mX7_contact) dX7_contact_39 fi_X7_101 (hk_5 (by first | exact rfl | assumption | exact Or.inl (by assumption) | exact Or.inr rfl | (show 0 ≤ _ ∧ _ < _; omega))) rfl ?_
        refine Z_rwb (M := mX7_contact) (g := ρ 41) (wk41 V) rfl (fun wb_41_12 => ?_)
        first | refine Z_some (M := mX7_contact) (by omega) ?_ | skip
        refine J_astore (M := mX7_contact) dX7_contact_42 (by decide) ?_
        refine J_aload (M := mX7_contact) dX7_contact_44 rfl ?_
        first | refine Z_some (M := mX7_contact) (by omega) ?_ | skip
        first | refine Z_uns (M := mX7_contact) (by omega) ?_ | skip
        refine K_ifnull (tgt := 57) dX7_contact_46 (by decide) (fun c_46 => ?_) (fun c_46 => ?_)
        · omega
        · refine J_aload (M := mX7_contact) dX7_contact_49 rfl ?_
          first | refine Z_some (M := mX7_contact) (by omega) ?_ | skip
          refine J_callV (M := mX7_contact) (as := []) dX7_contact_51 ca_X7_186 ⟨by decide, by decide⟩ (hk_16 (by first | exact rfl | assumption | exact Or.inl (by assumption) | exact Or.inr rfl | (show 0 ≤ _ ∧ _ < _; omega))) rfl (Nat.le_of_ble_eq_true rfl) (k' := 1) (n' := 6) (by decide) (by decide) (kX2_isFull V p0) (fun v_51 h_51 hv_51 => ?_)
          obtain ⟨r_51, rfl, hv_51⟩ := hv_51
          obtain ⟨rfl, e_51⟩ := hv_51
          rw [e_51]
          first
            | refine Z_pf (M := mX7_contact) (tgt := 67) dX7_contact_54 (by decide) (fun c_54 => ?_) (fun c_54 => ?_)
            | refine Z_if_eq (M := mX7_contact) (tgt := 67) (by first | assumption | exact pI_rg _ | (unfold rg; omega)) dX7_contact_54 (by decide) (fun c_54 => ?_) (fun c_54 => ?_)
          · refine J_aload (M := mX7_contact) dX7_contact_67 rfl ?_
            first | refine Z_some (M := mX7_contact) (by omega) ?_ | skip
            refine J_iload_n (M := mX7_contact) dX7_contact_69 rfl rfl ?_
            first
              | refine Z_pf (M := mX7_contact) (tgt := 77) dX7_contact_70 (by decide) (fun c_70 => ?_) (fun c_70 => ?_)
              | refine Z_if_eq (M := mX7_contact) (tgt := 77) (by first | assumption | exact pI_rg _ | (unfold rg; omega)) dX7_contact_70 (by decide) (fun c_70 => ?_) (fun c_70 => ?_)
            · refine Z_iconst (M := mX7_contact) dX7_contact_77 ?_
              refine J_iload_n (M := mX7_contact) dX7_contact_78 rfl rfl ?_
              refine J_iload_n (M := mX7_contact) dX7_contact_79 rfl rfl ?_
              refine J_callV (M := mX7_contact) (as := [_, _, _]) dX7_contact_80 ca_X7_191 ⟨by decide, by decide⟩ (hk_16 (by first | exact rfl | assumption | exact Or.inl (by assumption) | exact Or.inr rfl | (show 0 ≤ _ ∧ _ < _; omega))) rfl (Nat.le_of_ble_eq_true rfl) (k' := 1) (n' := 6) (by decide) (by decide) (kX2_hear V p0 (by omega)) (fun v_80 h_80 hv_80 => ?_)
              obtain ⟨r_80, rfl, hv_80⟩ := hv_80
              obtain ⟨rfl, e_80⟩ := hv_80
              rw [e_80]
              refine J_aload (M := mX7_contact) dX7_contact_83 rfl ?_
              first | refine Z_some (M := mX7_contact) (by omega) ?_ | skip
              refine J_getf (M := mX7_contact) dX7_contact_85 fi_X7_195 (hk_16 (by first | exact rfl | assumption | exact Or.inl (by assumption) | exact Or.inr rfl | (show 0 ≤ _ ∧ _ < _; omega))) rfl ?_
              refine K_iretE dX7_contact_88 rfl ?_
              have hs2 : 0 ≤ s ∧ s ≤ 1 := by assumption
              have q01 := pI_01 p
              have hk : kd (2 * s + pI p) = 1 - pI p := by unfold kd; rw [if_pos (by omega)]; omega
              have hs3 : sd (2 * s + pI p) = s := by unfold sd; rw [if_pos (by omega)]; omega
              have hR := RR_hear (cde := 2 * s + pI p) (t := t) R h2 (by omega) (by unfold rg at ht; omega) (by omega) (by omega)
              rw [hk, hs3] at hR
              first
                | (have z := pI_t c_70; rw [z] at hR ⊢)
                | (have z := pI_f c_70; rw [z] at hR ⊢)
              exact ⟨(gl_0 ⟨(by first | exact n10 | exact pI_n0.mpr (by omega)), (by first | exact n10 | exact pI_n0.mpr (by omega)), (by first | exact n10 | exact pI_n0.mpr (by omega))⟩), (by rw [ts_self, h33]), hR⟩
            · refine Z_iconst (M := mX7_contact) dX7_contact_73 ?_
              refine J_goto (M := mX7_contact) (tgt := 78) dX7_contact_74 (by decide) ?_
              refine J_iload_n (M := mX7_contact) dX7_contact_78 rfl rfl ?_
              refine J_iload_n (M := mX7_contact) dX7_contact_79 rfl rfl ?_
              refine J_callV (M := mX7_contact) (as := [_, _, _]) dX7_contact_80 ca_X7_191 ⟨by decide, by decide⟩ (hk_16 (by first | exact rfl | assumption | exact Or.inl (by assumption) | exact Or.inr rfl | (show 0 ≤ _ ∧ _ < _; omega))) rfl (Nat.le_of_ble_eq_true rfl) (k' := 1) (n' := 6) (by decide) (by decide) (kX2_hear V p0 (by omega)) (fun v_80 h_80 hv_80 => ?_)
              obtain ⟨r_80, rfl, hv_80⟩ := hv_80
              obtain ⟨rfl, e_80⟩ := hv_80
              rw [e_80]
              refine J_aload (M := mX7_contact) dX7_contact_83 rfl ?_
              first | refine Z_some (M := mX7_contact) (by omega) ?_ | skip
              refine J_getf (M := mX7_contact) dX7_contact_85 fi_X7_195 (hk_16 (by first | exact rfl | assumption | exact Or.inl (by assumption) | exact Or.inr rfl | (show 0 ≤ _ ∧ _ < _; omega))) rfl ?_
              refine K_iretE dX7_contact_88 rfl ?_
              have hs2 : 0 ≤ s ∧ s ≤ 1 := by assumption
              have q01 := pI_01 p
              have hk : kd (2 * s + pI p) = 1 - pI p := by unfold kd; rw [if_pos (by omega)]; omega
              have hs3 : sd (2 * s + pI p) = s := by unfold sd; rw [if_pos (by omega)]; omega
              have hR := RR_hear (cde := 2 * s + pI p) (t := t) R h2 (by omega) (by unfold rg at ht; omega) (by omega) (by omega)
              rw [hk, hs3] at hR
              first
                | (have z := pI_t c_70; rw [z] at hR ⊢)
                | (have z := pI_f c_70; rw [z] at hR ⊢)
              exact ⟨(gl_0 ⟨(by first | exact n10 | exact pI_n0.mpr (by omega)), (by first | exact n10 | exact pI_n0.mpr (by omega)), (by first | exact n10 | exact pI_n0.mpr (by omega))⟩), (by rw [ts_self, h33]), hR⟩
          · refine K_thr (M := mX7_contact) rfl rfl ti_60_189_64 (by decide) (by decide) (by decide) (by decide) (Or.inl ⟨dX7_contact_57, dX7_contact_60, dX7_contact_61, dX7_contact_63, dX7_contact_66⟩) ?_
            first
              | exact EM_1 (pI_f (by omega)) rfl
              | exact EM_2 (pI_n0.mpr (by omega)) (pI_f (by omega)) rfl
              | exact EM_3 (pI_n0.mpr (by omega)) (pI_n0.mpr (by omega)) (pI_f (by omega)) rfl
      · refine K_thr (M := mX7_contact) rfl rfl ti_93_184_97 (by decide) (by decide) (by decide) (by decide) (Or.inl ⟨dX7_contact_25, dX7_contact_28, dX7_contact_29, dX7_contact_31, dX7_contact_34⟩) ?_
        first
          | exact EM_1 (pI_f (by omega)) rfl
          | exact EM_2 (pI_n0.mpr (by omega)) (pI_f (by omega)) rfl
          | exact EM_3 (pI_n0.mpr (by omega)) (pI_n0.mpr (by omega)) (pI_f (by omega)) rfl
    · refine K_thr (M := mX7_contact) rfl rfl ti_74_179_78 (by decide) (by decide) (by decide) (by decide) (Or.inl ⟨dX7_contact_7, dX7_contact_10, dX7_contact_11, dX7_contact_13, dX7_contact_16⟩) ?_
      first
        | exact EM_1 (pI_f (by omega)) rfl
        | exact EM_2 (pI_n0.mpr (by omega)) (pI_f (by omega)) rfl
        | exact EM_3 (pI_n0.mpr (by omega)) (pI_n0.mpr (by omega)) (pI_f (by omega)) rfl

set_option maxRecDepth 100000 in
set_option maxHeartbeats 4000000 in
theorem p_right {X : GX} {h : LH} {ρ τ : TS} {c : Int} (R : RR ρ τ c) {s t : Int} (hs : rg s) (ht : rg t) : CX X mX7_right [vR (some (1, 0)), vI (iI s), vI (iI t)] h ρ (PX (gl (pI ((-1 ≤ s ∧ s ≤ 1) ∧ 0 ≤ t ∧ (τ 19 0 = 0 ∨ τ 12 (la τ) = 0 ∨ τ 16 (8 * la τ + τ 12 (la τ) - 1) ≤ t))) (pI (¬ τ 19 0 = 0 ∧ τ 12 (la τ) < 8)) 1) (τ 12 (la τ) + 1) (fun r => RR r (evt τ (5 + s) t) c)) (EM [1, 0] (gl (pI ((-1 ≤ s ∧ s ≤ 1) ∧ 0 ≤ t ∧ (τ 19 0 = 0 ∨ τ 12 (la τ) = 0 ∨ τ 16 (8 * la τ + τ 12 (la τ) - 1) ≤ t))) (pI (¬ τ 19 0 = 0 ∧ τ 12 (la τ) < 8)) 1)) := by
  have W := R.1
  have V := R.2.1
  have w12 := wf12 W (la τ)
  have w19 := wf19 W 0
  have w16 := wf16 W (8 * la τ + τ 12 (la τ) - 1)
  have w41 := wk41 V 0
  refine CT_of (by decide +kernel) rfl (Nat.le_of_ble_eq_true rfl) ?_
  rcases idl_c R with ⟨h2, h7⟩ | ⟨h2, h8⟩
  · refine J_iload_n (M := mX7_right) dX7_right_0 rfl rfl ?_
    refine M_callS (M := mX7_right) (as := [_]) dX7_right_1 ca_X7_198 ⟨by decide, by decide⟩ rfl (Nat.le_of_ble_eq_true rfl) rfl rfl (kX7_isSideOrNone (by first | assumption | exact pI_rg _ | (unfold rg; omega))) ?_
    first
      | refine Z_pf (M := mX7_right) (tgt := 15) dX7_right_4 (by decide) (fun c_4 => ?_) (fun c_4 => ?_)
      | refine Z_if_eq (M := mX7_right) (tgt := 15) (by first | assumption | exact pI_rg _ | (unfold rg; omega)) dX7_right_4 (by decide) (fun c_4 => ?_) (fun c_4 => ?_)
    · refine K_thr (M := mX7_right) rfl rfl ti_93_201_97 (by decide) (by decide) (by decide) (by decide) (Or.inl ⟨dX7_right_15, dX7_right_18, dX7_right_19, dX7_right_21, dX7_right_24⟩) ?_
      first
        | exact EM_1 (pI_f (by omega)) rfl
        | exact EM_2 (pI_n0.mpr (by omega)) (pI_f (by omega)) rfl
        | exact EM_3 (pI_n0.mpr (by omega)) (pI_n0.mpr (by omega)) (pI_f (by omega)) rfl
    · refine J_aload_n (M := mX7_right) dX7_right_7 rfl rfl ?_
      refine J_iload_n (M := mX7_right) dX7_right_8 rfl rfl ?_
      refine J_callV (M := mX7_right) (as := [_]) dX7_right_9 ca_X7_181 ⟨by decide, by decide⟩ (hk_1 (by first | exact rfl | assumption | exact Or.inl (by assumption) | exact Or.inr rfl | (show 0 ≤ _ ∧ _ < _; omega))) rfl (Nat.le_of_ble_eq_true rfl) (k' := 1) (n' := 6) (by decide) (by decide) (kX7_isTooEarly V ht (by omega)) (fun v_9 h_9 hv_9 => ?_)
      obtain ⟨r_9, rfl, hv_9⟩ := hv_9
      obtain ⟨rfl, e_9⟩ := hv_9
      rw [e_9]
      first
        | refine Z_pf (M := mX7_right) (tgt := 25) dX7_right_12 (by decide) (fun c_12 => ?_) (fun c_12 => ?_)
        | refine Z_if_eq (M := mX7_right) (tgt := 25) (by first | assumption | exact pI_rg _ | (unfold rg; omega)) dX7_right_12 (by decide) (fun c_12 => ?_) (fun c_12 => ?_)
      · refine J_aload_n (M := mX7_right) dX7_right_25 rfl rfl ?_
        refine J_getf (M := mX7_right) dX7_right_26 fi_X7_30 (hk_1 (by first | exact rfl | assumption | exact Or.inl (by assumption) | exact Or.inr rfl | (show 0 ≤ _ ∧ _ < _; omega))) rfl ?_
        refine J_getf (M := mX7_right) dX7_right_29 fi_X7_101 (hk_5 (by first | exact rfl | assumption | exact Or.inl (by assumption) | exact Or.inr rfl | (show 0 ≤ _ ∧ _ < _; omega))) rfl ?_
        refine Z_rwb (M := mX7_right) (g := ρ 41) (wk41 V) rfl (fun wb_41_14 => ?_)
        first | refine Z_some (M := mX7_right) (by omega) ?_ | skip
        refine J_astore_n (M := mX7_right) dX7_right_32 rfl (by decide) ?_
        refine J_aload_n (M := mX7_right) dX7_right_33 rfl rfl ?_
        first | refine Z_some (M := mX7_right) (by omega) ?_ | skip
        first | refine Z_uns (M := mX7_right) (by omega) ?_ | skip
        refine K_ifnull (tgt := 44) dX7_right_34 (by decide) (fun c_34 => ?_) (fun c_34 => ?_)
        · refine K_thr (M := mX7_right) rfl rfl ti_60_189_64 (by decide) (by decide) (by decide) (by decide) (Or.inl ⟨dX7_right_44, dX7_right_47, dX7_right_48, dX7_right_50, dX7_right_53⟩) ?_
          first
            | exact EM_1 (pI_f (by omega)) rfl
            | exact EM_2 (pI_n0.mpr (by omega)) (pI_f (by omega)) rfl
            | exact EM_3 (pI_n0.mpr (by omega)) (pI_n0.mpr (by omega)) (pI_f (by omega)) rfl
        · omega
      · refine K_thr (M := mX7_right) rfl rfl ti_93_201_97 (by decide) (by decide) (by decide) (by decide) (Or.inl ⟨dX7_right_15, dX7_right_18, dX7_right_19, dX7_right_21, dX7_right_24⟩) ?_
        first
          | exact EM_1 (pI_f (by omega)) rfl
          | exact EM_2 (pI_n0.mpr (by omega)) (pI_f (by omega)) rfl
          | exact EM_3 (pI_n0.mpr (by omega)) (pI_n0.mpr (by omega)) (pI_f (by omega)) rfl
  · have p0 := h8.1
    have h33 := h8.2.2.2.2.1
    obtain ⟨l1, l2⟩ := ltv_e h8 W
    refine J_iload_n (M := mX7_right) dX7_right_0 rfl rfl ?_
    refine M_callS (M := mX7_right) (as := [_]) dX7_right_1 ca_X7_198 ⟨by decide, by decide⟩ rfl (Nat.le_of_ble_eq_true rfl) rfl rfl (kX7_isSideOrNone (by first | assumption | exact pI_rg _ | (unfold rg; omega))) ?_
    first
      | refine Z_pf (M := mX7_right) (tgt := 15) dX7_right_4 (by decide) (fun c_4 => ?_) (fun c_4 => ?_)
      | refine Z_if_eq (M := mX7_right) (tgt := 15) (by first | assumption | exact pI_rg _ | (unfold rg; omega)) dX7_right_4 (by decide) (fun c_4 => ?_) (fun c_4 => ?_)
    · refine K_thr (M := mX7_right) rfl rfl ti_93_201_97 (by decide) (by decide) (by decide) (by decide) (Or.inl ⟨dX7_right_15, dX7_right_18, dX7_right_19, dX7_right_21, dX7_right_24⟩) ?_
      first
        | exact EM_1 (pI_f (by omega)) rfl
        | exact EM_2 (pI_n0.mpr (by omega)) (pI_f (by omega)) rfl
        | exact EM_3 (pI_n0.mpr (by omega)) (pI_n0.mpr (by omega)) (pI_f (by omega)) rfl
    · refine J_aload_n (M := mX7_right) dX7_right_7 rfl rfl ?_
      refine J_iload_n (M := mX7_right) dX7_right_8 rfl rfl ?_
      refine J_callV (M := mX7_right) (as := [_]) dX7_right_9 ca_X7_181 ⟨by decide, by decide⟩ (hk_1 (by first | exact rfl | assumption | exact Or.inl (by assumption) | exact Or.inr rfl | (show 0 ≤ _ ∧ _ < _; omega))) rfl (Nat.le_of_ble_eq_true rfl) (k' := 1) (n' := 6) (by decide) (by decide) (kX7_isTooEarly V ht (by omega)) (fun v_9 h_9 hv_9 => ?_)
      obtain ⟨r_9, rfl, hv_9⟩ := hv_9
      obtain ⟨rfl, e_9⟩ := hv_9
      rw [e_9]
      first
        | refine Z_pf (M := mX7_right) (tgt := 25) dX7_right_12 (by decide) (fun c_12 => ?_) (fun c_12 => ?_)
        | refine Z_if_eq (M := mX7_right) (tgt := 25) (by first | assumption | exact pI_rg _ | (unfold rg; omega)) dX7_right_12 (by decide) (fun c_12 => ?_) (fun c_12 => ?_)
      · refine J_aload_n (M := mX7_right) dX7_right_25 rfl rfl ?_
        refine J_getf (M := mX7_right) dX7_right_26 fi_X7_30 (hk_1 (by first | exact rfl | assumption | exact Or.inl (by assumption) | exact Or.inr rfl | (show 0 ≤ _ ∧ _ < _; omega))) rfl ?_
        refine J_getf (M := mX7_right) dX7_right_29 fi_X7_101 (hk_5 (by first | exact rfl | assumption | exact Or.inl (by assumption) | exact Or.inr rfl | (show 0 ≤ _ ∧ _ < _; omega))) rfl ?_
        refine Z_rwb (M := mX7_right) (g := ρ 41) (wk41 V) rfl (fun wb_41_14 => ?_)
        first | refine Z_some (M := mX7_right) (by omega) ?_ | skip
        refine J_astore_n (M := mX7_right) dX7_right_32 rfl (by decide) ?_
        refine J_aload_n (M := mX7_right) dX7_right_33 rfl rfl ?_
        first | refine Z_some (M := mX7_right) (by omega) ?_ | skip
        first | refine Z_uns (M := mX7_right) (by omega) ?_ | skip
        refine K_ifnull (tgt := 44) dX7_right_34 (by decide) (fun c_34 => ?_) (fun c_34 => ?_)
        · omega
        · refine J_aload_n (M := mX7_right) dX7_right_37 rfl rfl ?_
          first | refine Z_some (M := mX7_right) (by omega) ?_ | skip
          refine J_callV (M := mX7_right) (as := []) dX7_right_38 ca_X7_186 ⟨by decide, by decide⟩ (hk_16 (by first | exact rfl | assumption | exact Or.inl (by assumption) | exact Or.inr rfl | (show 0 ≤ _ ∧ _ < _; omega))) rfl (Nat.le_of_ble_eq_true rfl) (k' := 1) (n' := 6) (by decide) (by decide) (kX2_isFull V p0) (fun v_38 h_38 hv_38 => ?_)
          obtain ⟨r_38, rfl, hv_38⟩ := hv_38
          obtain ⟨rfl, e_38⟩ := hv_38
          rw [e_38]
          first
            | refine Z_pf (M := mX7_right) (tgt := 54) dX7_right_41 (by decide) (fun c_41 => ?_) (fun c_41 => ?_)
            | refine Z_if_eq (M := mX7_right) (tgt := 54) (by first | assumption | exact pI_rg _ | (unfold rg; omega)) dX7_right_41 (by decide) (fun c_41 => ?_) (fun c_41 => ?_)
          · refine J_aload_n (M := mX7_right) dX7_right_54 rfl rfl ?_
            first | refine Z_some (M := mX7_right) (by omega) ?_ | skip
            refine Z_iconst (M := mX7_right) dX7_right_55 ?_
            refine J_iload_n (M := mX7_right) dX7_right_56 rfl rfl ?_
            refine J_iload_n (M := mX7_right) dX7_right_57 rfl rfl ?_
            refine J_callV (M := mX7_right) (as := [_, _, _]) dX7_right_58 ca_X7_191 ⟨by decide, by decide⟩ (hk_16 (by first | exact rfl | assumption | exact Or.inl (by assumption) | exact Or.inr rfl | (show 0 ≤ _ ∧ _ < _; omega))) rfl (Nat.le_of_ble_eq_true rfl) (k' := 1) (n' := 6) (by decide) (by decide) (kX2_hear V p0 (by omega)) (fun v_58 h_58 hv_58 => ?_)
            obtain ⟨r_58, rfl, hv_58⟩ := hv_58
            obtain ⟨rfl, e_58⟩ := hv_58
            rw [e_58]
            refine J_aload_n (M := mX7_right) dX7_right_61 rfl rfl ?_
            first | refine Z_some (M := mX7_right) (by omega) ?_ | skip
            refine J_getf (M := mX7_right) dX7_right_62 fi_X7_195 (hk_16 (by first | exact rfl | assumption | exact Or.inl (by assumption) | exact Or.inr rfl | (show 0 ≤ _ ∧ _ < _; omega))) rfl ?_
            refine K_iretE dX7_right_65 rfl ?_
            have hs2 : -1 ≤ s ∧ s ≤ 1 := by assumption
            have hk : kd (5 + s) = 2 := by unfold kd; rw [if_neg (by omega)]
            have hs3 : sd (5 + s) = s := by unfold sd; rw [if_neg (by omega)]; omega
            have hR := RR_hear (cde := 5 + s) (t := t) R h2 (by omega) (by unfold rg at ht; omega) (by omega) (by omega)
            rw [hk, hs3] at hR
            exact ⟨(gl_0 ⟨(by first | exact n10 | exact pI_n0.mpr (by omega)), (by first | exact n10 | exact pI_n0.mpr (by omega)), (by first | exact n10 | exact pI_n0.mpr (by omega))⟩), (by rw [ts_self, h33]), hR⟩
          · refine K_thr (M := mX7_right) rfl rfl ti_60_189_64 (by decide) (by decide) (by decide) (by decide) (Or.inl ⟨dX7_right_44, dX7_right_47, dX7_right_48, dX7_right_50, dX7_right_53⟩) ?_
            first
              | exact EM_1 (pI_f (by omega)) rfl
              | exact EM_2 (pI_n0.mpr (by omega)) (pI_f (by omega)) rfl
              | exact EM_3 (pI_n0.mpr (by omega)) (pI_n0.mpr (by omega)) (pI_f (by omega)) rfl
      · refine K_thr (M := mX7_right) rfl rfl ti_93_201_97 (by decide) (by decide) (by decide) (by decide) (Or.inl ⟨dX7_right_15, dX7_right_18, dX7_right_19, dX7_right_21, dX7_right_24⟩) ?_
        first
          | exact EM_1 (pI_f (by omega)) rfl
          | exact EM_2 (pI_n0.mpr (by omega)) (pI_f (by omega)) rfl
          | exact EM_3 (pI_n0.mpr (by omega)) (pI_n0.mpr (by omega)) (pI_f (by omega)) rfl
