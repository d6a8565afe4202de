/-! THE CLASS: won, index, rankedAt -/
theorem mx1_e {x : Int} (h : 0 ≤ x) : (if 1 < x then x else 1) = mx1 x := by
  unfold mx1
  by_cases a : 1 < x
  · rw [if_pos a, if_neg (by omega)]
  · rw [if_neg a]
    by_cases b : x = 0
    · rw [if_pos b]
    · rw [if_neg b]; omega
set_option maxRecDepth 100000 in
set_option maxHeartbeats 4000000 in
theorem kX1_isAheadOf {X : GX} {h : LH} {ρ u : TS} {a b : Int} (V : WK ρ) (ea : CE ρ 11 a) (eb : CE ρ 11 b) (ha : ρ 9 a = u 29 a ∧ ρ 10 a = u 30 a ∧ ρ 11 a = u 31 a ∧ ρ 12 a = u 32 a) (hb : ρ 9 b = u 29 b ∧ ρ 10 b = u 30 b ∧ ρ 11 b = u 31 b ∧ ρ 12 b = u 32 b) (n8a : ρ 8 a = a) (n8b : ρ 8 b = b) : CK X mX1_isAheadOf [vR (some (11, a)), vR (some (11, b))] h ρ (fun v r => v = some (vI (iI (pI (ahP u a b)))) ∧ r = ρ) := by
  have y9a := wk9 V a
  have y9b := wk9 V b
  have y10a := wk10 V a
  have y10b := wk10 V b
  have y11a := wk11 V a
  have y11b := wk11 V b
  have y12a := wk12 V a
  have y12b := wk12 V b
  have y8a := wk8 V a
  have y8b := wk8 V b
  rw [ha.1] at y9a
  rw [hb.1] at y9b
  rw [ha.2.1] at y10a
  rw [hb.2.1] at y10b
  have m1 := mul_rg y10a (mx1_rg y9b)
  have m2 := mul_rg y10b (mx1_rg y9a)
  refine CT_of (by decide +kernel) rfl (Nat.le_of_ble_eq_true rfl) ?_
  refine J_aload_n (M := mX1_isAheadOf) dX1_isAheadOf_0 rfl rfl ?_
  refine J_getf (M := mX1_isAheadOf) dX1_isAheadOf_1 fi_X1_16 (hk_11 (by first | exact rfl | assumption | exact Or.inl (by assumption) | exact Or.inr rfl | (show 0 ≤ _ ∧ _ < _; omega))) rfl ?_
  refine Z_eq (M := mX1_isAheadOf) (b := ρ 10 _) rfl ?_
  refine Z_eq (M := mX1_isAheadOf) ha.2.1 ?_
  refine Z_iconst (M := mX1_isAheadOf) dX1_isAheadOf_4 ?_
  refine J_aload_n (M := mX1_isAheadOf) dX1_isAheadOf_5 rfl rfl ?_
  first | refine Z_some (M := mX1_isAheadOf) (by omega) ?_ | skip
  refine J_getf (M := mX1_isAheadOf) dX1_isAheadOf_6 fi_X1_13 (hk_11 (by first | exact rfl | assumption | exact Or.inl (by assumption) | exact Or.inr rfl | (show 0 ≤ _ ∧ _ < _; omega))) rfl ?_
  refine Z_eq (M := mX1_isAheadOf) (b := ρ 9 _) rfl ?_
  refine Z_eq (M := mX1_isAheadOf) hb.1 ?_
  refine Z_max (M := mX1_isAheadOf) dX1_isAheadOf_9 mx_l mx_s mx_i mx_c (by decide) (Nat.le_of_ble_eq_true rfl) (by first | assumption | exact pI_rg _ | (unfold rg; omega)) (by first | assumption | exact pI_rg _ | (unfold rg; omega)) ?_
  refine Z_eq (M := mX1_isAheadOf) (mx1_e y9b.1) ?_
  refine Z_imul (M := mX1_isAheadOf) dX1_isAheadOf_12 ?_
  refine J_istore_n (M := mX1_isAheadOf) dX1_isAheadOf_13 rfl (by decide) ?_
  refine J_aload_n (M := mX1_isAheadOf) dX1_isAheadOf_14 rfl rfl ?_
  first | refine Z_some (M := mX1_isAheadOf) (by omega) ?_ | skip
  refine J_getf (M := mX1_isAheadOf) dX1_isAheadOf_15 fi_X1_16 (hk_11 (by first | exact rfl | assumption | exact Or.inl (by assumption) | exact Or.inr rfl | (show 0 ≤ _ ∧ _ < _; omega))) rfl ?_
  refine Z_eq (M := mX1_isAheadOf) (b := ρ 10 _) rfl ?_
  refine Z_eq (M := mX1_isAheadOf) hb.2.1 ?_
  refine Z_iconst (M := mX1_isAheadOf) dX1_isAheadOf_18 ?_
  refine J_aload_n (M := mX1_isAheadOf) dX1_isAheadOf_19 rfl rfl ?_
  refine J_getf (M := mX1_isAheadOf) dX1_isAheadOf_20 fi_X1_13 (hk_11 (by first | exact rfl | assumption | exact Or.inl (by assumption) | exact Or.inr rfl | (show 0 ≤ _ ∧ _ < _; omega))) rfl ?_
  refine Z_eq (M := mX1_isAheadOf) (b := ρ 9 _) rfl ?_
  refine Z_eq (M := mX1_isAheadOf) ha.1 ?_
  refine Z_max (M := mX1_isAheadOf) dX1_isAheadOf_23 mx_l mx_s mx_i mx_c (by decide) (Nat.le_of_ble_eq_true rfl) (by first | assumption | exact pI_rg _ | (unfold rg; omega)) (by first | assumption | exact pI_rg _ | (unfold rg; omega)) ?_
  refine Z_eq (M := mX1_isAheadOf) (mx1_e y9a.1) ?_
  refine Z_imul (M := mX1_isAheadOf) dX1_isAheadOf_26 ?_
  refine J_istore_n (M := mX1_isAheadOf) dX1_isAheadOf_27 rfl (by decide) ?_
  refine J_iload_n (M := mX1_isAheadOf) dX1_isAheadOf_28 rfl rfl ?_
  refine J_iload_n (M := mX1_isAheadOf) dX1_isAheadOf_29 rfl rfl ?_
  refine Z_ic_eq (M := mX1_isAheadOf) (tgt := 44) (by first | assumption | exact pI_rg _ | (unfold rg; omega)) (by first | assumption | exact pI_rg _ | (unfold rg; omega)) dX1_isAheadOf_30 (by decide) (fun c_30 => ?_) (fun c_30 => ?_)
  · refine J_aload_n (M := mX1_isAheadOf) dX1_isAheadOf_44 rfl rfl ?_
    refine J_callV (M := mX1_isAheadOf) (as := []) dX1_isAheadOf_45 ca_X1_31 ⟨by decide, by decide⟩ (hk_11 (by first | exact rfl | assumption | exact Or.inl (by assumption) | exact Or.inr rfl | (show 0 ≤ _ ∧ _ < _; omega))) rfl (Nat.le_of_ble_eq_true rfl) (k' := 0) (n' := 0) (by decide) (by decide) (kX1_difference ea) (fun v_45 h_45 hv_45 => ?_)
    obtain ⟨r_45, rfl, hv_45⟩ := hv_45
    obtain ⟨rfl, e_45⟩ := hv_45
    rw [e_45]
    refine J_aload_n (M := mX1_isAheadOf) dX1_isAheadOf_48 rfl rfl ?_
    first | refine Z_some (M := mX1_isAheadOf) (by omega) ?_ | skip
    refine J_callV (M := mX1_isAheadOf) (as := []) dX1_isAheadOf_49 ca_X1_31 ⟨by decide, by decide⟩ (hk_11 (by first | exact rfl | assumption | exact Or.inl (by assumption) | exact Or.inr rfl | (show 0 ≤ _ ∧ _ < _; omega))) rfl (Nat.le_of_ble_eq_true rfl) (k' := 0) (n' := 0) (by decide) (by decide) (kX1_difference eb) (fun v_49 h_49 hv_49 => ?_)
    obtain ⟨r_49, rfl, hv_49⟩ := hv_49
    obtain ⟨rfl, e_49⟩ := hv_49
    rw [e_49]
    refine Z_ic_eq (M := mX1_isAheadOf) (tgt := 72) (by first | assumption | exact pI_rg _ | (unfold rg; omega)) (by first | assumption | exact pI_rg _ | (unfold rg; omega)) dX1_isAheadOf_52 (by decide) (fun c_52 => ?_) (fun c_52 => ?_)
    · refine J_aload_n (M := mX1_isAheadOf) dX1_isAheadOf_72 rfl rfl ?_
      refine J_getf (M := mX1_isAheadOf) dX1_isAheadOf_73 fi_X1_19 (hk_11 (by first | exact rfl | assumption | exact Or.inl (by assumption) | exact Or.inr rfl | (show 0 ≤ _ ∧ _ < _; omega))) rfl ?_
      refine Z_eq (M := mX1_isAheadOf) (b := ρ 11 _) rfl ?_
      refine Z_eq (M := mX1_isAheadOf) ha.2.2.1 ?_
      refine J_aload_n (M := mX1_isAheadOf) dX1_isAheadOf_76 rfl rfl ?_
      first | refine Z_some (M := mX1_isAheadOf) (by omega) ?_ | skip
      refine J_getf (M := mX1_isAheadOf) dX1_isAheadOf_77 fi_X1_19 (hk_11 (by first | exact rfl | assumption | exact Or.inl (by assumption) | exact Or.inr rfl | (show 0 ≤ _ ∧ _ < _; omega))) rfl ?_
      refine Z_eq (M := mX1_isAheadOf) (b := ρ 11 _) rfl ?_
      refine Z_eq (M := mX1_isAheadOf) hb.2.2.1 ?_
      refine Z_ic_eq (M := mX1_isAheadOf) (tgt := 102) (by first | assumption | exact pI_rg _ | (unfold rg; omega)) (by first | assumption | exact pI_rg _ | (unfold rg; omega)) dX1_isAheadOf_80 (by decide) (fun c_80 => ?_) (fun c_80 => ?_)
      · refine J_aload_n (M := mX1_isAheadOf) dX1_isAheadOf_102 rfl rfl ?_
        refine J_getf (M := mX1_isAheadOf) dX1_isAheadOf_103 fi_X1_7 (hk_11 (by first | exact rfl | assumption | exact Or.inl (by assumption) | exact Or.inr rfl | (show 0 ≤ _ ∧ _ < _; omega))) rfl ?_
        refine Z_eq (M := mX1_isAheadOf) (b := ρ 8 _) rfl ?_
        refine Z_eq (M := mX1_isAheadOf) n8a ?_
        refine J_aload_n (M := mX1_isAheadOf) dX1_isAheadOf_106 rfl rfl ?_
        first | refine Z_some (M := mX1_isAheadOf) (by omega) ?_ | skip
        refine J_getf (M := mX1_isAheadOf) dX1_isAheadOf_107 fi_X1_7 (hk_11 (by first | exact rfl | assumption | exact Or.inl (by assumption) | exact Or.inr rfl | (show 0 ≤ _ ∧ _ < _; omega))) rfl ?_
        refine Z_eq (M := mX1_isAheadOf) (b := ρ 8 _) rfl ?_
        refine Z_eq (M := mX1_isAheadOf) n8b ?_
        refine Z_ic_ge (M := mX1_isAheadOf) (tgt := 117) (by first | assumption | exact pI_rg _ | (unfold rg; omega)) (by first | assumption | exact pI_rg _ | (unfold rg; omega)) dX1_isAheadOf_110 (by decide) (fun c_110 => ?_) (fun c_110 => ?_)
        · refine Z_iconst (M := mX1_isAheadOf) dX1_isAheadOf_117 ?_
          refine K_zret dX1_isAheadOf_118 rfl (by first | exact pI_01 _ | exact Or.inl rfl | exact Or.inr rfl | omega) ?_
          exact And.intro (r0 (fun z => by have z := ahP_i.mp z; unfold dqt at z; omega)) rfl
        · refine Z_iconst (M := mX1_isAheadOf) dX1_isAheadOf_113 ?_
          refine J_goto (M := mX1_isAheadOf) (tgt := 118) dX1_isAheadOf_114 (by decide) ?_
          refine K_zret dX1_isAheadOf_118 rfl (by first | exact pI_01 _ | exact Or.inl rfl | exact Or.inr rfl | omega) ?_
          exact And.intro (r1 (ahP_i.mpr (by unfold dqt; omega))) rfl
      · refine J_aload_n (M := mX1_isAheadOf) dX1_isAheadOf_83 rfl rfl ?_
        refine J_getf (M := mX1_isAheadOf) dX1_isAheadOf_84 fi_X1_19 (hk_11 (by first | exact rfl | assumption | exact Or.inl (by assumption) | exact Or.inr rfl | (show 0 ≤ _ ∧ _ < _; omega))) rfl ?_
        refine Z_eq (M := mX1_isAheadOf) (b := ρ 11 _) rfl ?_
        refine Z_eq (M := mX1_isAheadOf) ha.2.2.1 ?_
        refine J_aload_n (M := mX1_isAheadOf) dX1_isAheadOf_87 rfl rfl ?_
        first | refine Z_some (M := mX1_isAheadOf) (by omega) ?_ | skip
        refine J_getf (M := mX1_isAheadOf) dX1_isAheadOf_88 fi_X1_19 (hk_11 (by first | exact rfl | assumption | exact Or.inl (by assumption) | exact Or.inr rfl | (show 0 ≤ _ ∧ _ < _; omega))) rfl ?_
        refine Z_eq (M := mX1_isAheadOf) (b := ρ 11 _) rfl ?_
        refine Z_eq (M := mX1_isAheadOf) hb.2.2.1 ?_
        refine Z_ic_le (M := mX1_isAheadOf) (tgt := 98) (by first | assumption | exact pI_rg _ | (unfold rg; omega)) (by first | assumption | exact pI_rg _ | (unfold rg; omega)) dX1_isAheadOf_91 (by decide) (fun c_91 => ?_) (fun c_91 => ?_)
        · refine Z_iconst (M := mX1_isAheadOf) dX1_isAheadOf_98 ?_
          refine J_goto (M := mX1_isAheadOf) (tgt := 118) dX1_isAheadOf_99 (by decide) ?_
          refine K_zret dX1_isAheadOf_118 rfl (by first | exact pI_01 _ | exact Or.inl rfl | exact Or.inr rfl | omega) ?_
          exact And.intro (r0 (fun z => by have z := ahP_i.mp z; unfold dqt at z; omega)) rfl
        · refine Z_iconst (M := mX1_isAheadOf) dX1_isAheadOf_94 ?_
          refine J_goto (M := mX1_isAheadOf) (tgt := 118) dX1_isAheadOf_95 (by decide) ?_
          refine K_zret dX1_isAheadOf_118 rfl (by first | exact pI_01 _ | exact Or.inl rfl | exact Or.inr rfl | omega) ?_
          exact And.intro (r1 (ahP_i.mpr (by unfold dqt; omega))) rfl
    · refine J_aload_n (M := mX1_isAheadOf) dX1_isAheadOf_55 rfl rfl ?_
      refine J_callV (M := mX1_isAheadOf) (as := []) dX1_isAheadOf_56 ca_X1_31 ⟨by decide, by decide⟩ (hk_11 (by first | exact rfl | assumption | exact Or.inl (by assumption) | exact Or.inr rfl | (show 0 ≤ _ ∧ _ < _; omega))) rfl (Nat.le_of_ble_eq_true rfl) (k' := 0) (n' := 0) (by decide) (by decide) (kX1_difference ea) (fun v_56 h_56 hv_56 => ?_)
      obtain ⟨r_56, rfl, hv_56⟩ := hv_56
      obtain ⟨rfl, e_56⟩ := hv_56
      rw [e_56]
      refine J_aload_n (M := mX1_isAheadOf) dX1_isAheadOf_59 rfl rfl ?_
      first | refine Z_some (M := mX1_isAheadOf) (by omega) ?_ | skip
      refine J_callV (M := mX1_isAheadOf) (as := []) dX1_isAheadOf_60 ca_X1_31 ⟨by decide, by decide⟩ (hk_11 (by first | exact rfl | assumption | exact Or.inl (by assumption) | exact Or.inr rfl | (show 0 ≤ _ ∧ _ < _; omega))) rfl (Nat.le_of_ble_eq_true rfl) (k' := 0) (n' := 0) (by decide) (by decide) (kX1_difference eb) (fun v_60 h_60 hv_60 => ?_)
      obtain ⟨r_60, rfl, hv_60⟩ := hv_60
      obtain ⟨rfl, e_60⟩ := hv_60
      rw [e_60]
      refine Z_ic_le (M := mX1_isAheadOf) (tgt := 70) (by first | assumption | exact pI_rg _ | (unfold rg; omega)) (by first | assumption | exact pI_rg _ | (unfold rg; omega)) dX1_isAheadOf_63 (by decide) (fun c_63 => ?_) (fun c_63 => ?_)
      · refine Z_iconst (M := mX1_isAheadOf) dX1_isAheadOf_70 ?_
        refine K_zret dX1_isAheadOf_71 rfl (by first | exact pI_01 _ | exact Or.inl rfl | exact Or.inr rfl | omega) ?_
        exact And.intro (r0 (fun z => by have z := ahP_i.mp z; unfold dqt at z; omega)) rfl
      · refine Z_iconst (M := mX1_isAheadOf) dX1_isAheadOf_66 ?_
        refine J_goto (M := mX1_isAheadOf) (tgt := 71) dX1_isAheadOf_67 (by decide) ?_
        refine K_zret dX1_isAheadOf_71 rfl (by first | exact pI_01 _ | exact Or.inl rfl | exact Or.inr rfl | omega) ?_
        exact And.intro (r1 (ahP_i.mpr (by unfold dqt; omega))) rfl
  · refine J_iload_n (M := mX1_isAheadOf) dX1_isAheadOf_33 rfl rfl ?_
    refine J_iload_n (M := mX1_isAheadOf) dX1_isAheadOf_34 rfl rfl ?_
    refine Z_ic_le (M := mX1_isAheadOf) (tgt := 42) (by first | assumption | exact pI_rg _ | (unfold rg; omega)) (by first | assumption | exact pI_rg _ | (unfold rg; omega)) dX1_isAheadOf_35 (by decide) (fun c_35 => ?_) (fun c_35 => ?_)
    · refine Z_iconst (M := mX1_isAheadOf) dX1_isAheadOf_42 ?_
      refine K_zret dX1_isAheadOf_43 rfl (by first | exact pI_01 _ | exact Or.inl rfl | exact Or.inr rfl | omega) ?_
      exact And.intro (r0 (fun z => by have z := ahP_i.mp z; unfold dqt at z; omega)) rfl
    · refine Z_iconst (M := mX1_isAheadOf) dX1_isAheadOf_38 ?_
      refine J_goto (M := mX1_isAheadOf) (tgt := 43) dX1_isAheadOf_39 (by decide) ?_
      refine K_zret dX1_isAheadOf_43 rfl (by first | exact pI_01 _ | exact Or.inl rfl | exact Or.inr rfl | omega) ?_
      exact And.intro (r1 (ahP_i.mpr (by unfold dqt; omega))) rfl

set_option maxRecDepth 100000 in
set_option maxHeartbeats 4000000 in
theorem fa_l {X : GX} {h : LH} {ρ u : TS} {k n : Nat} (V : WK ρ) (h1 : 0 ≤ ρ 1 0 ∧ ρ 1 0 ≤ 12) (h47 : ρ 47 0 = ρ 1 0) (h4 : ∀ f, 0 ≤ f → f < ρ 1 0 → ρ 4 f = f) (h8 : ∀ f, 0 ≤ f → f < ρ 1 0 → ρ 8 f = f) (hS : SU ρ u (ρ 1 0)) {i : Int} (hi : 0 ≤ i ∧ i < ρ 1 0) : ∀ (m j : Nat), (j : Int) + m = ρ 1 0 → J X mX7_fencersAhead 4 [some (vR (some (1, 0))), some (vR (some (11, i))), some (vI (iI (cnA u i j))), some (vI (iI j)), none] [] (hk h ρ) k n (QK h (fun v r => v = some (vI (iI (cnA u i (ρ 1 0).toNat))) ∧ r = ρ)) := by
  intro m
  induction m with
  | zero =>
    intro j hj
    have ej : (ρ 1 0).toNat = j := by omega
    refine J_iload_n (M := mX7_fencersAhead) dX7_fencersAhead_4 rfl rfl ?_
    refine J_aload_n (M := mX7_fencersAhead) dX7_fencersAhead_5 rfl rfl ?_
    refine J_getf (M := mX7_fencersAhead) dX7_fencersAhead_6 fi_X7_52 (hk_1 (by first | exact rfl | assumption | exact Or.inl (by assumption) | exact Or.inr rfl | (show 0 ≤ _ ∧ _ < _; omega))) rfl ?_
    refine Z_wb (M := mX7_fencersAhead) (g := ρ 1) (wk1 V) rfl (fun wb_1_3 => ?_)
    refine Z_ic_ge (M := mX7_fencersAhead) (tgt := 42) (by first | assumption | exact pI_rg _ | (unfold rg; omega)) (by first | assumption | exact pI_rg _ | (unfold rg; omega)) dX7_fencersAhead_9 (by decide) (fun c_9 => ?_) (fun c_9 => ?_)
    · refine J_iload_n (M := mX7_fencersAhead) dX7_fencersAhead_42 rfl rfl ?_
      refine K_iret dX7_fencersAhead_43 rfl ?_
      exact And.intro (by rw [ej]) rfl
    · omega
  | succ m ih =>
    intro j hj
    have ha : (if 0 ≤ (j : Int) ∧ (j : Int) < ρ 1 0 then ρ 4 j else -1) = (j : Int) := by rw [if_pos (by omega), h4 _ (by omega) (by omega)]
    have ej : CE ρ 11 (j : Int) := ⟨by omega, by omega⟩
    have ei : CE ρ 11 i := ⟨by omega, by omega⟩
    have hc : cnA u i (j + 1) = cnA u i j + pI (¬ (j : Int) = i ∧ ahP u j i) := rfl
    have hir : ahP u j i → ¬ (j : Int) = i := fun z e => by rw [e] at z; exact ahP_ir z
    refine J_iload_n (M := mX7_fencersAhead) dX7_fencersAhead_4 rfl rfl ?_
    refine J_aload_n (M := mX7_fencersAhead) dX7_fencersAhead_5 rfl rfl ?_
    refine J_getf (M := mX7_fencersAhead) dX7_fencersAhead_6 fi_X7_52 (hk_1 (by first | exact rfl | assumption | exact Or.inl (by assumption) | exact Or.inr rfl | (show 0 ≤ _ ∧ _ < _; omega))) rfl ?_
    refine Z_wb (M := mX7_fencersAhead) (g := ρ 1) (wk1 V) rfl (fun wb_1_3 => ?_)
    refine Z_ic_ge (M := mX7_fencersAhead) (tgt := 42) (by first | assumption | exact pI_rg _ | (unfold rg; omega)) (by first | assumption | exact pI_rg _ | (unfold rg; omega)) dX7_fencersAhead_9 (by decide) (fun c_9 => ?_) (fun c_9 => ?_)
    · omega
    · refine J_aload_n (M := mX7_fencersAhead) dX7_fencersAhead_12 rfl rfl ?_
      refine J_iload_n (M := mX7_fencersAhead) dX7_fencersAhead_13 rfl rfl ?_
      refine J_callV (M := mX7_fencersAhead) (as := [_]) dX7_fencersAhead_14 ca_X7_70 ⟨by decide, by decide⟩ (hk_1 (by first | exact rfl | assumption | exact Or.inl (by assumption) | exact Or.inr rfl | (show 0 ≤ _ ∧ _ < _; omega))) rfl (Nat.le_of_ble_eq_true rfl) (k' := k) (n' := n) (Nat.le_refl _) (Nat.le_refl _) (kX7_fencerAt V (by unfold rg; omega)) (fun v_14 h_14 hv_14 => ?_)
      obtain ⟨r_14, rfl, hv_14⟩ := hv_14
      obtain ⟨rfl, e_14⟩ := hv_14
      rw [e_14]
      refine Z_rfe (M := mX7_fencersAhead) ha ?_
      refine J_astore (M := mX7_fencersAhead) dX7_fencersAhead_17 (by decide) ?_
      refine J_aload (M := mX7_fencersAhead) dX7_fencersAhead_19 rfl ?_
      first | refine Z_some (M := mX7_fencersAhead) (by omega) ?_ | skip
      first | refine Z_uns (M := mX7_fencersAhead) (by omega) ?_ | skip
      refine K_ifnull (tgt := 36) dX7_fencersAhead_21 (by decide) (fun c_21 => ?_) (fun c_21 => ?_)
      · omega
      · refine J_aload (M := mX7_fencersAhead) dX7_fencersAhead_24 rfl ?_
        first | refine Z_some (M := mX7_fencersAhead) (by omega) ?_ | skip
        refine J_aload_n (M := mX7_fencersAhead) dX7_fencersAhead_26 rfl rfl ?_
        first | refine Z_some (M := mX7_fencersAhead) (by omega) ?_ | skip
        refine J_callV (M := mX7_fencersAhead) (as := [_]) dX7_fencersAhead_27 ca_X7_367 ⟨by decide, by decide⟩ (hk_11 (by first | exact rfl | assumption | exact Or.inl (by assumption) | exact Or.inr rfl | (show 0 ≤ _ ∧ _ < _; omega))) rfl (Nat.le_of_ble_eq_true rfl) (k' := k) (n' := n) (Nat.le_refl _) (Nat.le_refl _) (kX1_isAheadOf (u := u) V ej ei (hS _ (by omega) (by omega)) (hS _ (by omega) (by omega)) (h8 _ (by omega) (by omega)) (h8 _ (by omega) (by omega))) (fun v_27 h_27 hv_27 => ?_)
        obtain ⟨r_27, rfl, hv_27⟩ := hv_27
        obtain ⟨rfl, e_27⟩ := hv_27
        rw [e_27]
        first
          | refine Z_pf (M := mX7_fencersAhead) (tgt := 36) dX7_fencersAhead_30 (by decide) (fun c_30 => ?_) (fun c_30 => ?_)
          | refine Z_if_eq (M := mX7_fencersAhead) (tgt := 36) (by first | assumption | exact pI_rg _ | (unfold rg; omega)) dX7_fencersAhead_30 (by decide) (fun c_30 => ?_) (fun c_30 => ?_)
        · refine Z_iinc (M := mX7_fencersAhead) dX7_fencersAhead_36 rfl (by decide) ?_
          refine J_goto (M := mX7_fencersAhead) (tgt := 4) dX7_fencersAhead_39 (by decide) ?_
          first
            | (rw [pI_t (show ¬ (j : Int) = i ∧ ahP u j i from ⟨hir c_30, c_30⟩)] at hc
               exact J_sub (ih (j + 1) (by omega)) (And.intro rfl (And.intro rfl (And.intro (vz (by omega)) (And.intro (vz (by push_cast; omega)) trivial)))))
            | (rw [pI_f (show ¬ (¬ (j : Int) = i ∧ ahP u j i) from fun z => c_30 z.2)] at hc
               exact J_sub (ih (j + 1) (by omega)) (And.intro rfl (And.intro rfl (And.intro (vz (by omega)) (And.intro (vz (by push_cast; omega)) trivial)))))
        · refine Z_iinc (M := mX7_fencersAhead) dX7_fencersAhead_33 rfl (by decide) ?_
          refine Z_iinc (M := mX7_fencersAhead) dX7_fencersAhead_36 rfl (by decide) ?_
          refine J_goto (M := mX7_fencersAhead) (tgt := 4) dX7_fencersAhead_39 (by decide) ?_
          first
            | (rw [pI_t (show ¬ (j : Int) = i ∧ ahP u j i from ⟨hir c_30, c_30⟩)] at hc
               exact J_sub (ih (j + 1) (by omega)) (And.intro rfl (And.intro rfl (And.intro (vz (by omega)) (And.intro (vz (by push_cast; omega)) trivial)))))
            | (rw [pI_f (show ¬ (¬ (j : Int) = i ∧ ahP u j i) from fun z => c_30 z.2)] at hc
               exact J_sub (ih (j + 1) (by omega)) (And.intro rfl (And.intro rfl (And.intro (vz (by omega)) (And.intro (vz (by push_cast; omega)) trivial)))))

set_option maxRecDepth 100000 in
set_option maxHeartbeats 4000000 in
theorem kX7_fencersAhead {X : GX} {h : LH} {ρ u : TS} (V : WK ρ) (h1 : 0 ≤ ρ 1 0 ∧ ρ 1 0 ≤ 12) (h47 : ρ 47 0 = ρ 1 0) (h4 : ∀ f, 0 ≤ f → f < ρ 1 0 → ρ 4 f = f) (h8 : ∀ f, 0 ≤ f → f < ρ 1 0 → ρ 8 f = f) (hS : SU ρ u (ρ 1 0)) {i : Int} (hi : 0 ≤ i ∧ i < ρ 1 0) : CK X mX7_fencersAhead [vR (some (1, 0)), vR (some (11, i))] h ρ (fun v r => v = some (vI (iI (cnA u i (ρ 1 0).toNat))) ∧ r = ρ) := by
  refine CT_of (by decide +kernel) rfl (Nat.le_of_ble_eq_true rfl) ?_
  refine Z_iconst (M := mX7_fencersAhead) dX7_fencersAhead_0 ?_
  refine J_istore_n (M := mX7_fencersAhead) dX7_fencersAhead_1 rfl (by decide) ?_
  refine Z_iconst (M := mX7_fencersAhead) dX7_fencersAhead_2 ?_
  refine J_istore_n (M := mX7_fencersAhead) dX7_fencersAhead_3 rfl (by decide) ?_
  exact fa_l V h1 h47 h4 h8 hS hi (ρ 1 0).toNat 0 (by omega)

set_option maxRecDepth 100000 in
set_option maxHeartbeats 4000000 in
theorem fp_l {X : GX} {h : LH} {ρ u : TS} {k n : Nat} (V : WK ρ) (h1 : 0 ≤ ρ 1 0 ∧ ρ 1 0 ≤ 12) (h47 : ρ 47 0 = ρ 1 0) (h4 : ∀ f, 0 ≤ f → f < ρ 1 0 → ρ 4 f = f) (h8 : ∀ f, 0 ≤ f → f < ρ 1 0 → ρ 8 f = f) (hS : SU ρ u (ρ 1 0)) (hu : ∀ i, 0 ≤ u 29 i) {p : Int} (hp : 0 ≤ p ∧ p < ρ 1 0) : ∀ (m : Nat) (i : Int), 0 ≤ i → i + m = ρ 1 0 → (∀ j, 0 ≤ j → j < i → ¬ cnA u j (ρ 1 0).toNat = p) → J X mX7_fencerInPlace 2 [some (vR (some (1, 0))), some (vI (iI p)), some (vI (iI i)), none] [] (hk h ρ) k n (QK h (fun v r => v = some (vI (iI (rkF u p (ρ 1 0) (ρ 1 0).toNat))) ∧ r = ρ)) := by
  intro m
  induction m with
  | zero =>
    intro i h0 hi hno
    exfalso
    obtain ⟨j, ⟨j0, j1⟩, e⟩ := rk_ex hu (n := (ρ 1 0).toNat) hp.1 (by omega)
    exact hno j j0 (by omega) e
  | succ m ih =>
    intro i h0 hi hno
    have ha : (if 0 ≤ i ∧ i < ρ 1 0 then ρ 4 i else -1) = i := by rw [if_pos (by omega), h4 _ (by omega) (by omega)]
    have hrg := cnA_rg (u := u) (i := i) (ρ 1 0).toNat
    refine J_iload_n (M := mX7_fencerInPlace) dX7_fencerInPlace_2 rfl rfl ?_
    refine J_aload_n (M := mX7_fencerInPlace) dX7_fencerInPlace_3 rfl rfl ?_
    refine J_getf (M := mX7_fencerInPlace) dX7_fencerInPlace_4 fi_X7_52 (hk_1 (by first | exact rfl | assumption | exact Or.inl (by assumption) | exact Or.inr rfl | (show 0 ≤ _ ∧ _ < _; omega))) rfl ?_
    refine Z_wb (M := mX7_fencerInPlace) (g := ρ 1) (wk1 V) rfl (fun wb_1_3 => ?_)
    refine Z_ic_ge (M := mX7_fencerInPlace) (tgt := 37) (by first | assumption | exact pI_rg _ | (unfold rg; omega)) (by first | assumption | exact pI_rg _ | (unfold rg; omega)) dX7_fencerInPlace_7 (by decide) (fun c_7 => ?_) (fun c_7 => ?_)
    · omega
    · refine J_aload_n (M := mX7_fencerInPlace) dX7_fencerInPlace_10 rfl rfl ?_
      refine J_iload_n (M := mX7_fencerInPlace) dX7_fencerInPlace_11 rfl rfl ?_
      refine J_callV (M := mX7_fencerInPlace) (as := [_]) dX7_fencerInPlace_12 ca_X7_70 ⟨by decide, by decide⟩ (hk_1 (by first | exact rfl | assumption | exact Or.inl (by assumption) | exact Or.inr rfl | (show 0 ≤ _ ∧ _ < _; omega))) rfl (Nat.le_of_ble_eq_true rfl) (k' := k) (n' := n) (Nat.le_refl _) (Nat.le_refl _) (kX7_fencerAt V (by unfold rg; omega)) (fun v_12 h_12 hv_12 => ?_)
      obtain ⟨r_12, rfl, hv_12⟩ := hv_12
      obtain ⟨rfl, e_12⟩ := hv_12
      rw [e_12]
      refine Z_rfe (M := mX7_fencerInPlace) ha ?_
      refine J_astore_n (M := mX7_fencerInPlace) dX7_fencerInPlace_15 rfl (by decide) ?_
      refine J_aload_n (M := mX7_fencerInPlace) dX7_fencerInPlace_16 rfl rfl ?_
      first | refine Z_some (M := mX7_fencerInPlace) (by omega) ?_ | skip
      first | refine Z_uns (M := mX7_fencerInPlace) (by omega) ?_ | skip
      refine K_ifnull (tgt := 31) dX7_fencerInPlace_17 (by decide) (fun c_17 => ?_) (fun c_17 => ?_)
      · omega
      · refine J_aload_n (M := mX7_fencerInPlace) dX7_fencerInPlace_20 rfl rfl ?_
        refine J_aload_n (M := mX7_fencerInPlace) dX7_fencerInPlace_21 rfl rfl ?_
        first | refine Z_some (M := mX7_fencerInPlace) (by omega) ?_ | skip
        refine J_callV (M := mX7_fencerInPlace) (as := [_]) dX7_fencerInPlace_22 ca_X7_363 ⟨by decide, by decide⟩ (hk_1 (by first | exact rfl | assumption | exact Or.inl (by assumption) | exact Or.inr rfl | (show 0 ≤ _ ∧ _ < _; omega))) rfl (Nat.le_of_ble_eq_true rfl) (k' := k) (n' := n) (Nat.le_refl _) (Nat.le_refl _) (kX7_fencersAhead V h1 h47 h4 h8 hS (by omega)) (fun v_22 h_22 hv_22 => ?_)
        obtain ⟨r_22, rfl, hv_22⟩ := hv_22
        obtain ⟨rfl, e_22⟩ := hv_22
        rw [e_22]
        refine J_iload_n (M := mX7_fencerInPlace) dX7_fencerInPlace_25 rfl rfl ?_
        refine Z_ic_ne (M := mX7_fencerInPlace) (tgt := 31) (by first | assumption | exact pI_rg _ | (unfold rg; omega)) (by first | assumption | exact pI_rg _ | (unfold rg; omega)) dX7_fencerInPlace_26 (by decide) (fun c_26 => ?_) (fun c_26 => ?_)
        · refine Z_iinc (M := mX7_fencerInPlace) dX7_fencerInPlace_31 rfl (by decide) ?_
          refine J_goto (M := mX7_fencerInPlace) (tgt := 2) dX7_fencerInPlace_34 (by decide) ?_
          refine J_sub (M := mX7_fencerInPlace) (ih (i + 1) (by omega) (by omega) (fun j j0 j1 => ?_)) (And.intro rfl (And.intro rfl (And.intro rfl trivial)))
          by_cases z : j = i
          · rw [z]; exact c_26
          · exact hno j j0 (by omega)
        · refine J_iload_n (M := mX7_fencerInPlace) dX7_fencerInPlace_29 rfl rfl ?_
          refine K_iret dX7_fencerInPlace_30 rfl ?_
          exact And.intro (by rw [rk_at hu (by omega) c_26]) rfl

set_option maxRecDepth 100000 in
set_option maxHeartbeats 4000000 in
theorem kX7_fencerInPlace {X : GX} {h : LH} {ρ u : TS} (V : WK ρ) (h1 : 0 ≤ ρ 1 0 ∧ ρ 1 0 ≤ 12) (h47 : ρ 47 0 = ρ 1 0) (h4 : ∀ f, 0 ≤ f → f < ρ 1 0 → ρ 4 f = f) (h8 : ∀ f, 0 ≤ f → f < ρ 1 0 → ρ 8 f = f) (hS : SU ρ u (ρ 1 0)) (hu : ∀ i, 0 ≤ u 29 i) {p : Int} (hp : 0 ≤ p ∧ p < ρ 1 0) : CK X mX7_fencerInPlace [vR (some (1, 0)), vI (iI p)] h ρ (fun v r => v = some (vI (iI (rkF u p (ρ 1 0) (ρ 1 0).toNat))) ∧ r = ρ) := by
  refine CT_of (by decide +kernel) rfl (Nat.le_of_ble_eq_true rfl) ?_
  refine Z_iconst (M := mX7_fencerInPlace) dX7_fencerInPlace_0 ?_
  refine J_istore_n (M := mX7_fencerInPlace) dX7_fencerInPlace_1 rfl (by decide) ?_
  exact fp_l V h1 h47 h4 h8 hS hu hp (ρ 1 0).toNat 0 (by omega) (by omega) (fun j j0 j1 => by omega)

/-- what the counts give, of the fencers -/
theorem Fr_HY {ρ r τ : TS} (R : RC ρ τ) (F : Fr ρ r) (S : SU r (sm τ) (τ 1 0)) : WK r ∧ (0 ≤ r 1 0 ∧ r 1 0 ≤ 12) ∧ r 47 0 = r 1 0 ∧ (∀ f, 0 ≤ f → f < r 1 0 → r 4 f = f) ∧ (∀ f, 0 ≤ f → f < r 1 0 → r 8 f = f) ∧ SU r (sm τ) (r 1 0) ∧ (∀ i, 0 ≤ sm τ 29 i) ∧ r 1 0 = τ 1 0 := by
  have w1 := wf1 R.1 0
  have e1 : r 1 0 = τ 1 0 := by rw [F.1 1 (by decide)]; exact R.2.2.1.1
  have e47 : r 47 0 = τ 1 0 := by rw [F.1 47 (by decide)]; exact R.2.2.1.2.1
  refine ⟨F.2, by omega, by omega, fun f f0 f1 => ?_, fun f f0 f1 => ?_, by rw [e1]; exact S, fun i => (wf29 (WF_sm R.1) i).1, e1⟩
  · rw [F.1 4 (by decide)]; exact (R.2.2.2.1 f f0 (by omega)).1
  · rw [F.1 8 (by decide)]; exact (R.2.2.2.1 f f0 (by omega)).2
set_option maxRecDepth 100000 in
set_option maxHeartbeats 4000000 in
theorem p_won {X : GX} {h : LH} {ρ τ : TS} {c : Int} (R : RR ρ τ c) {f : Int} (hf : rg f) : CX X mX7_won [vR (some (1, 0)), vI (iI f)] h ρ (PX (gl (pI (0 ≤ f ∧ f ≤ τ 1 0 - 1)) 1 1) (sm τ 30 f) (fun r => RR r τ c)) (EM [2] (gl (pI (0 ≤ f ∧ f ≤ τ 1 0 - 1)) 1 1)) := by
  have W := R.1
  have V := R.2.1
  have w1 := wf1 W 0
  refine CT_of (by decide +kernel) rfl (Nat.le_of_ble_eq_true rfl) ?_
  by_cases q : 0 ≤ f ∧ f ≤ τ 1 0 - 1
  · have hx : fAt τ f = f := if_pos q
    refine J_aload_n (M := mX7_won) dX7_won_0 rfl rfl ?_
    refine J_iload_n (M := mX7_won) dX7_won_1 rfl rfl ?_
    refine J_callV (M := mX7_won) (as := [_]) dX7_won_2 ca_X7_70 ⟨by decide, by decide⟩ (hk_1 (by first | exact rfl | assumption | exact Or.inl (by assumption) | exact Or.inr rfl | (show 0 ≤ _ ∧ _ < _; omega))) rfl (Nat.le_of_ble_eq_true rfl) (k' := 1) (n' := 6) (by decide) (by decide) (kX7_fencerAt V hf) (fun v_2 h_2 hv_2 => ?_)
    obtain ⟨r_2, rfl, hv_2⟩ := hv_2
    obtain ⟨rfl, e_2⟩ := hv_2
    rw [e_2]
    refine Z_rfe (M := mX7_won) ((fAt_e R).trans hx) ?_
    refine J_astore_n (M := mX7_won) dX7_won_5 rfl (by decide) ?_
    refine J_aload_n (M := mX7_won) dX7_won_6 rfl rfl ?_
    first | refine Z_some (M := mX7_won) (by omega) ?_ | skip
    first | refine Z_uns (M := mX7_won) (by omega) ?_ | skip
    refine K_ifnonnull (tgt := 20) dX7_won_7 (by decide) (fun c_7 => ?_) (fun c_7 => ?_)
    · refine J_aload_n (M := mX7_won) dX7_won_20 rfl rfl ?_
      refine J_callV (M := mX7_won) (as := []) dX7_won_21 ca_X7_287 ⟨by decide, by decide⟩ (hk_1 (by first | exact rfl | assumption | exact Or.inl (by assumption) | exact Or.inr rfl | (show 0 ≤ _ ∧ _ < _; omega))) rfl (Nat.le_of_ble_eq_true rfl) (k' := 1) (n' := 6) (by decide) (by decide) (kX7_countPools (RC_of R)) (fun v_21 h_21 hv_21 => ?_)
      obtain ⟨r_21, rfl, hv_21⟩ := hv_21
      obtain ⟨rfl, hF, hS⟩ := hv_21
      obtain ⟨V2, z1, z47, z4, z8, zS, zu, z0⟩ := Fr_HY (RC_of R) hF hS
      have e11 : CE r_21 11 f := ⟨q.1, by omega⟩
      obtain ⟨s9, s10, s11, s12⟩ := hS f q.1 (by omega)
      refine J_aload_n (M := mX7_won) dX7_won_24 rfl rfl ?_
      first | refine Z_some (M := mX7_won) (by omega) ?_ | skip
      refine J_getf (M := mX7_won) dX7_won_25 fi_X7_290 (hk_11 (by first | exact rfl | assumption | exact Or.inl (by assumption) | exact Or.inr rfl | (show 0 ≤ _ ∧ _ < _; omega))) rfl ?_
      refine K_iretE dX7_won_28 rfl ?_
      exact ⟨(gl_0 ⟨(by first | exact n10 | exact pI_n0.mpr (by omega)), (by first | exact n10 | exact pI_n0.mpr (by omega)), (by first | exact n10 | exact pI_n0.mpr (by omega))⟩), (by rw [s10]), RR_Fr R hF⟩
    · omega
  · have hx : fAt τ f = -1 := if_neg q
    refine J_aload_n (M := mX7_won) dX7_won_0 rfl rfl ?_
    refine J_iload_n (M := mX7_won) dX7_won_1 rfl rfl ?_
    refine J_callV (M := mX7_won) (as := [_]) dX7_won_2 ca_X7_70 ⟨by decide, by decide⟩ (hk_1 (by first | exact rfl | assumption | exact Or.inl (by assumption) | exact Or.inr rfl | (show 0 ≤ _ ∧ _ < _; omega))) rfl (Nat.le_of_ble_eq_true rfl) (k' := 1) (n' := 6) (by decide) (by decide) (kX7_fencerAt V hf) (fun v_2 h_2 hv_2 => ?_)
    obtain ⟨r_2, rfl, hv_2⟩ := hv_2
    obtain ⟨rfl, e_2⟩ := hv_2
    rw [e_2]
    refine Z_rfe (M := mX7_won) ((fAt_e R).trans hx) ?_
    refine J_astore_n (M := mX7_won) dX7_won_5 rfl (by decide) ?_
    refine J_aload_n (M := mX7_won) dX7_won_6 rfl rfl ?_
    first | refine Z_some (M := mX7_won) (by omega) ?_ | skip
    first | refine Z_uns (M := mX7_won) (by omega) ?_ | skip
    refine K_ifnonnull (tgt := 20) dX7_won_7 (by decide) (fun c_7 => ?_) (fun c_7 => ?_)
    · omega
    · refine K_thr (M := mX7_won) rfl rfl ti_74_76_78 (by decide) (by decide) (by decide) (by decide) (Or.inl ⟨dX7_won_10, dX7_won_13, dX7_won_14, dX7_won_16, dX7_won_19⟩) ?_
      first
        | exact EM_1 (pI_f (by omega)) rfl
        | exact EM_2 (pI_n0.mpr (by omega)) (pI_f (by omega)) rfl
        | exact EM_3 (pI_n0.mpr (by omega)) (pI_n0.mpr (by omega)) (pI_f (by omega)) rfl

set_option maxRecDepth 100000 in
set_option maxHeartbeats 4000000 in
theorem p_index {X : GX} {h : LH} {ρ τ : TS} {c : Int} (R : RR ρ τ c) {f : Int} (hf : rg f) : CX X mX7_index [vR (some (1, 0)), vI (iI f)] h ρ (PX (gl (pI (0 ≤ f ∧ f ≤ τ 1 0 - 1)) 1 1) (sm τ 31 f - sm τ 32 f) (fun r => RR r τ c)) (EM [2] (gl (pI (0 ≤ f ∧ f ≤ τ 1 0 - 1)) 1 1)) := by
  have W := R.1
  have V := R.2.1
  have w1 := wf1 W 0
  refine CT_of (by decide +kernel) rfl (Nat.le_of_ble_eq_true rfl) ?_
  by_cases q : 0 ≤ f ∧ f ≤ τ 1 0 - 1
  · have hx : fAt τ f = f := if_pos q
    refine J_aload_n (M := mX7_index) dX7_index_0 rfl rfl ?_
    refine J_iload_n (M := mX7_index) dX7_index_1 rfl rfl ?_
    refine J_callV (M := mX7_index) (as := [_]) dX7_index_2 ca_X7_70 ⟨by decide, by decide⟩ (hk_1 (by first | exact rfl | assumption | exact Or.inl (by assumption) | exact Or.inr rfl | (show 0 ≤ _ ∧ _ < _; omega))) rfl (Nat.le_of_ble_eq_true rfl) (k' := 1) (n' := 6) (by decide) (by decide) (kX7_fencerAt V hf) (fun v_2 h_2 hv_2 => ?_)
    obtain ⟨r_2, rfl, hv_2⟩ := hv_2
    obtain ⟨rfl, e_2⟩ := hv_2
    rw [e_2]
    refine Z_rfe (M := mX7_index) ((fAt_e R).trans hx) ?_
    refine J_astore_n (M := mX7_index) dX7_index_5 rfl (by decide) ?_
    refine J_aload_n (M := mX7_index) dX7_index_6 rfl rfl ?_
    first | refine Z_some (M := mX7_index) (by omega) ?_ | skip
    first | refine Z_uns (M := mX7_index) (by omega) ?_ | skip
    refine K_ifnonnull (tgt := 20) dX7_index_7 (by decide) (fun c_7 => ?_) (fun c_7 => ?_)
    · refine J_aload_n (M := mX7_index) dX7_index_20 rfl rfl ?_
      refine J_callV (M := mX7_index) (as := []) dX7_index_21 ca_X7_287 ⟨by decide, by decide⟩ (hk_1 (by first | exact rfl | assumption | exact Or.inl (by assumption) | exact Or.inr rfl | (show 0 ≤ _ ∧ _ < _; omega))) rfl (Nat.le_of_ble_eq_true rfl) (k' := 1) (n' := 6) (by decide) (by decide) (kX7_countPools (RC_of R)) (fun v_21 h_21 hv_21 => ?_)
      obtain ⟨r_21, rfl, hv_21⟩ := hv_21
      obtain ⟨rfl, hF, hS⟩ := hv_21
      obtain ⟨V2, z1, z47, z4, z8, zS, zu, z0⟩ := Fr_HY (RC_of R) hF hS
      have e11 : CE r_21 11 f := ⟨q.1, by omega⟩
      obtain ⟨s9, s10, s11, s12⟩ := hS f q.1 (by omega)
      refine J_aload_n (M := mX7_index) dX7_index_24 rfl rfl ?_
      first | refine Z_some (M := mX7_index) (by omega) ?_ | skip
      refine J_callV (M := mX7_index) (as := []) dX7_index_25 ca_X7_293 ⟨by decide, by decide⟩ (hk_11 (by first | exact rfl | assumption | exact Or.inl (by assumption) | exact Or.inr rfl | (show 0 ≤ _ ∧ _ < _; omega))) rfl (Nat.le_of_ble_eq_true rfl) (k' := 1) (n' := 6) (by decide) (by decide) (kX1_difference e11) (fun v_25 h_25 hv_25 => ?_)
      obtain ⟨r_25, rfl, hv_25⟩ := hv_25
      obtain ⟨rfl, e_25⟩ := hv_25
      rw [e_25]
      refine K_iretE dX7_index_28 rfl ?_
      exact ⟨(gl_0 ⟨(by first | exact n10 | exact pI_n0.mpr (by omega)), (by first | exact n10 | exact pI_n0.mpr (by omega)), (by first | exact n10 | exact pI_n0.mpr (by omega))⟩), (by rw [s11, s12]), RR_Fr R hF⟩
    · omega
  · have hx : fAt τ f = -1 := if_neg q
    refine J_aload_n (M := mX7_index) dX7_index_0 rfl rfl ?_
    refine J_iload_n (M := mX7_index) dX7_index_1 rfl rfl ?_
    refine J_callV (M := mX7_index) (as := [_]) dX7_index_2 ca_X7_70 ⟨by decide, by decide⟩ (hk_1 (by first | exact rfl | assumption | exact Or.inl (by assumption) | exact Or.inr rfl | (show 0 ≤ _ ∧ _ < _; omega))) rfl (Nat.le_of_ble_eq_true rfl) (k' := 1) (n' := 6) (by decide) (by decide) (kX7_fencerAt V hf) (fun v_2 h_2 hv_2 => ?_)
    obtain ⟨r_2, rfl, hv_2⟩ := hv_2
    obtain ⟨rfl, e_2⟩ := hv_2
    rw [e_2]
    refine Z_rfe (M := mX7_index) ((fAt_e R).trans hx) ?_
    refine J_astore_n (M := mX7_index) dX7_index_5 rfl (by decide) ?_
    refine J_aload_n (M := mX7_index) dX7_index_6 rfl rfl ?_
    first | refine Z_some (M := mX7_index) (by omega) ?_ | skip
    first | refine Z_uns (M := mX7_index) (by omega) ?_ | skip
    refine K_ifnonnull (tgt := 20) dX7_index_7 (by decide) (fun c_7 => ?_) (fun c_7 => ?_)
    · omega
    · refine K_thr (M := mX7_index) rfl rfl ti_74_76_78 (by decide) (by decide) (by decide) (by decide) (Or.inl ⟨dX7_index_10, dX7_index_13, dX7_index_14, dX7_index_16, dX7_index_19⟩) ?_
      first
        | exact EM_1 (pI_f (by omega)) rfl
        | exact EM_2 (pI_n0.mpr (by omega)) (pI_f (by omega)) rfl
        | exact EM_3 (pI_n0.mpr (by omega)) (pI_n0.mpr (by omega)) (pI_f (by omega)) rfl

set_option maxRecDepth 100000 in
set_option maxHeartbeats 4000000 in
theorem p_rankedAt {X : GX} {h : LH} {ρ τ : TS} {c : Int} (R : RR ρ τ c) {f : Int} (hf : rg f) : CX X mX7_rankedAt [vR (some (1, 0)), vI (iI f)] h ρ (PX (gl (pI (0 ≤ f ∧ f ≤ τ 1 0 - 1)) 1 1) (rkF (sm τ) f (τ 1 0) (τ 1 0).toNat) (fun r => RR r τ c)) (EM [2] (gl (pI (0 ≤ f ∧ f ≤ τ 1 0 - 1)) 1 1)) := by
  have W := R.1
  have V := R.2.1
  have a0 := R.2.2.1.1.2.1
  have w1 := wf1 W 0
  refine CT_of (by decide +kernel) rfl (Nat.le_of_ble_eq_true rfl) ?_
  refine J_iload_n (M := mX7_rankedAt) dX7_rankedAt_0 rfl rfl ?_
  refine Z_if_lt (M := mX7_rankedAt) (tgt := 12) (by first | assumption | exact pI_rg _ | (unfold rg; omega)) dX7_rankedAt_1 (by decide) (fun c_1 => ?_) (fun c_1 => ?_)
  · refine K_thr (M := mX7_rankedAt) rfl rfl ti_74_296_78 (by decide) (by decide) (by decide) (by decide) (Or.inr ⟨dX7_rankedAt_12, dX7_rankedAt_15, dX7_rankedAt_16, dX7_rankedAt_19, dX7_rankedAt_22⟩) ?_
    first
      | exact EM_1 (pI_f (by omega)) rfl
      | exact EM_2 (pI_n0.mpr (by omega)) (pI_f (by omega)) rfl
      | exact EM_3 (pI_n0.mpr (by omega)) (pI_n0.mpr (by omega)) (pI_f (by omega)) rfl
  · refine J_iload_n (M := mX7_rankedAt) dX7_rankedAt_4 rfl rfl ?_
    refine J_aload_n (M := mX7_rankedAt) dX7_rankedAt_5 rfl rfl ?_
    refine J_getf (M := mX7_rankedAt) dX7_rankedAt_6 fi_X7_52 (hk_1 (by first | exact rfl | assumption | exact Or.inl (by assumption) | exact Or.inr rfl | (show 0 ≤ _ ∧ _ < _; omega))) rfl ?_
    refine Z_wb (M := mX7_rankedAt) (g := ρ 1) (wk1 V) rfl (fun wb_1_7 => ?_)
    refine Z_ic_lt (M := mX7_rankedAt) (tgt := 23) (by first | assumption | exact pI_rg _ | (unfold rg; omega)) (by first | assumption | exact pI_rg _ | (unfold rg; omega)) dX7_rankedAt_9 (by decide) (fun c_9 => ?_) (fun c_9 => ?_)
    · refine J_aload_n (M := mX7_rankedAt) dX7_rankedAt_23 rfl rfl ?_
      refine J_callV (M := mX7_rankedAt) (as := []) dX7_rankedAt_24 ca_X7_287 ⟨by decide, by decide⟩ (hk_1 (by first | exact rfl | assumption | exact Or.inl (by assumption) | exact Or.inr rfl | (show 0 ≤ _ ∧ _ < _; omega))) rfl (Nat.le_of_ble_eq_true rfl) (k' := 1) (n' := 6) (by decide) (by decide) (kX7_countPools (RC_of R)) (fun v_24 h_24 hv_24 => ?_)
      obtain ⟨r_24, rfl, hv_24⟩ := hv_24
      obtain ⟨rfl, hF, hS⟩ := hv_24
      obtain ⟨V2, z1, z47, z4, z8, zS, zu, z0⟩ := Fr_HY (RC_of R) hF hS
      refine J_aload_n (M := mX7_rankedAt) dX7_rankedAt_27 rfl rfl ?_
      refine J_iload_n (M := mX7_rankedAt) dX7_rankedAt_28 rfl rfl ?_
      refine J_callV (M := mX7_rankedAt) (as := [_]) dX7_rankedAt_29 ca_X7_298 ⟨by decide, by decide⟩ (hk_1 (by first | exact rfl | assumption | exact Or.inl (by assumption) | exact Or.inr rfl | (show 0 ≤ _ ∧ _ < _; omega))) rfl (Nat.le_of_ble_eq_true rfl) (k' := 1) (n' := 6) (by decide) (by decide) (kX7_fencerInPlace (u := sm τ) V2 z1 z47 z4 z8 zS zu (by omega)) (fun v_29 h_29 hv_29 => ?_)
      obtain ⟨r_29, rfl, hv_29⟩ := hv_29
      obtain ⟨rfl, e_29⟩ := hv_29
      rw [e_29]
      refine K_iretE dX7_rankedAt_32 rfl ?_
      exact ⟨(gl_0 ⟨(by first | exact n10 | exact pI_n0.mpr (by omega)), (by first | exact n10 | exact pI_n0.mpr (by omega)), (by first | exact n10 | exact pI_n0.mpr (by omega))⟩), (by rw [z0]), RR_Fr R hF⟩
    · refine K_thr (M := mX7_rankedAt) rfl rfl ti_74_296_78 (by decide) (by decide) (by decide) (by decide) (Or.inr ⟨dX7_rankedAt_12, dX7_rankedAt_15, dX7_rankedAt_16, dX7_rankedAt_19, dX7_rankedAt_22⟩) ?_
      first
        | exact EM_1 (pI_f (by omega)) rfl
        | exact EM_2 (pI_n0.mpr (by omega)) (pI_f (by omega)) rfl
        | exact EM_3 (pI_n0.mpr (by omega)) (pI_n0.mpr (by omega)) (pI_f (by omega)) rfl
