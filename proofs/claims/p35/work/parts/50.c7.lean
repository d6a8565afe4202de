/-! THE CLASS: settle, walked -/
set_option maxRecDepth 100000 in
set_option maxHeartbeats 4000000 in
theorem st_s {X : GX} {h : LH} {ρ0 ρ τ : TS} {k n' : Nat} {Q : LO → LH → Prop} {n : Int} (S : SR ρ τ n 0) (h1 : 1 ≤ n) (h2 : n < τ 21 0) (F : FrS ρ0 ρ) (kk : ∀ u, SR u (cst τ n) (n - 1) 0 → FrS ρ0 u → J X mX4_settle 7 [some (vR (some (6, 0))), some (vR (some (5, 0))), some (vI (iI (n - 1))), none, none] [] (hk h u) k n' Q) : J X mX4_settle 7 [some (vR (some (6, 0))), some (vR (some (5, 0))), some (vI (iI n)), none, none] [] (hk h ρ) k n' Q := by
  obtain ⟨W, V, s3, s4, s5, s6, s7, s8, s9, s10, s11, s12, s13⟩ := id S
  have b21 := wf21 W 0
  have hb := s5 (66 + n) (Or.inr (by omega))
  have e13 : ρ 48 (66 + n) = 1 := hb.1.2.1
  have bL := wf22 W (2 * n)
  have bR := wf22 W (2 * n + 1)
  have bN := wf22 W n
  have bF := fnow_rg (w := (te τ (66 + n)).2.2) bL bR
  have bF2 : -2 ≤ fwin τ n ∧ fwin τ n ≤ 11 := bF
  have mN := mx_r (z := τ 22 n)
  have mF := mx_r (z := fwin τ n)
  have hw0 := SR_win S h1 h2 (by omega) rfl rfl
  have hw1 := hw0.1
  have hn8 := s8 n h1 h2
  have ha : (if 1 ≤ n ∧ n < ρ 43 0 then ρ 7 n else -1) = 66 + n := by rw [if_pos (by omega), s4 n h1 h2]
  have hl : (if 1 ≤ 2 * n ∧ 2 * n < 2 * ρ 43 0 then ρ 46 (2 * n) else -1) = mx (τ 22 (2 * n)) := by rw [if_pos (by omega), s6 _ (by omega) (by omega)]
  have hr : (if 1 ≤ 2 * n + 1 ∧ 2 * n + 1 < 2 * ts ρ 18 (66 + n) (mx (τ 22 (2 * n))) 43 0 then ts ρ 18 (66 + n) (mx (τ 22 (2 * n))) 46 (2 * n + 1) else -1) = mx (τ 22 (2 * n + 1)) := by
    show (if 1 ≤ 2 * n + 1 ∧ 2 * n + 1 < 2 * ρ 43 0 then ρ 46 (2 * n + 1) else -1) = _
    rw [if_pos (by omega), s6 _ (by omega) (by omega)]
  have V1 : WK (ts ρ 18 (66 + n) (mx (τ 22 (2 * n)))) := WK_ts V (mx_b bL)
  have V2 : WK (ts (ts ρ 18 (66 + n) (mx (τ 22 (2 * n)))) 19 (66 + n) (mx (τ 22 (2 * n + 1)))) := WK_ts V1 (mx_b bR)
  have V3 : WK (stA ρ τ n) := WK_ts V2 (mx_b bF)
  have hw : wnv (ts (ts ρ 18 (66 + n) (mx (τ 22 (2 * n)))) 19 (66 + n) (mx (τ 22 (2 * n + 1)))) τ n (66 + n) = mx (fwin τ n) := by
    have e18 : ts (ts ρ 18 (66 + n) (mx (τ 22 (2 * n)))) 19 (66 + n) (mx (τ 22 (2 * n + 1))) 18 (66 + n) = mx (τ 22 (2 * n)) := by rw [tsN (by decide), ts_self]
    have e19 : ts (ts ρ 18 (66 + n) (mx (τ 22 (2 * n)))) 19 (66 + n) (mx (τ 22 (2 * n + 1))) 19 (66 + n) = mx (τ 22 (2 * n + 1)) := ts_self
    have e43 : ts (ts ρ 18 (66 + n) (mx (τ 22 (2 * n)))) 19 (66 + n) (mx (τ 22 (2 * n + 1))) 43 0 = τ 21 0 := s3.1
    unfold wnv wfn
    rw [e18, e19, e43]
    exact hw0.2
  have hA := SR_A S h1 h2
  have hA0 : ¬ (0 ≤ τ 22 n ∧ ¬ τ 22 n = fwin τ n) → SR (stA ρ τ n) (cst τ n) (n - 1) 0 := fun q => by
    rw [if_neg q] at hA
    rw [show cst τ n = ts τ 22 n (fwin τ n) from if_neg (fun z => q z.2)]
    exact hA
  have hA1 : ¬ 2 ≤ n → SR (stA ρ τ n) (cst τ n) (n - 1) 0 := fun q => by
    rw [show cst τ n = ts τ 22 n (fwin τ n) from if_neg (fun z => q z.1)]
    have e0 : (if 0 ≤ τ 22 n ∧ ¬ τ 22 n = fwin τ n then n / 2 else 0) = 0 := by split <;> omega
    rw [e0] at hA
    exact hA
  have hA2 : 2 ≤ n → (0 ≤ τ 22 n ∧ ¬ τ 22 n = fwin τ n) → SR (drp (stA ρ τ n) (66 + n / 2)) (cst τ n) (n - 1) 0 := fun q q' => by
    rw [if_pos q'] at hA
    rw [show cst τ n = cdr (ts τ 22 n (fwin τ n)) (n / 2) from if_pos ⟨q, q'⟩]
    exact SR_B hA (by omega) (show n / 2 < τ 21 0 by omega) (by omega)
  have hF := FrS_A (τ := τ) F h1
  refine J_iload_n (M := mX4_settle) dX4_settle_7 rfl rfl ?_
  refine Z_iconst (M := mX4_settle) dX4_settle_8 ?_
  refine Z_ic_lt (M := mX4_settle) (tgt := 109) (by first | assumption | exact pI_rg _ | (unfold rg; omega)) (by first | assumption | exact pI_rg _ | (unfold rg; omega)) dX4_settle_9 (by decide) (fun c_9 => ?_) (fun c_9 => ?_)
  · omega
  · refine J_aload_n (M := mX4_settle) dX4_settle_12 rfl rfl ?_
    refine J_iload_n (M := mX4_settle) dX4_settle_13 rfl rfl ?_
    refine J_callV (M := mX4_settle) (as := [_]) dX4_settle_14 ca_X4_38 ⟨by decide, by decide⟩ (hk_6 (by first | exact rfl | assumption | exact Or.inl (by assumption) | exact Or.inr rfl | (show 0 ≤ _ ∧ _ < _; omega))) rfl (Nat.le_of_ble_eq_true rfl) (k' := k) (n' := n') (Nat.le_refl _) (Nat.le_refl _) (kX4_boutAt V (by unfold rg; omega)) (fun v_14 h_14 hv_14 => ?_)
    obtain ⟨r_14, rfl, hv_14⟩ := hv_14
    obtain ⟨rfl, e_14⟩ := hv_14
    rw [e_14]
    refine Z_rfe (M := mX4_settle) ha ?_
    refine J_astore_n (M := mX4_settle) dX4_settle_17 rfl (by decide) ?_
    refine J_aload_n (M := mX4_settle) dX4_settle_18 rfl rfl ?_
    first | refine Z_some (M := mX4_settle) (by omega) ?_ | skip
    first | refine Z_uns (M := mX4_settle) (by omega) ?_ | skip
    refine K_ifnull (tgt := 103) dX4_settle_19 (by decide) (fun c_19 => ?_) (fun c_19 => ?_)
    · omega
    · refine J_aload_n (M := mX4_settle) dX4_settle_22 rfl rfl ?_
      refine J_iload_n (M := mX4_settle) dX4_settle_23 rfl rfl ?_
      refine J_callV (M := mX4_settle) (as := [_]) dX4_settle_24 ca_X4_28 ⟨by decide, by decide⟩ (hk_6 (by first | exact rfl | assumption | exact Or.inl (by assumption) | exact Or.inr rfl | (show 0 ≤ _ ∧ _ < _; omega))) rfl (Nat.le_of_ble_eq_true rfl) (k' := k) (n' := n') (Nat.le_refl _) (Nat.le_refl _) (kX4_hasNode V (by unfold rg; omega)) (fun v_24 h_24 hv_24 => ?_)
      obtain ⟨r_24, rfl, hv_24⟩ := hv_24
      obtain ⟨rfl, e_24⟩ := hv_24
      rw [e_24]
      first
        | refine Z_pf (M := mX4_settle) (tgt := 103) dX4_settle_27 (by decide) (fun c_27 => ?_) (fun c_27 => ?_)
        | refine Z_if_eq (M := mX4_settle) (tgt := 103) (by first | assumption | exact pI_rg _ | (unfold rg; omega)) dX4_settle_27 (by decide) (fun c_27 => ?_) (fun c_27 => ?_)
      · omega
      · refine J_aload_n (M := mX4_settle) dX4_settle_30 rfl rfl ?_
        first | refine Z_some (M := mX4_settle) (by omega) ?_ | skip
        refine J_aload_n (M := mX4_settle) dX4_settle_31 rfl rfl ?_
        refine Z_iconst (M := mX4_settle) dX4_settle_32 ?_
        refine J_iload_n (M := mX4_settle) dX4_settle_33 rfl rfl ?_
        refine Z_imul (M := mX4_settle) dX4_settle_34 ?_
        refine J_callV (M := mX4_settle) (as := [_]) dX4_settle_35 ca_X4_45 ⟨by decide, by decide⟩ (hk_6 (by first | exact rfl | assumption | exact Or.inl (by assumption) | exact Or.inr rfl | (show 0 ≤ _ ∧ _ < _; omega))) rfl (Nat.le_of_ble_eq_true rfl) (k' := k) (n' := n') (Nat.le_refl _) (Nat.le_refl _) (kX4_winnerAt V (by unfold rg; omega)) (fun v_35 h_35 hv_35 => ?_)
        obtain ⟨r_35, rfl, hv_35⟩ := hv_35
        obtain ⟨rfl, e_35⟩ := hv_35
        rw [e_35]
        refine Z_eq (M := mX4_settle) hl ?_
        refine J_putI (M := mX4_settle) dX4_settle_38 fi_X4_49 (hk_13 (by first | exact rfl | assumption | exact Or.inl (by assumption) | exact Or.inr rfl | (show 0 ≤ _ ∧ _ < _; omega))) (Nat.le_of_ble_eq_true rfl) ?_
        refine Z_h (M := mX4_settle) (hkp_18 (by first | exact rfl | assumption | exact Or.inl (by assumption) | exact Or.inr rfl | (show 0 ≤ _ ∧ _ < _; omega))) ?_
        refine J_aload_n (M := mX4_settle) dX4_settle_41 rfl rfl ?_
        first | refine Z_some (M := mX4_settle) (by omega) ?_ | skip
        refine J_aload_n (M := mX4_settle) dX4_settle_42 rfl rfl ?_
        refine Z_iconst (M := mX4_settle) dX4_settle_43 ?_
        refine J_iload_n (M := mX4_settle) dX4_settle_44 rfl rfl ?_
        refine Z_imul (M := mX4_settle) dX4_settle_45 ?_
        refine Z_iconst (M := mX4_settle) dX4_settle_46 ?_
        refine Z_iadd (M := mX4_settle) dX4_settle_47 ?_
        refine J_callV (M := mX4_settle) (as := [_]) dX4_settle_48 ca_X4_45 ⟨by decide, by decide⟩ (hk_6 (by first | exact rfl | assumption | exact Or.inl (by assumption) | exact Or.inr rfl | (show 0 ≤ _ ∧ _ < _; omega))) rfl (Nat.le_of_ble_eq_true rfl) (k' := k) (n' := n') (Nat.le_refl _) (Nat.le_refl _) (kX4_winnerAt V1 (by unfold rg; omega)) (fun v_48 h_48 hv_48 => ?_)
        obtain ⟨r_48, rfl, hv_48⟩ := hv_48
        obtain ⟨rfl, e_48⟩ := hv_48
        rw [e_48]
        refine Z_eq (M := mX4_settle) hr ?_
        refine J_putI (M := mX4_settle) dX4_settle_51 fi_X4_52 (hk_13 (by first | exact rfl | assumption | exact Or.inl (by assumption) | exact Or.inr rfl | (show 0 ≤ _ ∧ _ < _; omega))) (Nat.le_of_ble_eq_true rfl) ?_
        refine Z_h (M := mX4_settle) (hkp_19 (by first | exact rfl | assumption | exact Or.inl (by assumption) | exact Or.inr rfl | (show 0 ≤ _ ∧ _ < _; omega))) ?_
        refine J_aload_n (M := mX4_settle) dX4_settle_54 rfl rfl ?_
        refine J_getf (M := mX4_settle) dX4_settle_55 fi_X4_15 (hk_6 (by first | exact rfl | assumption | exact Or.inl (by assumption) | exact Or.inr rfl | (show 0 ≤ _ ∧ _ < _; omega))) rfl ?_
        refine J_iload_n (M := mX4_settle) dX4_settle_58 rfl rfl ?_
        refine Z_iald (M := mX4_settle) dX4_settle_59 (hk_8 (by first | exact rfl | assumption | exact Or.inl (by assumption) | exact Or.inr rfl | (show 0 ≤ _ ∧ _ < _; omega))) (by decide) (by omega) (by omega) ?_
        refine Z_eq (M := mX4_settle) (sub_at ⟨by omega, by omega⟩) ?_
        refine Z_wb (M := mX4_settle) (g := ρ 46) (wk46 V) (congrArg (ρ 46) (z0 _ _)) (fun wb_46_53 => ?_)
        refine Z_eq (M := mX4_settle) (s6 n (by omega) (by omega)) ?_
        refine J_istore (M := mX4_settle) dX4_settle_60 (by decide) ?_
        refine J_aload_n (M := mX4_settle) dX4_settle_62 rfl rfl ?_
        refine J_getf (M := mX4_settle) dX4_settle_63 fi_X4_15 (hk_6 (by first | exact rfl | assumption | exact Or.inl (by assumption) | exact Or.inr rfl | (show 0 ≤ _ ∧ _ < _; omega))) rfl ?_
        refine J_iload_n (M := mX4_settle) dX4_settle_66 rfl rfl ?_
        refine J_aload_n (M := mX4_settle) dX4_settle_67 rfl rfl ?_
        refine J_iload_n (M := mX4_settle) dX4_settle_68 rfl rfl ?_
        refine J_aload_n (M := mX4_settle) dX4_settle_69 rfl rfl ?_
        first | refine Z_some (M := mX4_settle) (by omega) ?_ | skip
        refine J_callV (M := mX4_settle) (as := [_, _]) dX4_settle_70 ca_X4_55 ⟨by decide, by decide⟩ (hk_6 (by first | exact rfl | assumption | exact Or.inl (by assumption) | exact Or.inr rfl | (show 0 ≤ _ ∧ _ < _; omega))) rfl (Nat.le_of_ble_eq_true rfl) (k' := k) (n' := n') (Nat.le_refl _) (Nat.le_refl _) (kX4_winnerNow V2 W (by omega) e13 hb.1.2.2.2.1 hb.1.2.2.2.2.1 hb.2.1) (fun v_70 h_70 hv_70 => ?_)
        obtain ⟨r_70, rfl, hv_70⟩ := hv_70
        obtain ⟨rfl, e_70⟩ := hv_70
        rw [e_70]
        refine Z_eq (M := mX4_settle) hw ?_
        refine Z_iast (M := mX4_settle) dX4_settle_73 (hk_8 (by first | exact rfl | assumption | exact Or.inl (by assumption) | exact Or.inr rfl | (show 0 ≤ _ ∧ _ < _; omega))) (by decide) (by omega) (by omega) ?_
        refine Z_h (M := mX4_settle) (hkq_46 ⟨by omega, by omega⟩) ?_
        refine J_iload (M := mX4_settle) dX4_settle_74 rfl ?_
        refine Z_iconst (M := mX4_settle) dX4_settle_76 ?_
        refine Z_ic_eq (M := mX4_settle) (tgt := 103) (by have := mx_b bN; unfold rg; omega) (by unfold rg; omega) dX4_settle_77 (by decide) (fun c_77 => ?_) (fun c_77 => ?_)
        · refine Z_iinc (M := mX4_settle) dX4_settle_103 rfl (by decide) ?_
          refine J_goto (M := mX4_settle) (tgt := 7) dX4_settle_106 (by decide) ?_
          first
            | exact J_sub (kk _ (hA0 (by omega)) hF) (And.intro rfl (And.intro rfl (And.intro (vz (by omega)) trivial)))
            | exact J_sub (kk _ (hA1 (by omega)) hF) (And.intro rfl (And.intro rfl (And.intro (vz (by omega)) trivial)))
            | exact J_sub (kk _ (hA2 (by omega) (by omega)) (FrS_B hF)) (And.intro rfl (And.intro rfl (And.intro (vz (by omega)) trivial)))
        · refine J_iload (M := mX4_settle) dX4_settle_80 rfl ?_
          refine J_aload_n (M := mX4_settle) dX4_settle_82 rfl rfl ?_
          refine J_getf (M := mX4_settle) dX4_settle_83 fi_X4_15 (hk_6 (by first | exact rfl | assumption | exact Or.inl (by assumption) | exact Or.inr rfl | (show 0 ≤ _ ∧ _ < _; omega))) rfl ?_
          refine J_iload_n (M := mX4_settle) dX4_settle_86 rfl rfl ?_
          refine Z_iald (M := mX4_settle) dX4_settle_87 (hk_8 (by first | exact rfl | assumption | exact Or.inl (by assumption) | exact Or.inr rfl | (show 0 ≤ _ ∧ _ < _; omega))) (by decide) (by omega) (by omega) ?_
          refine Z_eq (M := mX4_settle) (sub_at ⟨by omega, by omega⟩) ?_
          refine Z_eq (M := mX4_settle) (congrArg _ (z0 _ _)) ?_
          refine Z_eq (M := mX4_settle) (show _ = mx (fwin τ n) from ts_self) ?_
          refine Z_ic_eq (M := mX4_settle) (tgt := 103) (by have := mx_b bN; unfold rg; omega) (by have := mx_b bF2; unfold rg; omega) dX4_settle_88 (by decide) (fun c_88 => ?_) (fun c_88 => ?_)
          · refine Z_iinc (M := mX4_settle) dX4_settle_103 rfl (by decide) ?_
            refine J_goto (M := mX4_settle) (tgt := 7) dX4_settle_106 (by decide) ?_
            first
              | exact J_sub (kk _ (hA0 (by omega)) hF) (And.intro rfl (And.intro rfl (And.intro (vz (by omega)) trivial)))
              | exact J_sub (kk _ (hA1 (by omega)) hF) (And.intro rfl (And.intro rfl (And.intro (vz (by omega)) trivial)))
              | exact J_sub (kk _ (hA2 (by omega) (by omega)) (FrS_B hF)) (And.intro rfl (And.intro rfl (And.intro (vz (by omega)) trivial)))
          · refine J_aload_n (M := mX4_settle) dX4_settle_91 rfl rfl ?_
            refine J_aload_n (M := mX4_settle) dX4_settle_92 rfl rfl ?_
            refine J_iload_n (M := mX4_settle) dX4_settle_93 rfl rfl ?_
            refine Z_iconst (M := mX4_settle) dX4_settle_94 ?_
            refine Z_idiv (M := mX4_settle) (by omega) (by first | assumption | exact pI_rg _ | (unfold rg; omega)) (by decide) (by first | assumption | exact pI_rg _ | (unfold rg; omega)) dX4_settle_95 ?_
            refine J_callV (M := mX4_settle) (as := [_]) dX4_settle_96 ca_X4_38 ⟨by decide, by decide⟩ (hk_6 (by first | exact rfl | assumption | exact Or.inl (by assumption) | exact Or.inr rfl | (show 0 ≤ _ ∧ _ < _; omega))) rfl (Nat.le_of_ble_eq_true rfl) (k' := k) (n' := n') (Nat.le_refl _) (Nat.le_refl _) (kX4_boutAt V3 (by unfold rg; omega)) (fun v_96 h_96 hv_96 => ?_)
            obtain ⟨r_96, rfl, hv_96⟩ := hv_96
            obtain ⟨rfl, e_96⟩ := hv_96
            rw [e_96]
            by_cases q2 : ¬ 2 ≤ n
            · refine Z_rfe (M := mX4_settle) (show _ = -1 from if_neg (by omega)) ?_
              refine Z_req (M := mX4_settle) (show rfo 13 (-1) = none from rfl) ?_
              refine J_aload_n (M := mX4_settle) dX4_settle_99 rfl rfl ?_
              first | refine Z_some (M := mX4_settle) (by omega) ?_ | skip
              refine J_callV (M := mX4_settle) (as := [_, _]) dX4_settle_100 ca_X4_59 ⟨by decide, by decide⟩ (hk_6 (by first | exact rfl | assumption | exact Or.inl (by assumption) | exact Or.inr rfl | (show 0 ≤ _ ∧ _ < _; omega))) rfl (Nat.le_of_ble_eq_true rfl) (k' := k) (n' := n') (Nat.le_refl _) (Nat.le_refl _) kX4_dropN (fun v_100 h_100 hv_100 => ?_)
              obtain ⟨r_100, rfl, hv_100⟩ := hv_100
              obtain ⟨rfl, e_100⟩ := hv_100
              rw [e_100]
              refine Z_iinc (M := mX4_settle) dX4_settle_103 rfl (by decide) ?_
              refine J_goto (M := mX4_settle) (tgt := 7) dX4_settle_106 (by decide) ?_
              first
                | exact J_sub (kk _ (hA0 (by omega)) hF) (And.intro rfl (And.intro rfl (And.intro (vz (by omega)) trivial)))
                | exact J_sub (kk _ (hA1 (by omega)) hF) (And.intro rfl (And.intro rfl (And.intro (vz (by omega)) trivial)))
                | exact J_sub (kk _ (hA2 (by omega) (by omega)) (FrS_B hF)) (And.intro rfl (And.intro rfl (And.intro (vz (by omega)) trivial)))
            have q3 : 1 ≤ n / 2 ∧ n / 2 < τ 21 0 := by omega
            refine Z_rfe (M := mX4_settle) (show _ = 66 + n / 2 from (if_pos (show 1 ≤ n / 2 ∧ n / 2 < ρ 43 0 by omega)).trans (s4 (n / 2) q3.1 q3.2)) ?_
            refine Z_some (M := mX4_settle) (by omega) ?_
            refine J_aload_n (M := mX4_settle) dX4_settle_99 rfl rfl ?_
            first | refine Z_some (M := mX4_settle) (by omega) ?_ | skip
            refine J_callV (M := mX4_settle) (as := [_, _]) dX4_settle_100 ca_X4_59 ⟨by decide, by decide⟩ (hk_6 (by first | exact rfl | assumption | exact Or.inl (by assumption) | exact Or.inr rfl | (show 0 ≤ _ ∧ _ < _; omega))) rfl (Nat.le_of_ble_eq_true rfl) (k' := k) (n' := n') (Nat.le_refl _) (Nat.le_refl _) (kX4_drop V3 (by omega) (s5 (66 + n / 2) (Or.inr (by omega))).1.2.1) (fun v_100 h_100 hv_100 => ?_)
            obtain ⟨r_100, rfl, hv_100⟩ := hv_100
            obtain ⟨rfl, e_100⟩ := hv_100
            rw [e_100]
            refine Z_iinc (M := mX4_settle) dX4_settle_103 rfl (by decide) ?_
            refine J_goto (M := mX4_settle) (tgt := 7) dX4_settle_106 (by decide) ?_
            first
              | exact J_sub (kk _ (hA0 (by omega)) hF) (And.intro rfl (And.intro rfl (And.intro (vz (by omega)) trivial)))
              | exact J_sub (kk _ (hA1 (by omega)) hF) (And.intro rfl (And.intro rfl (And.intro (vz (by omega)) trivial)))
              | exact J_sub (kk _ (hA2 (by omega) (by omega)) (FrS_B hF)) (And.intro rfl (And.intro rfl (And.intro (vz (by omega)) trivial)))

set_option maxRecDepth 100000 in
set_option maxHeartbeats 4000000 in
theorem st_l {X : GX} {h : LH} {ρ0 : TS} {k n' : Nat} : ∀ (m : Nat) (ρ τ : TS), SR ρ τ m 0 → (m : Int) < τ 21 0 ∨ m = 0 → FrS ρ0 ρ → J X mX4_settle 7 [some (vR (some (6, 0))), some (vR (some (5, 0))), some (vI (iI (m : Int))), none, none] [] (hk h ρ) k n' (QK h (fun v r => v = none ∧ SR r (cfd m τ) 0 0 ∧ FrS ρ0 r)) := by
  intro m
  induction m with
  | zero =>
    intro ρ τ S hm F
    refine J_iload_n (M := mX4_settle) dX4_settle_7 rfl rfl ?_
    refine Z_iconst (M := mX4_settle) dX4_settle_8 ?_
    refine Z_ic_lt (M := mX4_settle) (tgt := 109) (by first | assumption | exact pI_rg _ | (unfold rg; omega)) (by first | assumption | exact pI_rg _ | (unfold rg; omega)) dX4_settle_9 (by decide) (fun c_9 => ?_) (fun c_9 => ?_)
    · refine K_vret dX4_settle_109 rfl ?_
      exact And.intro rfl (And.intro S F)
    · omega
  | succ m ih =>
    intro ρ τ S hm F
    have e1 : (((m + 1 : Nat) : Int) - 1) = (m : Int) := by omega
    refine st_s S (by omega) (by omega) F (fun u S' F' => ?_)
    rw [e1] at S' ⊢
    have e21 : cst τ ((m + 1 : Nat) : Int) 21 = τ 21 := by
      unfold cst
      split
      · exact cdr_k (by decide)
      · rfl
    exact ih u _ S' (by rw [e21]; omega) F'

set_option maxRecDepth 100000 in
set_option maxHeartbeats 4000000 in
theorem kX4_settle {X : GX} {h : LH} {ρ τ : TS} (S : SR ρ τ (τ 21 0 - 1) 0) : CK X mX4_settle [vR (some (6, 0)), vR (some (5, 0))] h ρ (fun v r => v = none ∧ SR r (cfd (τ 21 0 - 1).toNat τ) 0 0 ∧ FrS ρ r) := by
  have V := S.2.1
  have W := S.1
  have b21 := wf21 W 0
  have s3 := S.2.2.1
  have F0 : FrS ρ ρ := ⟨fun _ _ => rfl, fun _ _ => ⟨rfl, rfl⟩⟩
  refine CT_of (by decide +kernel) rfl (Nat.le_of_ble_eq_true rfl) ?_
  by_cases q : 1 ≤ τ 21 0
  · refine J_aload_n (M := mX4_settle) dX4_settle_0 rfl rfl ?_
    refine J_getf (M := mX4_settle) dX4_settle_1 fi_X4_24 (hk_6 (by first | exact rfl | assumption | exact Or.inl (by assumption) | exact Or.inr rfl | (show 0 ≤ _ ∧ _ < _; omega))) rfl ?_
    refine Z_wb (M := mX4_settle) (g := ρ 43) (wk43 V) rfl (fun wb_43_2 => ?_)
    refine Z_iconst (M := mX4_settle) dX4_settle_4 ?_
    refine Z_isub (M := mX4_settle) dX4_settle_5 ?_
    refine J_istore_n (M := mX4_settle) dX4_settle_6 rfl (by decide) ?_
    have e0 : ρ 43 0 - 1 = (((τ 21 0 - 1).toNat : Nat) : Int) := by omega
    rw [e0]
    exact st_l (τ 21 0 - 1).toNat ρ τ (by rw [show (((τ 21 0 - 1).toNat : Nat) : Int) = τ 21 0 - 1 by omega]; exact S) (by omega) F0
  · have e0 : (τ 21 0 - 1).toNat = 0 := by omega
    have e1 : τ 21 0 = 0 := by omega
    have S0 : SR ρ τ 0 0 := by
      obtain ⟨W, V, s3, s4, s5, s6, s7, s8, s9, s10, s11, s12, s13⟩ := S
      exact ⟨W, V, s3, s4, s5, s6, fun k _ q1 q2 => absurd q2 (by omega), s8, s9, s10, s11, s12, s13⟩
    rw [e0]
    refine J_aload_n (M := mX4_settle) dX4_settle_0 rfl rfl ?_
    refine J_getf (M := mX4_settle) dX4_settle_1 fi_X4_24 (hk_6 (by first | exact rfl | assumption | exact Or.inl (by assumption) | exact Or.inr rfl | (show 0 ≤ _ ∧ _ < _; omega))) rfl ?_
    refine Z_wb (M := mX4_settle) (g := ρ 43) (wk43 V) rfl (fun wb_43_2 => ?_)
    refine Z_iconst (M := mX4_settle) dX4_settle_4 ?_
    refine Z_isub (M := mX4_settle) dX4_settle_5 ?_
    refine J_istore_n (M := mX4_settle) dX4_settle_6 rfl (by decide) ?_
    refine J_iload_n (M := mX4_settle) dX4_settle_7 rfl rfl ?_
    refine Z_iconst (M := mX4_settle) dX4_settle_8 ?_
    refine Z_ic_lt (M := mX4_settle) (tgt := 109) (by first | assumption | exact pI_rg _ | (unfold rg; omega)) (by first | assumption | exact pI_rg _ | (unfold rg; omega)) dX4_settle_9 (by decide) (fun c_9 => ?_) (fun c_9 => ?_)
    · refine K_vret dX4_settle_109 rfl ?_
      exact And.intro rfl (And.intro S0 F0)
    · omega
