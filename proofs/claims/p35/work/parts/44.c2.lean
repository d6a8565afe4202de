/-! THE CLASS: how a phrase is judged -/
set_option maxRecDepth 100000 in
set_option maxHeartbeats 4000000 in
theorem kX2_isALight {X : GX} {h : LH} {ρ τ : TS} (W : WF τ) (V : WK ρ) {p f : Int} (P : PH ρ τ p f) {e : Int} (he : 0 ≤ e ∧ e < τ 12 f) : CK X mX2_isALight [vR (some (16, p)), vI (iI e)] h ρ (fun v r => v = some (vI (iI (pI (litF (τ 0 0) (τ 15) (8 * f + e))))) ∧ r = ρ) := by
  have b0 := wf0 W 0
  have b12 := wf12 W f
  have b15 := wf15 W (8 * f + e)
  obtain ⟨h1, h2, h3, h4, h5, h6, h7, h8, h9⟩ := id P
  have h10 := h8 e he.1 he.2
  have h11 := kd_c b15
  refine CT_of (by decide +kernel) rfl (Nat.le_of_ble_eq_true rfl) ?_
  refine J_aload_n (M := mX2_isALight) dX2_isALight_0 rfl rfl ?_
  refine J_getf (M := mX2_isALight) dX2_isALight_1 fi_X2_9 (hk_16 (by first | exact rfl | assumption | exact Or.inl (by assumption) | exact Or.inr rfl | (unfold CE; omega))) rfl ?_
  refine J_iload_n (M := mX2_isALight) dX2_isALight_4 rfl rfl ?_
  refine Z_iald (M := mX2_isALight) dX2_isALight_5 (hk_17 (by first | exact rfl | assumption | exact Or.inl (by assumption) | exact Or.inr rfl | (unfold CE; omega))) (by decide) (by omega) (by omega) ?_
  refine Z_eq (M := mX2_isALight) (sub_at ⟨by omega, by omega⟩) ?_
  refine Z_wb (M := mX2_isALight) (g := ρ 30) (wk30 V) rfl (fun wb_30_5 => ?_)
  first
    | refine Z_pf (M := mX2_isALight) (tgt := 26) dX2_isALight_6 (by decide) (fun c_6 => ?_) (fun c_6 => ?_)
    | refine Z_if_eq (M := mX2_isALight) (tgt := 26) (by first | assumption | exact pI_rg _ | (unfold rg; omega)) dX2_isALight_6 (by decide) (fun c_6 => ?_) (fun c_6 => ?_)
  · refine Z_iconst (M := mX2_isALight) dX2_isALight_26 ?_
    refine J_goto (M := mX2_isALight) (tgt := 31) dX2_isALight_27 (by decide) ?_
    refine K_zret dX2_isALight_31 rfl (by first | exact pI_01 _ | exact Or.inl rfl | exact Or.inr rfl | omega) ?_
    exact And.intro (r1 (by omega)) rfl
  · refine J_aload_n (M := mX2_isALight) dX2_isALight_9 rfl rfl ?_
    refine J_getf (M := mX2_isALight) dX2_isALight_10 fi_X2_25 (hk_16 (by first | exact rfl | assumption | exact Or.inl (by assumption) | exact Or.inr rfl | (unfold CE; omega))) rfl ?_
    refine Z_wb (M := mX2_isALight) (g := ρ 27) (wk27 V) rfl (fun wb_27_13 => ?_)
    first
      | refine Z_pf (M := mX2_isALight) (tgt := 30) dX2_isALight_13 (by decide) (fun c_13 => ?_) (fun c_13 => ?_)
      | refine Z_if_eq (M := mX2_isALight) (tgt := 30) (by first | assumption | exact pI_rg _ | (unfold rg; omega)) dX2_isALight_13 (by decide) (fun c_13 => ?_) (fun c_13 => ?_)
    · refine Z_iconst (M := mX2_isALight) dX2_isALight_30 ?_
      refine K_zret dX2_isALight_31 rfl (by first | exact pI_01 _ | exact Or.inl rfl | exact Or.inr rfl | omega) ?_
      exact And.intro (r0 (by omega)) rfl
    · refine J_aload_n (M := mX2_isALight) dX2_isALight_16 rfl rfl ?_
      refine J_getf (M := mX2_isALight) dX2_isALight_17 fi_X2_9 (hk_16 (by first | exact rfl | assumption | exact Or.inl (by assumption) | exact Or.inr rfl | (unfold CE; omega))) rfl ?_
      refine J_iload_n (M := mX2_isALight) dX2_isALight_20 rfl rfl ?_
      refine Z_iald (M := mX2_isALight) dX2_isALight_21 (hk_17 (by first | exact rfl | assumption | exact Or.inl (by assumption) | exact Or.inr rfl | (unfold CE; omega))) (by decide) (by omega) (by omega) ?_
      refine Z_eq (M := mX2_isALight) (sub_at ⟨by omega, by omega⟩) ?_
      refine Z_wb (M := mX2_isALight) (g := ρ 30) (wk30 V) rfl (fun wb_30_23 => ?_)
      refine Z_iconst (M := mX2_isALight) dX2_isALight_22 ?_
      refine Z_ic_ne (M := mX2_isALight) (tgt := 30) (by first | assumption | exact pI_rg _ | (unfold rg; omega)) (by first | assumption | exact pI_rg _ | (unfold rg; omega)) dX2_isALight_23 (by decide) (fun c_23 => ?_) (fun c_23 => ?_)
      · refine Z_iconst (M := mX2_isALight) dX2_isALight_30 ?_
        refine K_zret dX2_isALight_31 rfl (by first | exact pI_01 _ | exact Or.inl rfl | exact Or.inr rfl | omega) ?_
        exact And.intro (r0 (by omega)) rfl
      · refine Z_iconst (M := mX2_isALight) dX2_isALight_26 ?_
        refine J_goto (M := mX2_isALight) (tgt := 31) dX2_isALight_27 (by decide) ?_
        refine K_zret dX2_isALight_31 rfl (by first | exact pI_01 _ | exact Or.inl rfl | exact Or.inr rfl | omega) ?_
        exact And.intro (r1 (by omega)) rfl

set_option maxRecDepth 100000 in
set_option maxHeartbeats 4000000 in
theorem fl_l {X : GX} {h : LH} {ρ τ : TS} {k n : Nat} (W : WF τ) (V : WK ρ) {p f : Int} (P : PH ρ τ p f) (hf0 : 0 ≤ f) : ∀ (m i : Nat), (i : Int) + m = τ 12 f → (jl (τ 0 0) (τ 15) (8 * f) i).1 = -1 → J X mX2_firstLight 2 [some (vR (some (16, p))), some (vI (iI i))] [] (hk h ρ) k n (QK h (fun v r => v = some (vI (iI (flv τ f))) ∧ r = ρ)) := by
  have b0 := wf0 W 0
  have b12 := wf12 W f
  obtain ⟨h1, h2, h3, h4, h5, h6, h7, h8, h9⟩ := id P
  intro m
  induction m with
  | zero =>
    intro i hi hn
    have ei : (τ 12 f).toNat = i := by omega
    have e9 : flv τ f = -1 := by unfold flv; rw [ei, if_pos hn]
    refine J_iload_n (M := mX2_firstLight) dX2_firstLight_2 rfl rfl ?_
    refine J_aload_n (M := mX2_firstLight) dX2_firstLight_3 rfl rfl ?_
    refine J_getf (M := mX2_firstLight) dX2_firstLight_4 fi_X2_36 (hk_16 (by first | exact rfl | assumption | exact Or.inl (by assumption) | exact Or.inr rfl | (unfold CE; omega))) rfl ?_
    refine Z_wb (M := mX2_firstLight) (g := ρ 33) (wk33 V) rfl (fun wb_33_3 => ?_)
    refine Z_ic_ge (M := mX2_firstLight) (tgt := 32) (by first | assumption | exact pI_rg _ | (unfold rg; omega)) (by first | assumption | exact pI_rg _ | (unfold rg; omega)) dX2_firstLight_7 (by decide) (fun c_7 => ?_) (fun c_7 => ?_)
    · refine Z_iconst (M := mX2_firstLight) dX2_firstLight_32 ?_
      refine K_iret dX2_firstLight_33 rfl ?_
      exact And.intro (by rw [e9]) rfl
    · omega
  | succ m ih =>
    intro i hi hn
    have e1 := jl_su (F := τ 0 0) (c := τ 15) (f := 8 * f) hn
    refine J_iload_n (M := mX2_firstLight) dX2_firstLight_2 rfl rfl ?_
    refine J_aload_n (M := mX2_firstLight) dX2_firstLight_3 rfl rfl ?_
    refine J_getf (M := mX2_firstLight) dX2_firstLight_4 fi_X2_36 (hk_16 (by first | exact rfl | assumption | exact Or.inl (by assumption) | exact Or.inr rfl | (unfold CE; omega))) rfl ?_
    refine Z_wb (M := mX2_firstLight) (g := ρ 33) (wk33 V) rfl (fun wb_33_3 => ?_)
    refine Z_ic_ge (M := mX2_firstLight) (tgt := 32) (by first | assumption | exact pI_rg _ | (unfold rg; omega)) (by first | assumption | exact pI_rg _ | (unfold rg; omega)) dX2_firstLight_7 (by decide) (fun c_7 => ?_) (fun c_7 => ?_)
    · omega
    · refine J_iload_n (M := mX2_firstLight) dX2_firstLight_10 rfl rfl ?_
      refine Z_bipush (M := mX2_firstLight) dX2_firstLight_11 rfl ?_
      refine Z_ic_ge (M := mX2_firstLight) (tgt := 32) (by first | assumption | exact pI_rg _ | (unfold rg; omega)) (by first | assumption | exact pI_rg _ | (unfold rg; omega)) dX2_firstLight_13 (by decide) (fun c_13 => ?_) (fun c_13 => ?_)
      · omega
      · refine J_aload_n (M := mX2_firstLight) dX2_firstLight_16 rfl rfl ?_
        refine J_iload_n (M := mX2_firstLight) dX2_firstLight_17 rfl rfl ?_
        refine J_callV (M := mX2_firstLight) (as := [_]) dX2_firstLight_18 ca_X2_72 ⟨by decide, by decide⟩ (hk_16 (by first | exact rfl | assumption | exact Or.inl (by assumption) | exact Or.inr rfl | (unfold CE; omega))) rfl (Nat.le_of_ble_eq_true rfl) (k' := k) (n' := n) (Nat.le_refl _) (Nat.le_refl _) (kX2_isALight W V P (by omega)) (fun v_18 h_18 hv_18 => ?_)
        obtain ⟨r_18, rfl, hv_18⟩ := hv_18
        obtain ⟨rfl, e_18⟩ := hv_18
        rw [e_18]
        first
          | refine Z_pf (M := mX2_firstLight) (tgt := 26) dX2_firstLight_21 (by decide) (fun c_21 => ?_) (fun c_21 => ?_)
          | refine Z_if_eq (M := mX2_firstLight) (tgt := 26) (by first | assumption | exact pI_rg _ | (unfold rg; omega)) dX2_firstLight_21 (by decide) (fun c_21 => ?_) (fun c_21 => ?_)
        · refine Z_iinc (M := mX2_firstLight) dX2_firstLight_26 rfl (by decide) ?_
          refine J_goto (M := mX2_firstLight) (tgt := 2) dX2_firstLight_29 (by decide) ?_
          have e2 : (jl (τ 0 0) (τ 15) (8 * f) (i + 1)).1 = -1 := by rw [e1, if_neg c_21]
          exact J_sub (ih (i + 1) (by omega) e2) (And.intro rfl (And.intro (vz (by push_cast; omega)) trivial))
        · refine J_iload_n (M := mX2_firstLight) dX2_firstLight_24 rfl rfl ?_
          refine K_iret dX2_firstLight_25 rfl ?_
          have e2 : (jl (τ 0 0) (τ 15) (8 * f) (τ 12 f).toNat).1 = 8 * f + i := by
            have e3 : ¬ (jl (τ 0 0) (τ 15) (8 * f) (i + 1)).1 = -1 := by rw [e1, if_pos c_21]; show ¬ (8 * f + (i : Int)) = -1; have := hf0; omega
            have e4 := jl_stay e3 m
            rw [show (τ 12 f).toNat = i + 1 + m by omega, e4, e1, if_pos c_21]
          exact And.intro (by unfold flv; rw [e2, if_neg (by omega)]; congr 3; omega) rfl

set_option maxRecDepth 100000 in
set_option maxHeartbeats 4000000 in
theorem kX2_firstLight {X : GX} {h : LH} {ρ τ : TS} (W : WF τ) (V : WK ρ) {p f : Int} (P : PH ρ τ p f) (hf0 : 0 ≤ f) : CK X mX2_firstLight [vR (some (16, p))] h ρ (fun v r => v = some (vI (iI (flv τ f))) ∧ r = ρ) := by
  have b12 := wf12 W f
  refine CT_of (by decide +kernel) rfl (Nat.le_of_ble_eq_true rfl) ?_
  refine Z_iconst (M := mX2_firstLight) dX2_firstLight_0 ?_
  refine J_istore_n (M := mX2_firstLight) dX2_firstLight_1 rfl (by decide) ?_
  exact fl_l W V P hf0 (τ 12 f).toNat 0 (by omega) rfl

set_option maxRecDepth 100000 in
set_option maxHeartbeats 4000000 in
theorem ra_l {X : GX} {h : LH} {ρ τ : TS} {k n : Nat} (W : WF τ) (V : WK ρ) {p f : Int} (P : PH ρ τ p f) {l : Int} (hl : 0 ≤ l ∧ l < τ 12 f) (hn : (jl (τ 0 0) (τ 15) (8 * f) l.toNat).1 = -1) : ∀ (m i : Nat), (i : Int) + m = l → J X mX2_rightAt 16 [some (vR (some (16, p))), some (vI (iI l)), some (vI (iI (jl (τ 0 0) (τ 15) (8 * f) i).2)), some (vI (iI i))] [] (hk h ρ) k n (QK h (fun v r => v = some (vI (iI (jl (τ 0 0) (τ 15) (8 * f) l.toNat).2)) ∧ r = ρ)) := by
  have b0 := wf0 W 0
  have b12 := wf12 W f
  obtain ⟨h1, h2, h3, h4, h5, h6, h7, h8, h9⟩ := id P
  intro m
  induction m with
  | zero =>
    intro i hi
    have ei : l.toNat = i := by omega
    refine J_iload_n (M := mX2_rightAt) dX2_rightAt_16 rfl rfl ?_
    refine J_iload_n (M := mX2_rightAt) dX2_rightAt_17 rfl rfl ?_
    refine Z_ic_ge (M := mX2_rightAt) (tgt := 50) (by first | assumption | exact pI_rg _ | (unfold rg; omega)) (by first | assumption | exact pI_rg _ | (unfold rg; omega)) dX2_rightAt_18 (by decide) (fun c_18 => ?_) (fun c_18 => ?_)
    · refine J_iload_n (M := mX2_rightAt) dX2_rightAt_50 rfl rfl ?_
      refine K_iret dX2_rightAt_51 rfl ?_
      exact And.intro (by rw [ei]) rfl
    · omega
  | succ m ih =>
    intro i hi
    have hp : (jl (τ 0 0) (τ 15) (8 * f) i).1 = -1 := jl_pre (m := m + 1) (by rw [show i + (m + 1) = l.toNat by omega]; exact hn)
    have e1 := jl_su (F := τ 0 0) (c := τ 15) (f := 8 * f) hp
    have b15 := wf15 W (8 * f + i)
    have h10 := h8 i (by omega) (by omega)
    have h11 := kd_c b15
    refine J_iload_n (M := mX2_rightAt) dX2_rightAt_16 rfl rfl ?_
    refine J_iload_n (M := mX2_rightAt) dX2_rightAt_17 rfl rfl ?_
    refine Z_ic_ge (M := mX2_rightAt) (tgt := 50) (by first | assumption | exact pI_rg _ | (unfold rg; omega)) (by first | assumption | exact pI_rg _ | (unfold rg; omega)) dX2_rightAt_18 (by decide) (fun c_18 => ?_) (fun c_18 => ?_)
    · omega
    · refine J_iload_n (M := mX2_rightAt) dX2_rightAt_21 rfl rfl ?_
      refine Z_bipush (M := mX2_rightAt) dX2_rightAt_22 rfl ?_
      refine Z_ic_ge (M := mX2_rightAt) (tgt := 50) (by first | assumption | exact pI_rg _ | (unfold rg; omega)) (by first | assumption | exact pI_rg _ | (unfold rg; omega)) dX2_rightAt_24 (by decide) (fun c_24 => ?_) (fun c_24 => ?_)
      · omega
      · refine J_aload_n (M := mX2_rightAt) dX2_rightAt_27 rfl rfl ?_
        refine J_getf (M := mX2_rightAt) dX2_rightAt_28 fi_X2_9 (hk_16 (by first | exact rfl | assumption | exact Or.inl (by assumption) | exact Or.inr rfl | (unfold CE; omega))) rfl ?_
        refine J_iload_n (M := mX2_rightAt) dX2_rightAt_31 rfl rfl ?_
        refine Z_iald (M := mX2_rightAt) dX2_rightAt_32 (hk_17 (by first | exact rfl | assumption | exact Or.inl (by assumption) | exact Or.inr rfl | (unfold CE; omega))) (by decide) (by omega) (by omega) ?_
        refine Z_eq (M := mX2_rightAt) (sub_at ⟨by omega, by omega⟩) ?_
        refine Z_wb (M := mX2_rightAt) (g := ρ 30) (wk30 V) rfl (fun wb_30_13 => ?_)
        refine Z_iconst (M := mX2_rightAt) dX2_rightAt_33 ?_
        refine Z_ic_ne (M := mX2_rightAt) (tgt := 44) (by first | assumption | exact pI_rg _ | (unfold rg; omega)) (by first | assumption | exact pI_rg _ | (unfold rg; omega)) dX2_rightAt_34 (by decide) (fun c_34 => ?_) (fun c_34 => ?_)
        · refine Z_iinc (M := mX2_rightAt) dX2_rightAt_44 rfl (by decide) ?_
          refine J_goto (M := mX2_rightAt) (tgt := 16) dX2_rightAt_47 (by decide) ?_
          exact J_sub (ih (i + 1) (by omega)) (And.intro rfl (And.intro rfl (And.intro (vz (by rw [e1]; show (if 4 ≤ τ 15 (8 * f + i) then τ 15 (8 * f + i) - 5 else _ : Int) = _; first | rw [if_pos (by omega)]; omega | rw [if_neg (by omega)])) (And.intro (vz (by push_cast; omega)) trivial))))
        · refine J_aload_n (M := mX2_rightAt) dX2_rightAt_37 rfl rfl ?_
          refine J_getf (M := mX2_rightAt) dX2_rightAt_38 fi_X2_15 (hk_16 (by first | exact rfl | assumption | exact Or.inl (by assumption) | exact Or.inr rfl | (unfold CE; omega))) rfl ?_
          refine J_iload_n (M := mX2_rightAt) dX2_rightAt_41 rfl rfl ?_
          refine Z_iald (M := mX2_rightAt) dX2_rightAt_42 (hk_18 (by first | exact rfl | assumption | exact Or.inl (by assumption) | exact Or.inr rfl | (unfold CE; omega))) (by decide) (by omega) (by omega) ?_
          refine Z_eq (M := mX2_rightAt) (sub_at ⟨by omega, by omega⟩) ?_
          refine Z_wb (M := mX2_rightAt) (g := ρ 31) (wk31 V) rfl (fun wb_31_24 => ?_)
          refine J_istore_n (M := mX2_rightAt) dX2_rightAt_43 rfl (by decide) ?_
          refine Z_iinc (M := mX2_rightAt) dX2_rightAt_44 rfl (by decide) ?_
          refine J_goto (M := mX2_rightAt) (tgt := 16) dX2_rightAt_47 (by decide) ?_
          exact J_sub (ih (i + 1) (by omega)) (And.intro rfl (And.intro rfl (And.intro (vz (by rw [e1]; show (if 4 ≤ τ 15 (8 * f + i) then τ 15 (8 * f + i) - 5 else _ : Int) = _; first | rw [if_pos (by omega)]; omega | rw [if_neg (by omega)])) (And.intro (vz (by push_cast; omega)) trivial))))

set_option maxRecDepth 100000 in
set_option maxHeartbeats 4000000 in
theorem kX2_rightAt {X : GX} {h : LH} {ρ τ : TS} (W : WF τ) (V : WK ρ) {p f : Int} (P : PH ρ τ p f) {l : Int} (hl : 0 ≤ l ∧ l < τ 12 f) (hn : (jl (τ 0 0) (τ 15) (8 * f) l.toNat).1 = -1) : CK X mX2_rightAt [vR (some (16, p)), vI (iI l)] h ρ (fun v r => v = some (vI (iI (rgv τ f l))) ∧ r = ρ) := by
  have b0 := wf0 W 0
  have b12 := wf12 W f
  obtain ⟨h1, h2, h3, h4, h5, h6, h7, h8, h9⟩ := id P
  refine CT_of (by decide +kernel) rfl (Nat.le_of_ble_eq_true rfl) ?_
  refine J_aload_n (M := mX2_rightAt) dX2_rightAt_0 rfl rfl ?_
  refine J_getf (M := mX2_rightAt) dX2_rightAt_1 fi_X2_43 (hk_16 (by first | exact rfl | assumption | exact Or.inl (by assumption) | exact Or.inr rfl | (unfold CE; omega))) rfl ?_
  refine Z_wb (M := mX2_rightAt) (g := ρ 34) (wk34 V) rfl (fun wb_34_2 => ?_)
  first
    | refine Z_pf (M := mX2_rightAt) (tgt := 12) dX2_rightAt_4 (by decide) (fun c_4 => ?_) (fun c_4 => ?_)
    | refine Z_if_eq (M := mX2_rightAt) (tgt := 12) (by first | assumption | exact pI_rg _ | (unfold rg; omega)) dX2_rightAt_4 (by decide) (fun c_4 => ?_) (fun c_4 => ?_)
  · refine Z_iconst (M := mX2_rightAt) dX2_rightAt_12 ?_
    refine J_istore_n (M := mX2_rightAt) dX2_rightAt_13 rfl (by decide) ?_
    refine Z_iconst (M := mX2_rightAt) dX2_rightAt_14 ?_
    refine J_istore_n (M := mX2_rightAt) dX2_rightAt_15 rfl (by decide) ?_
    have e9 : rgv τ f l = (jl (τ 0 0) (τ 15) (8 * f) l.toNat).2 := by unfold rgv; rw [if_pos (by omega)]
    rw [e9]
    exact ra_l W V P hl hn l.toNat 0 (by omega)
  · refine J_aload_n (M := mX2_rightAt) dX2_rightAt_7 rfl rfl ?_
    refine J_getf (M := mX2_rightAt) dX2_rightAt_8 fi_X2_21 (hk_16 (by first | exact rfl | assumption | exact Or.inl (by assumption) | exact Or.inr rfl | (unfold CE; omega))) rfl ?_
    refine Z_wb (M := mX2_rightAt) (g := ρ 35) (wk35 V) rfl (fun wb_35_11 => ?_)
    refine K_iret dX2_rightAt_11 rfl ?_
    exact And.intro (by unfold rgv; rw [if_neg (by omega), h7 (by omega)]) rfl

set_option maxRecDepth 100000 in
set_option maxHeartbeats 4000000 in
theorem kX2_touchOf {X : GX} {h : LH} {ρ τ : TS} (W : WF τ) (V : WK ρ) {p f : Int} (P : PH ρ τ p f) {l : Int} (hl : -1 ≤ l ∧ l < τ 12 f) : CK X mX2_touchOf [vR (some (16, p)), vI (iI l)] h ρ (fun v r => v = some (vI (iI (tov τ f l))) ∧ r = ρ) := by
  have b0 := wf0 W 0
  have b12 := wf12 W f
  obtain ⟨h1, h2, h3, h4, h5, h6, h7, h8, h9⟩ := id P
  have b15 := wf15 W (8 * f + l)
  have h10 : 0 ≤ l → ρ 30 (8 * p + l) = kd (τ 15 (8 * f + l)) ∧ ρ 31 (8 * p + l) = sd (τ 15 (8 * f + l)) := fun q => ⟨(h8 l q hl.2).1, (h8 l q hl.2).2.1⟩
  have h11 := kd_c b15
  refine CT_of (by decide +kernel) rfl (Nat.le_of_ble_eq_true rfl) ?_
  refine J_iload_n (M := mX2_touchOf) dX2_touchOf_0 rfl rfl ?_
  refine Z_if_lt (M := mX2_touchOf) (tgt := 19) (by first | assumption | exact pI_rg _ | (unfold rg; omega)) dX2_touchOf_1 (by decide) (fun c_1 => ?_) (fun c_1 => ?_)
  · refine Z_iconst (M := mX2_touchOf) dX2_touchOf_19 ?_
    refine K_iret dX2_touchOf_20 rfl ?_
    exact And.intro (by unfold tov; first | (rw [if_pos (by omega)]; congr 3; omega) | rw [if_neg (by omega)]) rfl
  · refine J_iload_n (M := mX2_touchOf) dX2_touchOf_4 rfl rfl ?_
    refine Z_bipush (M := mX2_touchOf) dX2_touchOf_5 rfl ?_
    refine Z_ic_ge (M := mX2_touchOf) (tgt := 19) (by first | assumption | exact pI_rg _ | (unfold rg; omega)) (by first | assumption | exact pI_rg _ | (unfold rg; omega)) dX2_touchOf_7 (by decide) (fun c_7 => ?_) (fun c_7 => ?_)
    · refine Z_iconst (M := mX2_touchOf) dX2_touchOf_19 ?_
      refine K_iret dX2_touchOf_20 rfl ?_
      exact And.intro (by unfold tov; first | (rw [if_pos (by omega)]; congr 3; omega) | rw [if_neg (by omega)]) rfl
    · refine J_aload_n (M := mX2_touchOf) dX2_touchOf_10 rfl rfl ?_
      refine J_getf (M := mX2_touchOf) dX2_touchOf_11 fi_X2_9 (hk_16 (by first | exact rfl | assumption | exact Or.inl (by assumption) | exact Or.inr rfl | (unfold CE; omega))) rfl ?_
      refine J_iload_n (M := mX2_touchOf) dX2_touchOf_14 rfl rfl ?_
      refine Z_iald (M := mX2_touchOf) dX2_touchOf_15 (hk_17 (by first | exact rfl | assumption | exact Or.inl (by assumption) | exact Or.inr rfl | (unfold CE; omega))) (by decide) (by omega) (by omega) ?_
      refine Z_eq (M := mX2_touchOf) (sub_at ⟨by omega, by omega⟩) ?_
      refine Z_wb (M := mX2_touchOf) (g := ρ 30) (wk30 V) rfl (fun wb_30_16 => ?_)
      first
        | refine Z_pf (M := mX2_touchOf) (tgt := 21) dX2_touchOf_16 (by decide) (fun c_16 => ?_) (fun c_16 => ?_)
        | refine Z_if_eq (M := mX2_touchOf) (tgt := 21) (by first | assumption | exact pI_rg _ | (unfold rg; omega)) dX2_touchOf_16 (by decide) (fun c_16 => ?_) (fun c_16 => ?_)
      · refine J_aload_n (M := mX2_touchOf) dX2_touchOf_21 rfl rfl ?_
        refine J_getf (M := mX2_touchOf) dX2_touchOf_22 fi_X2_15 (hk_16 (by first | exact rfl | assumption | exact Or.inl (by assumption) | exact Or.inr rfl | (unfold CE; omega))) rfl ?_
        refine J_iload_n (M := mX2_touchOf) dX2_touchOf_25 rfl rfl ?_
        refine Z_iald (M := mX2_touchOf) dX2_touchOf_26 (hk_18 (by first | exact rfl | assumption | exact Or.inl (by assumption) | exact Or.inr rfl | (unfold CE; omega))) (by decide) (by omega) (by omega) ?_
        refine Z_eq (M := mX2_touchOf) (sub_at ⟨by omega, by omega⟩) ?_
        refine Z_wb (M := mX2_touchOf) (g := ρ 31) (wk31 V) rfl (fun wb_31_23 => ?_)
        first
          | refine Z_pt (M := mX2_touchOf) (tgt := 34) dX2_touchOf_27 (by decide) (fun c_27 => ?_) (fun c_27 => ?_)
          | refine Z_if_ne (M := mX2_touchOf) (tgt := 34) (by first | assumption | exact pI_rg _ | (unfold rg; omega)) dX2_touchOf_27 (by decide) (fun c_27 => ?_) (fun c_27 => ?_)
        · refine Z_iconst (M := mX2_touchOf) dX2_touchOf_34 ?_
          refine K_iret dX2_touchOf_35 rfl ?_
          exact And.intro (by unfold tov; first | (rw [if_pos (by omega)]; congr 3; omega) | rw [if_neg (by omega)]) rfl
        · refine Z_iconst (M := mX2_touchOf) dX2_touchOf_30 ?_
          refine J_goto (M := mX2_touchOf) (tgt := 35) dX2_touchOf_31 (by decide) ?_
          refine K_iret dX2_touchOf_35 rfl ?_
          exact And.intro (by unfold tov; first | (rw [if_pos (by omega)]; congr 3; omega) | rw [if_neg (by omega)]) rfl
      · refine Z_iconst (M := mX2_touchOf) dX2_touchOf_19 ?_
        refine K_iret dX2_touchOf_20 rfl ?_
        exact And.intro (by unfold tov; first | (rw [if_pos (by omega)]; congr 3; omega) | rw [if_neg (by omega)]) rfl

set_option maxRecDepth 100000 in
set_option maxHeartbeats 4000000 in
theorem ol_l {X : GX} {h : LH} {ρ τ : TS} {k n : Nat} (W : WF τ) (V : WK ρ) {p f : Int} (P : PH ρ τ p f) (hf0 : 0 ≤ f) {l : Int} (hl : 0 ≤ l ∧ l < τ 12 f) (hs : τ 15 (8 * f + l) < 4) : ∀ (m i : Nat), l + 1 + i + m = τ 12 f → (jsv τ f l i = -1 ∨ (8 * f + l < jsv τ f l i ∧ jsv τ f l i < 8 * f + l + 1 + i ∧ lko τ < τ 16 (jsv τ f l i) - τ 16 (8 * f + l))) → J X mX2_otherLight 20 [some (vR (some (16, p))), some (vI (iI l)), some (vI (iI (lko τ))), some (vI (iI (l + 1 + i))), none] [] (hk h ρ) k n (QK h (fun v r => v = some (vI (iI (olv τ f l))) ∧ r = ρ)) := by
  have b0 := wf0 W 0
  have b12 := wf12 W f
  obtain ⟨h1, h2, h3, h4, h5, h6, h7, h8, h9⟩ := id P
  have bl : lko τ = 40 ∨ lko τ = 300 := by unfold lko; split <;> omega
  have hl10 := h8 l hl.1 hl.2
  have bl15 := wf15 W (8 * f + l)
  have hl11 := kd_c bl15
  have bl16 := wf16 W (8 * f + l)
  intro m
  induction m with
  | zero =>
    intro i hi hn
    have ei : (τ 12 f - l - 1).toNat = i := by omega
    have e9 : olv τ f l = -1 := by unfold olv; rw [ei, if_pos (by omega)]
    refine J_iload_n (M := mX2_otherLight) dX2_otherLight_20 rfl rfl ?_
    refine J_aload_n (M := mX2_otherLight) dX2_otherLight_21 rfl rfl ?_
    refine J_getf (M := mX2_otherLight) dX2_otherLight_22 fi_X2_36 (hk_16 (by first | exact rfl | assumption | exact Or.inl (by assumption) | exact Or.inr rfl | (unfold CE; omega))) rfl ?_
    refine Z_wb (M := mX2_otherLight) (g := ρ 33) (wk33 V) rfl (fun wb_33_3 => ?_)
    refine Z_ic_ge (M := mX2_otherLight) (tgt := 94) (by first | assumption | exact pI_rg _ | (unfold rg; omega)) (by first | assumption | exact pI_rg _ | (unfold rg; omega)) dX2_otherLight_25 (by decide) (fun c_25 => ?_) (fun c_25 => ?_)
    · refine Z_iconst (M := mX2_otherLight) dX2_otherLight_94 ?_
      refine K_iret dX2_otherLight_95 rfl ?_
      exact And.intro (by rw [e9]) rfl
    · omega
  | succ m ih =>
    intro i hi hn
    have b15 := wf15 W (8 * f + (l + 1 + i))
    have b16 := wf16 W (8 * f + (l + 1 + i))
    have h10 := h8 (l + 1 + i) (by omega) (by omega)
    have h11 := kd_c b15
    have ex : 8 * f + l + 1 + (i : Int) = 8 * f + (l + 1 + i) := by omega
    have e1 : jsv τ f l i = -1 → jsv τ f l (i + 1) = if cntF (τ 0 0) (τ 15) (8 * f + (l + 1 + i)) (1 - τ 15 (8 * f + l) / 2) then 8 * f + (l + 1 + i) else -1 := fun q => by
      have := js_su (F := τ 0 0) (c := τ 15) (s := τ 15 (8 * f + l) / 2) (f := 8 * f + l) q
      rw [ex] at this
      exact this
    have e2 : ¬ jsv τ f l i = -1 → jsv τ f l (i + 1) = jsv τ f l i := fun q => js_stay q 1
    have hmono : ∀ z, 8 * f + l < z → z < 8 * f + (l + 1 + i) → τ 16 z ≤ τ 16 (8 * f + (l + 1 + i)) := fun z q1 q2 => by
      have := h9 (z - 8 * f) (l + 1 + i) (by omega) (by omega) (by omega)
      rw [show 8 * f + (z - 8 * f) = z by omega] at this
      exact this
    have hgo : (jsv τ f l (i + 1) = -1 ∨ (8 * f + l < jsv τ f l (i + 1) ∧ jsv τ f l (i + 1) < 8 * f + l + 1 + (i + 1 : Nat) ∧ lko τ < τ 16 (jsv τ f l (i + 1)) - τ 16 (8 * f + l))) → J X mX2_otherLight 20 [some (vR (some (16, p))), some (vI (iI l)), some (vI (iI (lko τ))), some (vI (iI (l + 1 + i + 1))), none] [] (hk h ρ) k n (QK h (fun v r => v = some (vI (iI (olv τ f l))) ∧ r = ρ)) := fun q => J_sub (ih (i + 1) (by omega) q) (And.intro rfl (And.intro rfl (And.intro rfl (And.intro (vz (by push_cast; omega)) trivial))))
    refine J_iload_n (M := mX2_otherLight) dX2_otherLight_20 rfl rfl ?_
    refine J_aload_n (M := mX2_otherLight) dX2_otherLight_21 rfl rfl ?_
    refine J_getf (M := mX2_otherLight) dX2_otherLight_22 fi_X2_36 (hk_16 (by first | exact rfl | assumption | exact Or.inl (by assumption) | exact Or.inr rfl | (unfold CE; omega))) rfl ?_
    refine Z_wb (M := mX2_otherLight) (g := ρ 33) (wk33 V) rfl (fun wb_33_3 => ?_)
    refine Z_ic_ge (M := mX2_otherLight) (tgt := 94) (by first | assumption | exact pI_rg _ | (unfold rg; omega)) (by first | assumption | exact pI_rg _ | (unfold rg; omega)) dX2_otherLight_25 (by decide) (fun c_25 => ?_) (fun c_25 => ?_)
    · omega
    · refine J_iload_n (M := mX2_otherLight) dX2_otherLight_28 rfl rfl ?_
      refine Z_bipush (M := mX2_otherLight) dX2_otherLight_29 rfl ?_
      refine Z_ic_ge (M := mX2_otherLight) (tgt := 94) (by first | assumption | exact pI_rg _ | (unfold rg; omega)) (by first | assumption | exact pI_rg _ | (unfold rg; omega)) dX2_otherLight_31 (by decide) (fun c_31 => ?_) (fun c_31 => ?_)
      · omega
      · refine Z_bj (M := mX2_otherLight) (pcB := 56) (τ 16 (8 * f + (l + 1 + i)) - τ 16 (8 * f + l) ≤ lko τ) (fun hj_56 => ?_) ?_
        · refine J_aload_n (M := mX2_otherLight) dX2_otherLight_34 rfl rfl ?_
          refine J_getf (M := mX2_otherLight) dX2_otherLight_35 fi_X2_18 (hk_16 (by first | exact rfl | assumption | exact Or.inl (by assumption) | exact Or.inr rfl | (unfold CE; omega))) rfl ?_
          refine J_iload_n (M := mX2_otherLight) dX2_otherLight_38 rfl rfl ?_
          refine Z_iald (M := mX2_otherLight) dX2_otherLight_39 (hk_19 (by first | exact rfl | assumption | exact Or.inl (by assumption) | exact Or.inr rfl | (unfold CE; omega))) (by decide) (by omega) (by omega) ?_
          refine Z_eq (M := mX2_otherLight) (sub_at ⟨by omega, by omega⟩) ?_
          refine Z_wb (M := mX2_otherLight) (g := ρ 32) (wk32 V) rfl (fun wb_32_5 => ?_)
          refine J_aload_n (M := mX2_otherLight) dX2_otherLight_40 rfl rfl ?_
          refine J_getf (M := mX2_otherLight) dX2_otherLight_41 fi_X2_18 (hk_16 (by first | exact rfl | assumption | exact Or.inl (by assumption) | exact Or.inr rfl | (unfold CE; omega))) rfl ?_
          refine J_iload_n (M := mX2_otherLight) dX2_otherLight_44 rfl rfl ?_
          refine Z_iald (M := mX2_otherLight) dX2_otherLight_45 (hk_19 (by first | exact rfl | assumption | exact Or.inl (by assumption) | exact Or.inr rfl | (unfold CE; omega))) (by decide) (by omega) (by omega) ?_
          refine Z_eq (M := mX2_otherLight) (sub_at ⟨by omega, by omega⟩) ?_
          refine Z_wb (M := mX2_otherLight) (g := ρ 32) (wk32 V) rfl (fun wb_32_11 => ?_)
          refine Z_isub (M := mX2_otherLight) dX2_otherLight_46 ?_
          refine J_iload_n (M := mX2_otherLight) dX2_otherLight_47 rfl rfl ?_
          refine Z_ic_gt (M := mX2_otherLight) (tgt := 55) (by first | assumption | exact pI_rg _ | (unfold rg; omega)) (by first | assumption | exact pI_rg _ | (unfold rg; omega)) dX2_otherLight_48 (by decide) (fun c_48 => ?_) (fun c_48 => ?_)
          · refine Z_iconst (M := mX2_otherLight) dX2_otherLight_55 ?_
            exact hj_56 _ (pI_f (by omega)).symm
          · refine Z_iconst (M := mX2_otherLight) dX2_otherLight_51 ?_
            refine J_goto (M := mX2_otherLight) (tgt := 56) dX2_otherLight_52 (by decide) ?_
            exact hj_56 _ (pI_t (by omega)).symm
        refine J_istore (M := mX2_otherLight) dX2_otherLight_56 (by decide) ?_
        refine J_iload (M := mX2_otherLight) dX2_otherLight_58 rfl ?_
        first
          | refine Z_pf (M := mX2_otherLight) (tgt := 88) dX2_otherLight_60 (by decide) (fun c_60 => ?_) (fun c_60 => ?_)
          | refine Z_if_eq (M := mX2_otherLight) (tgt := 88) (by first | assumption | exact pI_rg _ | (unfold rg; omega)) dX2_otherLight_60 (by decide) (fun c_60 => ?_) (fun c_60 => ?_)
        · refine Z_iinc (M := mX2_otherLight) dX2_otherLight_88 rfl (by decide) ?_
          refine J_goto (M := mX2_otherLight) (tgt := 20) dX2_otherLight_91 (by decide) ?_
          refine J_sub (M := mX2_otherLight) (hgo ?_) (And.intro rfl (And.intro rfl (And.intro rfl (And.intro rfl trivial))))
          by_cases q0 : jsv τ f l i = -1
          · have e4 := e1 q0
            by_cases q1 : cntF (τ 0 0) (τ 15) (8 * f + (l + 1 + i)) (1 - τ 15 (8 * f + l) / 2)
            · rw [if_pos q1] at e4
              rw [e4]
              right
              omega
            · rw [if_neg q1] at e4
              exact Or.inl e4
          · rw [e2 q0]
            rcases hn with q | ⟨q1, q2, q3⟩
            · exact absurd q q0
            · right
              omega
        · refine J_aload_n (M := mX2_otherLight) dX2_otherLight_63 rfl rfl ?_
          refine J_iload_n (M := mX2_otherLight) dX2_otherLight_64 rfl rfl ?_
          refine J_callV (M := mX2_otherLight) (as := [_]) dX2_otherLight_65 ca_X2_72 ⟨by decide, by decide⟩ (hk_16 (by first | exact rfl | assumption | exact Or.inl (by assumption) | exact Or.inr rfl | (unfold CE; omega))) rfl (Nat.le_of_ble_eq_true rfl) (k' := k) (n' := n) (Nat.le_refl _) (Nat.le_refl _) (kX2_isALight W V P (by omega)) (fun v_65 h_65 hv_65 => ?_)
          obtain ⟨r_65, rfl, hv_65⟩ := hv_65
          obtain ⟨rfl, e_65⟩ := hv_65
          rw [e_65]
          first
            | refine Z_pf (M := mX2_otherLight) (tgt := 88) dX2_otherLight_68 (by decide) (fun c_68 => ?_) (fun c_68 => ?_)
            | refine Z_if_eq (M := mX2_otherLight) (tgt := 88) (by first | assumption | exact pI_rg _ | (unfold rg; omega)) dX2_otherLight_68 (by decide) (fun c_68 => ?_) (fun c_68 => ?_)
          · refine Z_iinc (M := mX2_otherLight) dX2_otherLight_88 rfl (by decide) ?_
            refine J_goto (M := mX2_otherLight) (tgt := 20) dX2_otherLight_91 (by decide) ?_
            refine J_sub (M := mX2_otherLight) (hgo ?_) (And.intro rfl (And.intro rfl (And.intro rfl (And.intro rfl trivial))))
            by_cases q0 : jsv τ f l i = -1
            · have e4 := e1 q0
              by_cases q1 : cntF (τ 0 0) (τ 15) (8 * f + (l + 1 + i)) (1 - τ 15 (8 * f + l) / 2)
              · rw [if_pos q1] at e4
                rw [e4]
                right
                omega
              · rw [if_neg q1] at e4
                exact Or.inl e4
            · rw [e2 q0]
              rcases hn with q | ⟨q1, q2, q3⟩
              · exact absurd q q0
              · right
                omega
          · refine J_aload_n (M := mX2_otherLight) dX2_otherLight_71 rfl rfl ?_
            refine J_getf (M := mX2_otherLight) dX2_otherLight_72 fi_X2_15 (hk_16 (by first | exact rfl | assumption | exact Or.inl (by assumption) | exact Or.inr rfl | (unfold CE; omega))) rfl ?_
            refine J_iload_n (M := mX2_otherLight) dX2_otherLight_75 rfl rfl ?_
            refine Z_iald (M := mX2_otherLight) dX2_otherLight_76 (hk_18 (by first | exact rfl | assumption | exact Or.inl (by assumption) | exact Or.inr rfl | (unfold CE; omega))) (by decide) (by omega) (by omega) ?_
            refine Z_eq (M := mX2_otherLight) (sub_at ⟨by omega, by omega⟩) ?_
            refine Z_wb (M := mX2_otherLight) (g := ρ 31) (wk31 V) rfl (fun wb_31_31 => ?_)
            refine J_aload_n (M := mX2_otherLight) dX2_otherLight_77 rfl rfl ?_
            refine J_getf (M := mX2_otherLight) dX2_otherLight_78 fi_X2_15 (hk_16 (by first | exact rfl | assumption | exact Or.inl (by assumption) | exact Or.inr rfl | (unfold CE; omega))) rfl ?_
            refine J_iload_n (M := mX2_otherLight) dX2_otherLight_81 rfl rfl ?_
            refine Z_iald (M := mX2_otherLight) dX2_otherLight_82 (hk_18 (by first | exact rfl | assumption | exact Or.inl (by assumption) | exact Or.inr rfl | (unfold CE; omega))) (by decide) (by omega) (by omega) ?_
            refine Z_eq (M := mX2_otherLight) (sub_at ⟨by omega, by omega⟩) ?_
            refine Z_wb (M := mX2_otherLight) (g := ρ 31) (wk31 V) rfl (fun wb_31_37 => ?_)
            refine Z_ic_eq (M := mX2_otherLight) (tgt := 88) (by first | assumption | exact pI_rg _ | (unfold rg; omega)) (by first | assumption | exact pI_rg _ | (unfold rg; omega)) dX2_otherLight_83 (by decide) (fun c_83 => ?_) (fun c_83 => ?_)
            · refine Z_iinc (M := mX2_otherLight) dX2_otherLight_88 rfl (by decide) ?_
              refine J_goto (M := mX2_otherLight) (tgt := 20) dX2_otherLight_91 (by decide) ?_
              refine J_sub (M := mX2_otherLight) (hgo ?_) (And.intro rfl (And.intro rfl (And.intro rfl (And.intro rfl trivial))))
              by_cases q0 : jsv τ f l i = -1
              · have e4 := e1 q0
                by_cases q1 : cntF (τ 0 0) (τ 15) (8 * f + (l + 1 + i)) (1 - τ 15 (8 * f + l) / 2)
                · rw [if_pos q1] at e4
                  rw [e4]
                  right
                  omega
                · rw [if_neg q1] at e4
                  exact Or.inl e4
              · rw [e2 q0]
                rcases hn with q | ⟨q1, q2, q3⟩
                · exact absurd q q0
                · right
                  omega
            · refine J_iload_n (M := mX2_otherLight) dX2_otherLight_86 rfl rfl ?_
              refine K_iret dX2_otherLight_87 rfl ?_
              have e3 : jsv τ f l i = -1 := by
                rcases hn with q | ⟨q1, q2, q3⟩
                · exact q
                · have := hmono _ q1 (by omega)
                  omega
              have e4 := e1 e3
              rw [if_pos (by omega)] at e4
              have e5 := js_pre (F := τ 0 0) (c := τ 15) (s := τ 15 (8 * f + l) / 2) (f := 8 * f + l) (i := i + 1) (show ¬ jsv τ f l (i + 1) = -1 by omega) (n := (τ 12 f - l - 1).toNat) (by omega)
              have e6 : jsv τ f l (τ 12 f - l - 1).toNat = 8 * f + (l + 1 + i) := e5.trans e4
              exact And.intro (by unfold olv; rw [e6, if_neg (by omega)]; congr 3; omega) rfl

set_option maxRecDepth 100000 in
set_option maxHeartbeats 4000000 in
theorem kX2_otherLight {X : GX} {h : LH} {ρ τ : TS} (W : WF τ) (V : WK ρ) {p f : Int} (P : PH ρ τ p f) (hf0 : 0 ≤ f) {l : Int} (hl : 0 ≤ l ∧ l < τ 12 f) (hs : τ 15 (8 * f + l) < 4) : CK X mX2_otherLight [vR (some (16, p)), vI (iI l)] h ρ (fun v r => v = some (vI (iI (olv τ f l))) ∧ r = ρ) := by
  have b0 := wf0 W 0
  have b12 := wf12 W f
  obtain ⟨h1, h2, h3, h4, h5, h6, h7, h8, h9⟩ := id P
  refine CT_of (by decide +kernel) rfl (Nat.le_of_ble_eq_true rfl) ?_
  refine Z_ij (M := mX2_otherLight) (pcB := 15) (lko τ) (fun hj_15 => ?_) ?_
  · refine J_aload_n (M := mX2_otherLight) dX2_otherLight_0 rfl rfl ?_
    refine J_getf (M := mX2_otherLight) dX2_otherLight_1 fi_X2_25 (hk_16 (by first | exact rfl | assumption | exact Or.inl (by assumption) | exact Or.inr rfl | (unfold CE; omega))) rfl ?_
    refine Z_wb (M := mX2_otherLight) (g := ρ 27) (wk27 V) rfl (fun wb_27_2 => ?_)
    first
      | refine Z_pf (M := mX2_otherLight) (tgt := 13) dX2_otherLight_4 (by decide) (fun c_4 => ?_) (fun c_4 => ?_)
      | refine Z_if_eq (M := mX2_otherLight) (tgt := 13) (by first | assumption | exact pI_rg _ | (unfold rg; omega)) dX2_otherLight_4 (by decide) (fun c_4 => ?_) (fun c_4 => ?_)
    · refine Z_bipush (M := mX2_otherLight) dX2_otherLight_13 rfl ?_
      exact hj_15 _ (by unfold lko; first | rw [if_pos (by omega)] | rw [if_neg (by omega)])
    · refine Z_sipush (M := mX2_otherLight) dX2_otherLight_7 rfl ?_
      refine J_goto (M := mX2_otherLight) (tgt := 15) dX2_otherLight_10 (by decide) ?_
      exact hj_15 _ (by unfold lko; first | rw [if_pos (by omega)] | rw [if_neg (by omega)])
  refine J_istore_n (M := mX2_otherLight) dX2_otherLight_15 rfl (by decide) ?_
  refine J_iload_n (M := mX2_otherLight) dX2_otherLight_16 rfl rfl ?_
  refine Z_iconst (M := mX2_otherLight) dX2_otherLight_17 ?_
  refine Z_iadd (M := mX2_otherLight) dX2_otherLight_18 ?_
  refine J_istore_n (M := mX2_otherLight) dX2_otherLight_19 rfl (by decide) ?_
  exact J_sub (ol_l W V P hf0 hl hs (τ 12 f - l - 1).toNat 0 (by omega) (Or.inl rfl)) (And.intro rfl (And.intro rfl (And.intro rfl (And.intro (vz (by omega)) trivial))))
