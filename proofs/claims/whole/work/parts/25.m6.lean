/-! THE REFERENCE: the calls that it answers -/
theorem Z_bj {X : GX} {M : MI} {pc pcB : Nat} {ls : List (Option LV)} {st : List LV} {h : LH} {k n : Nat} {Q : LO → LH → Prop} (p : Prop) (hh : (∀ x : Int, x = pI p → J X M pcB ls (vI (iI x) :: st) h k n Q) → J X M pc ls st h k n Q) (kk : J X M pcB ls (vI (iI (pI p)) :: st) h k n Q) : J X M pc ls st h k n Q := hh (fun x e => e ▸ kk)
theorem pI_n0 {p : Prop} : ¬ pI p = 0 ↔ p := ⟨fun e => Classical.byContradiction fun h => e (pI_f h), fun h e => by rw [pI_t h] at e; omega⟩
theorem gl_0 {a b c : Int} (h : ¬ a = 0 ∧ ¬ b = 0 ∧ ¬ c = 0) : gl a b c = 0 := by unfold gl; rw [if_neg h.1, if_neg h.2.1, if_neg h.2.2]
theorem gl_n {a b c : Int} (h : ¬ (¬ a = 0 ∧ ¬ b = 0 ∧ ¬ c = 0)) : ¬ gl a b c = 0 := by
  unfold gl
  split
  · omega
  · split
    · omega
    · split
      · omega
      · omega
theorem gl_rg {a b c : Int} : 0 ≤ gl a b c ∧ gl a b c ≤ 3 := by
  unfold gl
  split
  · omega
  · split
    · omega
    · split <;> omega
/-- the answer of a call: refused with the number g, the state else as it was; or v, and t -/
def ans (τ : TS) (g : Int) (v : Int) (t : TS) (r : Option LV) (u : TS) : Prop := (¬ g = 0 ∧ r = some (vI (iI 0)) ∧ u = ts τ 33 0 g) ∨ (g = 0 ∧ r = some (vI (iI v)) ∧ u = t)
set_option maxRecDepth 100000 in
set_option maxHeartbeats 4000000 in
theorem c_fencers {X : GX} {h : LH} {τ : TS} (W : WF τ) : CM X mX8_fencers [] h τ (fun v t => v = some (vI (iI (τ 1 0))) ∧ t = ts τ 33 0 0) := by
  refine CM_of (by decide +kernel) rfl (Nat.le_of_ble_eq_true rfl) ?_
  refine J_aload_n (M := mX8_fencers) dX8_fencers_0 rfl rfl ?_
  refine Z_iconst (M := mX8_fencers) dX8_fencers_1 ?_
  refine M_puti (M := mX8_fencers) dX8_fencers_2 fi_X8_79 rfl (by decide) rfl ?_
  refine J_aload_n (M := mX8_fencers) dX8_fencers_5 rfl rfl ?_
  refine M_get (M := mX8_fencers) dX8_fencers_6 fi_X8_82 rfl ?_
  refine Z_eq (M := mX8_fencers) (b := τ 1 0) rfl ?_
  refine M_iret (M := mX8_fencers) dX8_fencers_9 rfl ?_
  exact And.intro rfl rfl

set_option maxRecDepth 100000 in
set_option maxHeartbeats 4000000 in
theorem c_piste {X : GX} {h : LH} {τ : TS} (W : WF τ) : CM X mX8_piste [] h τ (fun v t => v = some (vI (iI (τ 17 0))) ∧ t = ts τ 33 0 0) := by
  refine CM_of (by decide +kernel) rfl (Nat.le_of_ble_eq_true rfl) ?_
  refine J_aload_n (M := mX8_piste) dX8_piste_0 rfl rfl ?_
  refine Z_iconst (M := mX8_piste) dX8_piste_1 ?_
  refine M_puti (M := mX8_piste) dX8_piste_2 fi_X8_79 rfl (by decide) rfl ?_
  refine J_aload_n (M := mX8_piste) dX8_piste_5 rfl rfl ?_
  refine M_get (M := mX8_piste) dX8_piste_6 fi_X8_47 rfl ?_
  refine Z_eq (M := mX8_piste) (b := τ 17 0) rfl ?_
  refine M_iret (M := mX8_piste) dX8_piste_9 rfl ?_
  exact And.intro rfl rfl

set_option maxRecDepth 100000 in
set_option maxHeartbeats 4000000 in
theorem c_isFencing {X : GX} {h : LH} {τ : TS} (W : WF τ) : CM X mX8_isFencing [] h τ (fun v t => v = some (vI (iI (τ 19 0))) ∧ t = ts τ 33 0 0) := by
  have b1 := wf19 W 0
  refine CM_of (by decide +kernel) rfl (Nat.le_of_ble_eq_true rfl) ?_
  refine J_aload_n (M := mX8_isFencing) dX8_isFencing_0 rfl rfl ?_
  refine Z_iconst (M := mX8_isFencing) dX8_isFencing_1 ?_
  refine M_puti (M := mX8_isFencing) dX8_isFencing_2 fi_X8_79 rfl (by decide) rfl ?_
  refine J_aload_n (M := mX8_isFencing) dX8_isFencing_5 rfl rfl ?_
  refine M_get (M := mX8_isFencing) dX8_isFencing_6 fi_X8_112 rfl ?_
  refine Z_eq (M := mX8_isFencing) (b := τ 19 0) rfl ?_
  refine M_zret (M := mX8_isFencing) dX8_isFencing_9 rfl (by first | exact pI_01 _ | exact Or.inl rfl | exact Or.inr rfl | omega) ?_
  exact And.intro rfl rfl

set_option maxRecDepth 100000 in
set_option maxHeartbeats 4000000 in
theorem c_poolBouts {X : GX} {h : LH} {τ : TS} (W : WF τ) : CM X mX8_poolBouts [] h τ (fun v t => v = some (vI (iI (τ 9 0))) ∧ t = ts τ 33 0 0) := by
  refine CM_of (by decide +kernel) rfl (Nat.le_of_ble_eq_true rfl) ?_
  refine J_aload_n (M := mX8_poolBouts) dX8_poolBouts_0 rfl rfl ?_
  refine Z_iconst (M := mX8_poolBouts) dX8_poolBouts_1 ?_
  refine M_puti (M := mX8_poolBouts) dX8_poolBouts_2 fi_X8_79 rfl (by decide) rfl ?_
  refine J_aload_n (M := mX8_poolBouts) dX8_poolBouts_5 rfl rfl ?_
  refine M_get (M := mX8_poolBouts) dX8_poolBouts_6 fi_X8_92 rfl ?_
  refine Z_eq (M := mX8_poolBouts) (b := τ 9 0) rfl ?_
  refine M_iret (M := mX8_poolBouts) dX8_poolBouts_9 rfl ?_
  exact And.intro rfl rfl

set_option maxRecDepth 100000 in
set_option maxHeartbeats 4000000 in
theorem c_size {X : GX} {h : LH} {τ : TS} (W : WF τ) : CM X mX8_size [] h τ (fun v t => v = some (vI (iI (τ 21 0))) ∧ t = ts τ 33 0 0) := by
  refine CM_of (by decide +kernel) rfl (Nat.le_of_ble_eq_true rfl) ?_
  refine J_aload_n (M := mX8_size) dX8_size_0 rfl rfl ?_
  refine Z_iconst (M := mX8_size) dX8_size_1 ?_
  refine M_puti (M := mX8_size) dX8_size_2 fi_X8_79 rfl (by decide) rfl ?_
  refine J_aload_n (M := mX8_size) dX8_size_5 rfl rfl ?_
  refine M_get (M := mX8_size) dX8_size_6 fi_X8_95 rfl ?_
  refine Z_eq (M := mX8_size) (b := τ 21 0) rfl ?_
  refine M_iret (M := mX8_size) dX8_size_9 rfl ?_
  exact And.intro rfl rfl

set_option maxRecDepth 100000 in
set_option maxHeartbeats 4000000 in
theorem c_gone {X : GX} {h : LH} {τ : TS} (W : WF τ) : CM X mX8_gone [] h τ (fun v t => v = some (vI (iI (τ 24 0))) ∧ t = ts τ 33 0 0) := by
  refine CM_of (by decide +kernel) rfl (Nat.le_of_ble_eq_true rfl) ?_
  refine J_aload_n (M := mX8_gone) dX8_gone_0 rfl rfl ?_
  refine Z_iconst (M := mX8_gone) dX8_gone_1 ?_
  refine M_puti (M := mX8_gone) dX8_gone_2 fi_X8_79 rfl (by decide) rfl ?_
  refine J_aload_n (M := mX8_gone) dX8_gone_5 rfl rfl ?_
  refine M_get (M := mX8_gone) dX8_gone_6 fi_X8_142 rfl ?_
  refine Z_eq (M := mX8_gone) (b := τ 24 0) rfl ?_
  refine M_iret (M := mX8_gone) dX8_gone_9 rfl ?_
  exact And.intro rfl rfl

set_option maxRecDepth 100000 in
set_option maxHeartbeats 4000000 in
theorem c_thrown {X : GX} {h : LH} {τ : TS} : CM X mX8_thrown [] h τ (fun v t => v = some (vI (iI (τ 33 0))) ∧ t = τ) := by
  refine CM_of (by decide +kernel) rfl (Nat.le_of_ble_eq_true rfl) ?_
  refine J_aload_n (M := mX8_thrown) dX8_thrown_0 rfl rfl ?_
  refine M_get (M := mX8_thrown) dX8_thrown_1 fi_X8_79 rfl ?_
  refine M_iret (M := mX8_thrown) dX8_thrown_4 rfl ?_
  exact And.intro rfl rfl

set_option maxRecDepth 100000 in
set_option maxHeartbeats 4000000 in
theorem c_fencer {X : GX} {h : LH} {τ : TS} (W : WF τ)  : CM X mX8_fencer [] h τ (ans τ (gl (pI (τ 1 0 < 12 ∧ τ 8 0 = 0)) 1 1) (τ 1 0) (ts (ts τ 33 0 0) 1 0 (τ 1 0 + 1))) := by
  have b1 := wf1 W 0
  have b2 := wf8 W 0
  refine CM_of (by decide +kernel) rfl (Nat.le_of_ble_eq_true rfl) ?_
  refine J_aload_n (M := mX8_fencer) dX8_fencer_0 rfl rfl ?_
  refine Z_bj (M := mX8_fencer) (pcB := 22) (τ 1 0 < 12 ∧ τ 8 0 = 0) (fun hj_22 => ?_) ?_
  · refine J_aload_n (M := mX8_fencer) dX8_fencer_1 rfl rfl ?_
    refine M_get (M := mX8_fencer) dX8_fencer_2 fi_X8_82 rfl ?_
    refine Z_eq (M := mX8_fencer) (b := τ 1 0) rfl ?_
    refine Z_bipush (M := mX8_fencer) dX8_fencer_5 rfl ?_
    refine Z_ic_ge (M := mX8_fencer) (tgt := 21) (by first | assumption | exact pI_rg _ | (unfold rg; omega)) (by first | assumption | exact pI_rg _ | (unfold rg; omega)) dX8_fencer_7 (by decide) (fun c_7 => ?_) (fun c_7 => ?_)
    · refine Z_iconst (M := mX8_fencer) dX8_fencer_21 ?_
      exact hj_22 _ (pI_f (by omega)).symm
    · refine J_aload_n (M := mX8_fencer) dX8_fencer_10 rfl rfl ?_
      refine M_get (M := mX8_fencer) dX8_fencer_11 fi_X8_98 rfl ?_
      refine Z_eq (M := mX8_fencer) (b := τ 8 0) rfl ?_
      first
        | refine Z_pt (M := mX8_fencer) (tgt := 21) dX8_fencer_14 (by decide) (fun c_14 => ?_) (fun c_14 => ?_)
        | refine Z_if_ne (M := mX8_fencer) (tgt := 21) (by first | assumption | exact pI_rg _ | (unfold rg; omega)) dX8_fencer_14 (by decide) (fun c_14 => ?_) (fun c_14 => ?_)
      · refine Z_iconst (M := mX8_fencer) dX8_fencer_21 ?_
        exact hj_22 _ (pI_f (by omega)).symm
      · refine Z_iconst (M := mX8_fencer) dX8_fencer_17 ?_
        refine J_goto (M := mX8_fencer) (tgt := 22) dX8_fencer_18 (by decide) ?_
        exact hj_22 _ (pI_t (by omega)).symm
  refine Z_iconst (M := mX8_fencer) dX8_fencer_22 ?_
  refine Z_iconst (M := mX8_fencer) dX8_fencer_23 ?_
  refine M_call (M := mX8_fencer) (as := [_, _, _]) dX8_fencer_24 ca_X8_101 ⟨by decide, by decide⟩ rfl (Nat.le_of_ble_eq_true rfl) rfl rfl (c_goes (by first | assumption | exact pI_rg _ | (unfold rg; omega)) (by first | assumption | exact pI_rg _ | (unfold rg; omega)) (by first | assumption | exact pI_rg _ | (unfold rg; omega))) (fun v_24 t_24 hv_24 => ?_)
  obtain ⟨rfl, e_24⟩ := hv_24
  rw [e_24]
  have W1 : WF (ts τ 33 0 (gl (pI (τ 1 0 < 12 ∧ τ 8 0 = 0)) 1 1)) := WF_ts W gl_rg
  first
    | refine Z_pt (M := mX8_fencer) (tgt := 32) dX8_fencer_27 (by decide) (fun c_27 => ?_) (fun c_27 => ?_)
    | refine Z_if_ne (M := mX8_fencer) (tgt := 32) (by first | assumption | exact pI_rg _ | (unfold rg; omega)) dX8_fencer_27 (by decide) (fun c_27 => ?_) (fun c_27 => ?_)
  · refine J_aload_n (M := mX8_fencer) dX8_fencer_32 rfl rfl ?_
    refine J_dup (M := mX8_fencer) dX8_fencer_33 rfl ?_
    refine M_get (M := mX8_fencer) dX8_fencer_34 fi_X8_82 rfl ?_
    refine Z_eq (M := mX8_fencer) (b := τ 1 0) rfl ?_
    refine Z_iconst (M := mX8_fencer) dX8_fencer_37 ?_
    refine Z_iadd (M := mX8_fencer) dX8_fencer_38 ?_
    refine M_puti (M := mX8_fencer) dX8_fencer_39 fi_X8_82 rfl (by decide) rfl ?_
    refine J_aload_n (M := mX8_fencer) dX8_fencer_42 rfl rfl ?_
    refine M_get (M := mX8_fencer) dX8_fencer_43 fi_X8_82 rfl ?_
    refine Z_iconst (M := mX8_fencer) dX8_fencer_46 ?_
    refine Z_isub (M := mX8_fencer) dX8_fencer_47 ?_
    refine Z_eq (M := mX8_fencer) (b := τ 1 0) (by rw [ts0]; omega) ?_
    refine M_iret (M := mX8_fencer) dX8_fencer_48 rfl ?_
    exact Or.inr (And.intro (gl_0 (by assumption)) (And.intro rfl (by rw [gl_0 (by assumption)])))
  · refine Z_iconst (M := mX8_fencer) dX8_fencer_30 ?_
    refine M_iret (M := mX8_fencer) dX8_fencer_31 rfl ?_
    exact Or.inl (And.intro (gl_n (by assumption)) (And.intro rfl rfl))

set_option maxRecDepth 100000 in
set_option maxHeartbeats 4000000 in
theorem c_weapon {X : GX} {h : LH} {τ : TS} (W : WF τ) {f : Int} (hf : rg f) : CM X mX8_weapon [vI (iI f)] h τ (ans τ (gl (pI (0 ≤ f ∧ f ≤ τ 1 0 - 1)) (pI (τ 5 0 < 24)) 1) (τ 5 0) (ts (ts (ts (ts τ 33 0 0) 2 (τ 5 0) f) 3 (τ 5 0) 0) 5 0 (τ 5 0 + 1))) := by
  have b1 := wf5 W 0
  refine CM_of (by decide +kernel) rfl (Nat.le_of_ble_eq_true rfl) ?_
  refine J_aload_n (M := mX8_weapon) dX8_weapon_0 rfl rfl ?_
  refine J_aload_n (M := mX8_weapon) dX8_weapon_1 rfl rfl ?_
  refine J_iload_n (M := mX8_weapon) dX8_weapon_2 rfl rfl ?_
  refine M_call (M := mX8_weapon) (as := [_]) dX8_weapon_3 ca_X8_105 ⟨by decide, by decide⟩ rfl (Nat.le_of_ble_eq_true rfl) rfl rfl (c_isFencer W (by first | assumption | exact pI_rg _ | (unfold rg; omega))) (fun v_3 t_3 hv_3 => ?_)
  obtain ⟨rfl, e_3⟩ := hv_3
  rw [e_3]
  refine Z_bj (M := mX8_weapon) (pcB := 20) (τ 5 0 < 24) (fun hj_20 => ?_) ?_
  · refine J_aload_n (M := mX8_weapon) dX8_weapon_6 rfl rfl ?_
    refine M_get (M := mX8_weapon) dX8_weapon_7 fi_X8_89 rfl ?_
    refine Z_eq (M := mX8_weapon) (b := τ 5 0) rfl ?_
    refine Z_bipush (M := mX8_weapon) dX8_weapon_10 rfl ?_
    refine Z_ic_ge (M := mX8_weapon) (tgt := 19) (by first | assumption | exact pI_rg _ | (unfold rg; omega)) (by first | assumption | exact pI_rg _ | (unfold rg; omega)) dX8_weapon_12 (by decide) (fun c_12 => ?_) (fun c_12 => ?_)
    · refine Z_iconst (M := mX8_weapon) dX8_weapon_19 ?_
      exact hj_20 _ (pI_f (by omega)).symm
    · refine Z_iconst (M := mX8_weapon) dX8_weapon_15 ?_
      refine J_goto (M := mX8_weapon) (tgt := 20) dX8_weapon_16 (by decide) ?_
      exact hj_20 _ (pI_t (by omega)).symm
  refine Z_iconst (M := mX8_weapon) dX8_weapon_20 ?_
  refine M_call (M := mX8_weapon) (as := [_, _, _]) dX8_weapon_21 ca_X8_101 ⟨by decide, by decide⟩ rfl (Nat.le_of_ble_eq_true rfl) rfl rfl (c_goes (by first | assumption | exact pI_rg _ | (unfold rg; omega)) (by first | assumption | exact pI_rg _ | (unfold rg; omega)) (by first | assumption | exact pI_rg _ | (unfold rg; omega))) (fun v_21 t_21 hv_21 => ?_)
  obtain ⟨rfl, e_21⟩ := hv_21
  rw [e_21]
  have W1 : WF (ts τ 33 0 (gl (pI (0 ≤ f ∧ f ≤ τ 1 0 - 1)) (pI (τ 5 0 < 24)) 1)) := WF_ts W gl_rg
  first
    | refine Z_pt (M := mX8_weapon) (tgt := 29) dX8_weapon_24 (by decide) (fun c_24 => ?_) (fun c_24 => ?_)
    | refine Z_if_ne (M := mX8_weapon) (tgt := 29) (by first | assumption | exact pI_rg _ | (unfold rg; omega)) dX8_weapon_24 (by decide) (fun c_24 => ?_) (fun c_24 => ?_)
  · have hc := c_24
    simp only [pI_n0] at hc
    refine J_aload_n (M := mX8_weapon) dX8_weapon_29 rfl rfl ?_
    refine M_get (M := mX8_weapon) (v := vR (some (42, 0))) dX8_weapon_30 fi_X8_7 rfl ?_
    refine J_aload_n (M := mX8_weapon) dX8_weapon_33 rfl rfl ?_
    refine M_get (M := mX8_weapon) dX8_weapon_34 fi_X8_89 rfl ?_
    refine Z_eq (M := mX8_weapon) (b := τ 5 0) rfl ?_
    refine J_iload_n (M := mX8_weapon) dX8_weapon_37 rfl rfl ?_
    refine M_iast (M := mX8_weapon) (kf := 2) (N := 24) dX8_weapon_38 rfl rfl rfl rfl (by decide) (by decide) (by omega) (by omega) ?_
    refine J_aload_n (M := mX8_weapon) dX8_weapon_39 rfl rfl ?_
    refine M_get (M := mX8_weapon) (v := vR (some (43, 0))) dX8_weapon_40 fi_X8_13 rfl ?_
    refine J_aload_n (M := mX8_weapon) dX8_weapon_43 rfl rfl ?_
    refine M_get (M := mX8_weapon) dX8_weapon_44 fi_X8_89 rfl ?_
    refine Z_eq (M := mX8_weapon) (b := τ 5 0) rfl ?_
    refine Z_iconst (M := mX8_weapon) dX8_weapon_47 ?_
    refine M_iast (M := mX8_weapon) (kf := 3) (N := 24) dX8_weapon_48 rfl rfl rfl rfl (by decide) (by decide) (by omega) (by omega) ?_
    refine J_aload_n (M := mX8_weapon) dX8_weapon_49 rfl rfl ?_
    refine J_dup (M := mX8_weapon) dX8_weapon_50 rfl ?_
    refine M_get (M := mX8_weapon) dX8_weapon_51 fi_X8_89 rfl ?_
    refine Z_eq (M := mX8_weapon) (b := τ 5 0) rfl ?_
    refine Z_iconst (M := mX8_weapon) dX8_weapon_54 ?_
    refine Z_iadd (M := mX8_weapon) dX8_weapon_55 ?_
    refine M_puti (M := mX8_weapon) dX8_weapon_56 fi_X8_89 rfl (by decide) rfl ?_
    refine J_aload_n (M := mX8_weapon) dX8_weapon_59 rfl rfl ?_
    refine M_get (M := mX8_weapon) dX8_weapon_60 fi_X8_89 rfl ?_
    refine Z_eq (M := mX8_weapon) (b := τ 5 0 + 1) ts0 ?_
    refine Z_iconst (M := mX8_weapon) dX8_weapon_63 ?_
    refine Z_isub (M := mX8_weapon) dX8_weapon_64 ?_
    refine Z_eq (M := mX8_weapon) (b := τ 5 0) (by omega) ?_
    refine M_iret (M := mX8_weapon) dX8_weapon_65 rfl ?_
    exact Or.inr (And.intro (gl_0 (by assumption)) (And.intro rfl (by rw [gl_0 (by assumption)])))
  · refine Z_iconst (M := mX8_weapon) dX8_weapon_27 ?_
    refine M_iret (M := mX8_weapon) dX8_weapon_28 rfl ?_
    exact Or.inl (And.intro (gl_n (by assumption)) (And.intro rfl rfl))

set_option maxRecDepth 100000 in
set_option maxHeartbeats 4000000 in
theorem c_mark {X : GX} {h : LH} {τ : TS} (W : WF τ) {w : Int} (hf : rg w) : CM X mX8_mark [vI (iI w)] h τ (ans τ (gl (pI (0 ≤ w ∧ w ≤ τ 5 0 - 1)) 1 1) (τ 3 w) (ts τ 33 0 0)) := by
  have b1 := wf5 W 0
  refine CM_of (by decide +kernel) rfl (Nat.le_of_ble_eq_true rfl) ?_
  refine J_aload_n (M := mX8_mark) dX8_mark_0 rfl rfl ?_
  refine J_aload_n (M := mX8_mark) dX8_mark_1 rfl rfl ?_
  refine J_iload_n (M := mX8_mark) dX8_mark_2 rfl rfl ?_
  refine M_call (M := mX8_mark) (as := [_]) dX8_mark_3 ca_X8_109 ⟨by decide, by decide⟩ rfl (Nat.le_of_ble_eq_true rfl) rfl rfl (c_isWeapon W (by first | assumption | exact pI_rg _ | (unfold rg; omega))) (fun v_3 t_3 hv_3 => ?_)
  obtain ⟨rfl, e_3⟩ := hv_3
  rw [e_3]
  refine Z_iconst (M := mX8_mark) dX8_mark_6 ?_
  refine Z_iconst (M := mX8_mark) dX8_mark_7 ?_
  refine M_call (M := mX8_mark) (as := [_, _, _]) dX8_mark_8 ca_X8_101 ⟨by decide, by decide⟩ rfl (Nat.le_of_ble_eq_true rfl) rfl rfl (c_goes (by first | assumption | exact pI_rg _ | (unfold rg; omega)) (by first | assumption | exact pI_rg _ | (unfold rg; omega)) (by first | assumption | exact pI_rg _ | (unfold rg; omega))) (fun v_8 t_8 hv_8 => ?_)
  obtain ⟨rfl, e_8⟩ := hv_8
  rw [e_8]
  have W1 : WF (ts τ 33 0 (gl (pI (0 ≤ w ∧ w ≤ τ 5 0 - 1)) 1 1)) := WF_ts W gl_rg
  first
    | refine Z_pf (M := mX8_mark) (tgt := 23) dX8_mark_11 (by decide) (fun c_11 => ?_) (fun c_11 => ?_)
    | refine Z_if_eq (M := mX8_mark) (tgt := 23) (by first | assumption | exact pI_rg _ | (unfold rg; omega)) dX8_mark_11 (by decide) (fun c_11 => ?_) (fun c_11 => ?_)
  · refine Z_iconst (M := mX8_mark) dX8_mark_23 ?_
    refine M_iret (M := mX8_mark) dX8_mark_24 rfl ?_
    exact Or.inl (And.intro (gl_n (by assumption)) (And.intro rfl rfl))
  · have hc := c_11
    simp only [pI_n0] at hc
    refine J_aload_n (M := mX8_mark) dX8_mark_14 rfl rfl ?_
    refine M_get (M := mX8_mark) (v := vR (some (43, 0))) dX8_mark_15 fi_X8_13 rfl ?_
    refine J_iload_n (M := mX8_mark) dX8_mark_18 rfl rfl ?_
    refine M_iald (M := mX8_mark) (kf := 3) (N := 24) dX8_mark_19 rfl (by decide) (by omega) (by omega) ?_
    refine Z_eq (M := mX8_mark) (b := τ 3 _) rfl ?_
    refine J_goto (M := mX8_mark) (tgt := 24) dX8_mark_20 (by decide) ?_
    refine M_iret (M := mX8_mark) dX8_mark_24 rfl ?_
    exact Or.inr (And.intro (gl_0 (by assumption)) (And.intro rfl (by rw [gl_0 (by assumption)])))

set_option maxRecDepth 100000 in
set_option maxHeartbeats 4000000 in
theorem c_owner {X : GX} {h : LH} {τ : TS} (W : WF τ) {w : Int} (hf : rg w) : CM X mX8_owner [vI (iI w)] h τ (ans τ (gl (pI (0 ≤ w ∧ w ≤ τ 5 0 - 1)) 1 1) (τ 2 w) (ts τ 33 0 0)) := by
  have b1 := wf5 W 0
  refine CM_of (by decide +kernel) rfl (Nat.le_of_ble_eq_true rfl) ?_
  refine J_aload_n (M := mX8_owner) dX8_owner_0 rfl rfl ?_
  refine J_aload_n (M := mX8_owner) dX8_owner_1 rfl rfl ?_
  refine J_iload_n (M := mX8_owner) dX8_owner_2 rfl rfl ?_
  refine M_call (M := mX8_owner) (as := [_]) dX8_owner_3 ca_X8_109 ⟨by decide, by decide⟩ rfl (Nat.le_of_ble_eq_true rfl) rfl rfl (c_isWeapon W (by first | assumption | exact pI_rg _ | (unfold rg; omega))) (fun v_3 t_3 hv_3 => ?_)
  obtain ⟨rfl, e_3⟩ := hv_3
  rw [e_3]
  refine Z_iconst (M := mX8_owner) dX8_owner_6 ?_
  refine Z_iconst (M := mX8_owner) dX8_owner_7 ?_
  refine M_call (M := mX8_owner) (as := [_, _, _]) dX8_owner_8 ca_X8_101 ⟨by decide, by decide⟩ rfl (Nat.le_of_ble_eq_true rfl) rfl rfl (c_goes (by first | assumption | exact pI_rg _ | (unfold rg; omega)) (by first | assumption | exact pI_rg _ | (unfold rg; omega)) (by first | assumption | exact pI_rg _ | (unfold rg; omega))) (fun v_8 t_8 hv_8 => ?_)
  obtain ⟨rfl, e_8⟩ := hv_8
  rw [e_8]
  have W1 : WF (ts τ 33 0 (gl (pI (0 ≤ w ∧ w ≤ τ 5 0 - 1)) 1 1)) := WF_ts W gl_rg
  first
    | refine Z_pf (M := mX8_owner) (tgt := 23) dX8_owner_11 (by decide) (fun c_11 => ?_) (fun c_11 => ?_)
    | refine Z_if_eq (M := mX8_owner) (tgt := 23) (by first | assumption | exact pI_rg _ | (unfold rg; omega)) dX8_owner_11 (by decide) (fun c_11 => ?_) (fun c_11 => ?_)
  · refine Z_iconst (M := mX8_owner) dX8_owner_23 ?_
    refine M_iret (M := mX8_owner) dX8_owner_24 rfl ?_
    exact Or.inl (And.intro (gl_n (by assumption)) (And.intro rfl rfl))
  · have hc := c_11
    simp only [pI_n0] at hc
    refine J_aload_n (M := mX8_owner) dX8_owner_14 rfl rfl ?_
    refine M_get (M := mX8_owner) (v := vR (some (42, 0))) dX8_owner_15 fi_X8_7 rfl ?_
    refine J_iload_n (M := mX8_owner) dX8_owner_18 rfl rfl ?_
    refine M_iald (M := mX8_owner) (kf := 2) (N := 24) dX8_owner_19 rfl (by decide) (by omega) (by omega) ?_
    refine Z_eq (M := mX8_owner) (b := τ 2 _) rfl ?_
    refine J_goto (M := mX8_owner) (tgt := 24) dX8_owner_20 (by decide) ?_
    refine M_iret (M := mX8_owner) dX8_owner_24 rfl ?_
    exact Or.inr (And.intro (gl_0 (by assumption)) (And.intro rfl (by rw [gl_0 (by assumption)])))

set_option maxRecDepth 100000 in
set_option maxHeartbeats 4000000 in
theorem c_contact {X : GX} {h : LH} {τ : TS} (W : WF τ) {s t : Int} {p : Prop} (hs : rg s) (ht : rg t) (hp : ¬ τ 19 0 = 0 → okp τ) : CM X mX8_contact [vI (iI s), vI (iI (pI p)), vI (iI t)] h τ (ans τ (gl (pI (0 ≤ s ∧ s ≤ 1)) (pI (0 ≤ t ∧ (τ 19 0 = 0 ∨ τ 12 (la τ) = 0 ∨ τ 16 (8 * la τ + τ 12 (la τ) - 1) ≤ t))) (pI (¬ τ 19 0 = 0 ∧ τ 12 (la τ) < 8))) (τ 12 (la τ) + 1) (evt (ts τ 33 0 0) (2 * s + pI p) t)) := by
  refine CM_of (by decide +kernel) rfl (Nat.le_of_ble_eq_true rfl) ?_
  refine J_aload_n (M := mX8_contact) dX8_contact_0 rfl rfl ?_
  refine J_iload_n (M := mX8_contact) dX8_contact_1 rfl rfl ?_
  refine M_callS (M := mX8_contact) (as := [_]) dX8_contact_2 ca_X8_167 ⟨by decide, by decide⟩ rfl (Nat.le_of_ble_eq_true rfl) rfl rfl (c_isSide (by first | assumption | exact pI_rg _ | (unfold rg; omega))) ?_
  refine J_aload_n (M := mX8_contact) dX8_contact_5 rfl rfl ?_
  refine J_iload_n (M := mX8_contact) dX8_contact_6 rfl rfl ?_
  refine M_call (M := mX8_contact) (as := [_]) dX8_contact_7 ca_X8_174 ⟨by decide, by decide⟩ rfl (Nat.le_of_ble_eq_true rfl) rfl rfl (c_isTime W (by assumption) (by assumption)) (fun v_7 t_7 hv_7 => ?_)
  obtain ⟨rfl, e_7⟩ := hv_7
  rw [e_7]
  refine J_aload_n (M := mX8_contact) dX8_contact_10 rfl rfl ?_
  refine M_call (M := mX8_contact) (as := []) dX8_contact_11 ca_X8_177 ⟨by decide, by decide⟩ rfl (Nat.le_of_ble_eq_true rfl) rfl rfl (c_hears W (by assumption)) (fun v_11 t_11 hv_11 => ?_)
  obtain ⟨rfl, e_11⟩ := hv_11
  rw [e_11]
  refine M_call (M := mX8_contact) (as := [_, _, _]) dX8_contact_14 ca_X8_101 ⟨by decide, by decide⟩ rfl (Nat.le_of_ble_eq_true rfl) rfl rfl (c_goes (by first | assumption | exact pI_rg _ | (unfold rg; omega)) (by first | assumption | exact pI_rg _ | (unfold rg; omega)) (by first | assumption | exact pI_rg _ | (unfold rg; omega))) (fun v_14 t_14 hv_14 => ?_)
  obtain ⟨rfl, e_14⟩ := hv_14
  rw [e_14]
  have W1 : WF (ts τ 33 0 (gl (pI (0 ≤ s ∧ s ≤ 1)) (pI (0 ≤ t ∧ (τ 19 0 = 0 ∨ τ 12 (la τ) = 0 ∨ τ 16 (8 * la τ + τ 12 (la τ) - 1) ≤ t))) (pI (¬ τ 19 0 = 0 ∧ τ 12 (la τ) < 8)))) := WF_ts W gl_rg
  first
    | refine Z_pf (M := mX8_contact) (tgt := 41) dX8_contact_17 (by decide) (fun c_17 => ?_) (fun c_17 => ?_)
    | refine Z_if_eq (M := mX8_contact) (tgt := 41) (by first | assumption | exact pI_rg _ | (unfold rg; omega)) dX8_contact_17 (by decide) (fun c_17 => ?_) (fun c_17 => ?_)
  · refine Z_iconst (M := mX8_contact) dX8_contact_41 ?_
    refine M_iret (M := mX8_contact) dX8_contact_42 rfl ?_
    exact Or.inl (And.intro (gl_n (by assumption)) (And.intro rfl rfl))
  · have hc := c_17
    simp only [pI_n0] at hc
    have hop := hp hc.2.2.1
    refine J_aload_n (M := mX8_contact) dX8_contact_20 rfl rfl ?_
    refine Z_iconst (M := mX8_contact) dX8_contact_21 ?_
    refine J_iload_n (M := mX8_contact) dX8_contact_22 rfl rfl ?_
    refine Z_imul (M := mX8_contact) dX8_contact_23 ?_
    refine Z_bj (M := mX8_contact) (pcB := 33) (p) (fun hj_33 => ?_) ?_
    · refine J_iload_n (M := mX8_contact) dX8_contact_24 rfl rfl ?_
      first
        | refine Z_pf (M := mX8_contact) (tgt := 32) dX8_contact_25 (by decide) (fun c_25 => ?_) (fun c_25 => ?_)
        | refine Z_if_eq (M := mX8_contact) (tgt := 32) (by first | assumption | exact pI_rg _ | (unfold rg; omega)) dX8_contact_25 (by decide) (fun c_25 => ?_) (fun c_25 => ?_)
      · refine Z_iconst (M := mX8_contact) dX8_contact_32 ?_
        exact hj_33 _ (pI_f (by first | assumption | omega)).symm
      · refine Z_iconst (M := mX8_contact) dX8_contact_28 ?_
        refine J_goto (M := mX8_contact) (tgt := 33) dX8_contact_29 (by decide) ?_
        exact hj_33 _ (pI_t (by first | assumption | omega)).symm
    refine Z_iadd (M := mX8_contact) dX8_contact_33 ?_
    refine J_iload_n (M := mX8_contact) dX8_contact_34 rfl rfl ?_
    refine M_call (M := mX8_contact) (as := [_, _]) dX8_contact_35 ca_X8_181 ⟨by decide, by decide⟩ rfl (Nat.le_of_ble_eq_true rfl) rfl rfl (c_event W1 hop hc.2.2.2) (fun v_35 t_35 hv_35 => ?_)
    obtain ⟨rfl, e_35⟩ := hv_35
    rw [e_35]
    refine J_goto (M := mX8_contact) (tgt := 42) dX8_contact_38 (by decide) ?_
    refine M_iret (M := mX8_contact) dX8_contact_42 rfl ?_
    exact Or.inr (And.intro (gl_0 c_17) (And.intro rfl (by rw [gl_0 c_17])))

set_option maxRecDepth 100000 in
set_option maxHeartbeats 4000000 in
theorem c_right {X : GX} {h : LH} {τ : TS} (W : WF τ) {s t : Int} (hs : rg s) (ht : rg t) (hp : ¬ τ 19 0 = 0 → okp τ) : CM X mX8_right [vI (iI s), vI (iI t)] h τ (ans τ (gl (pI ((-1 ≤ s ∧ s ≤ 1) ∧ 0 ≤ t ∧ (τ 19 0 = 0 ∨ τ 12 (la τ) = 0 ∨ τ 16 (8 * la τ + τ 12 (la τ) - 1) ≤ t))) (pI (¬ τ 19 0 = 0 ∧ τ 12 (la τ) < 8)) 1) (τ 12 (la τ) + 1) (evt (ts τ 33 0 0) (5 + s) t)) := by
  refine CM_of (by decide +kernel) rfl (Nat.le_of_ble_eq_true rfl) ?_
  refine J_aload_n (M := mX8_right) dX8_right_0 rfl rfl ?_
  refine Z_bj (M := mX8_right) (pcB := 23) ((-1 ≤ s ∧ s ≤ 1) ∧ 0 ≤ t ∧ (τ 19 0 = 0 ∨ τ 12 (la τ) = 0 ∨ τ 16 (8 * la τ + τ 12 (la τ) - 1) ≤ t)) (fun hj_23 => ?_) ?_
  · refine J_iload_n (M := mX8_right) dX8_right_1 rfl rfl ?_
    refine Z_iconst (M := mX8_right) dX8_right_2 ?_
    refine Z_iconst (M := mX8_right) dX8_right_3 ?_
    refine M_callS (M := mX8_right) (as := [_, _, _]) dX8_right_4 ca_X8_85 ⟨by decide, by decide⟩ rfl (Nat.le_of_ble_eq_true rfl) rfl rfl (c_in (by first | assumption | exact pI_rg _ | (unfold rg; omega)) (by first | assumption | exact pI_rg _ | (unfold rg; omega)) (by first | assumption | exact pI_rg _ | (unfold rg; omega))) ?_
    first
      | refine Z_pf (M := mX8_right) (tgt := 22) dX8_right_7 (by decide) (fun c_7 => ?_) (fun c_7 => ?_)
      | refine Z_if_eq (M := mX8_right) (tgt := 22) (by first | assumption | exact pI_rg _ | (unfold rg; omega)) dX8_right_7 (by decide) (fun c_7 => ?_) (fun c_7 => ?_)
    · refine Z_iconst (M := mX8_right) dX8_right_22 ?_
      exact hj_23 _ (pI_f (by omega)).symm
    · refine J_aload_n (M := mX8_right) dX8_right_10 rfl rfl ?_
      refine J_iload_n (M := mX8_right) dX8_right_11 rfl rfl ?_
      refine M_call (M := mX8_right) (as := [_]) dX8_right_12 ca_X8_174 ⟨by decide, by decide⟩ rfl (Nat.le_of_ble_eq_true rfl) rfl rfl (c_isTime W (by assumption) (by assumption)) (fun v_12 t_12 hv_12 => ?_)
      obtain ⟨rfl, e_12⟩ := hv_12
      rw [e_12]
      first
        | refine Z_pf (M := mX8_right) (tgt := 22) dX8_right_15 (by decide) (fun c_15 => ?_) (fun c_15 => ?_)
        | refine Z_if_eq (M := mX8_right) (tgt := 22) (by first | assumption | exact pI_rg _ | (unfold rg; omega)) dX8_right_15 (by decide) (fun c_15 => ?_) (fun c_15 => ?_)
      · refine Z_iconst (M := mX8_right) dX8_right_22 ?_
        exact hj_23 _ (pI_f (by omega)).symm
      · refine Z_iconst (M := mX8_right) dX8_right_18 ?_
        refine J_goto (M := mX8_right) (tgt := 23) dX8_right_19 (by decide) ?_
        exact hj_23 _ (pI_t (by omega)).symm
  refine J_aload_n (M := mX8_right) dX8_right_23 rfl rfl ?_
  refine M_call (M := mX8_right) (as := []) dX8_right_24 ca_X8_177 ⟨by decide, by decide⟩ rfl (Nat.le_of_ble_eq_true rfl) rfl rfl (c_hears W (by assumption)) (fun v_24 t_24 hv_24 => ?_)
  obtain ⟨rfl, e_24⟩ := hv_24
  rw [e_24]
  refine Z_iconst (M := mX8_right) dX8_right_27 ?_
  refine M_call (M := mX8_right) (as := [_, _, _]) dX8_right_28 ca_X8_101 ⟨by decide, by decide⟩ rfl (Nat.le_of_ble_eq_true rfl) rfl rfl (c_goes (by first | assumption | exact pI_rg _ | (unfold rg; omega)) (by first | assumption | exact pI_rg _ | (unfold rg; omega)) (by first | assumption | exact pI_rg _ | (unfold rg; omega))) (fun v_28 t_28 hv_28 => ?_)
  obtain ⟨rfl, e_28⟩ := hv_28
  rw [e_28]
  have W1 : WF (ts τ 33 0 (gl (pI ((-1 ≤ s ∧ s ≤ 1) ∧ 0 ≤ t ∧ (τ 19 0 = 0 ∨ τ 12 (la τ) = 0 ∨ τ 16 (8 * la τ + τ 12 (la τ) - 1) ≤ t))) (pI (¬ τ 19 0 = 0 ∧ τ 12 (la τ) < 8)) 1)) := WF_ts W gl_rg
  first
    | refine Z_pf (M := mX8_right) (tgt := 45) dX8_right_31 (by decide) (fun c_31 => ?_) (fun c_31 => ?_)
    | refine Z_if_eq (M := mX8_right) (tgt := 45) (by first | assumption | exact pI_rg _ | (unfold rg; omega)) dX8_right_31 (by decide) (fun c_31 => ?_) (fun c_31 => ?_)
  · refine Z_iconst (M := mX8_right) dX8_right_45 ?_
    refine M_iret (M := mX8_right) dX8_right_46 rfl ?_
    exact Or.inl (And.intro (gl_n (by assumption)) (And.intro rfl rfl))
  · have hc := c_31
    simp only [pI_n0] at hc
    have hop := hp hc.2.1.1
    refine J_aload_n (M := mX8_right) dX8_right_34 rfl rfl ?_
    refine Z_iconst (M := mX8_right) dX8_right_35 ?_
    refine J_iload_n (M := mX8_right) dX8_right_36 rfl rfl ?_
    refine Z_iadd (M := mX8_right) dX8_right_37 ?_
    refine J_iload_n (M := mX8_right) dX8_right_38 rfl rfl ?_
    refine M_call (M := mX8_right) (as := [_, _]) dX8_right_39 ca_X8_181 ⟨by decide, by decide⟩ rfl (Nat.le_of_ble_eq_true rfl) rfl rfl (c_event W1 hop hc.2.1.2) (fun v_39 t_39 hv_39 => ?_)
    obtain ⟨rfl, e_39⟩ := hv_39
    rw [e_39]
    refine J_goto (M := mX8_right) (tgt := 46) dX8_right_42 (by decide) ?_
    refine M_iret (M := mX8_right) dX8_right_46 rfl ?_
    exact Or.inr (And.intro (gl_0 c_31) (And.intro rfl (by rw [gl_0 c_31])))

set_option maxRecDepth 100000 in
set_option maxHeartbeats 4000000 in
theorem c_halt {X : GX} {h : LH} {τ : TS} (W : WF τ) (hp : ¬ τ 19 0 = 0 → okp τ) : CM X mX8_halt [] h τ (ans τ (gl (τ 19 0) 1 1) (tch (ts (ts (ts (ts τ 33 0 0) 10 (slo (τ 17 0)) (τ 10 (slo (τ 17 0)) + 1)) 19 0 0) 20 0 1) (slo (τ 17 0)) (τ 10 (slo (τ 17 0)))) (fol (ts (ts (ts (ts τ 33 0 0) 10 (slo (τ 17 0)) (τ 10 (slo (τ 17 0)) + 1)) 19 0 0) 20 0 1))) := by
  have b1 := wf19 W 0
  have b9 := wf17 W 0
  refine CM_of (by decide +kernel) rfl (Nat.le_of_ble_eq_true rfl) ?_
  refine J_aload_n (M := mX8_halt) dX8_halt_0 rfl rfl ?_
  refine J_aload_n (M := mX8_halt) dX8_halt_1 rfl rfl ?_
  refine M_get (M := mX8_halt) dX8_halt_2 fi_X8_112 rfl ?_
  refine Z_eq (M := mX8_halt) (b := τ 19 0) rfl ?_
  refine Z_iconst (M := mX8_halt) dX8_halt_5 ?_
  refine Z_iconst (M := mX8_halt) dX8_halt_6 ?_
  refine M_call (M := mX8_halt) (as := [_, _, _]) dX8_halt_7 ca_X8_101 ⟨by decide, by decide⟩ rfl (Nat.le_of_ble_eq_true rfl) rfl rfl (c_goes (by first | assumption | exact pI_rg _ | (unfold rg; omega)) (by first | assumption | exact pI_rg _ | (unfold rg; omega)) (by first | assumption | exact pI_rg _ | (unfold rg; omega))) (fun v_7 t_7 hv_7 => ?_)
  obtain ⟨rfl, e_7⟩ := hv_7
  rw [e_7]
  have W1 : WF (ts τ 33 0 (gl (τ 19 0) 1 1)) := WF_ts W gl_rg
  first
    | refine Z_pt (M := mX8_halt) (tgt := 15) dX8_halt_10 (by decide) (fun c_10 => ?_) (fun c_10 => ?_)
    | refine Z_if_ne (M := mX8_halt) (tgt := 15) (by first | assumption | exact pI_rg _ | (unfold rg; omega)) dX8_halt_10 (by decide) (fun c_10 => ?_) (fun c_10 => ?_)
  · have hop := hp c_10.1
    have hsl := slo_rg hop.1
    have hen := hop.2
    have b10 := wf10 W (slo (τ 17 0))
    rw [gl_0 c_10] at W1
    rw [gl_0 c_10]
    have W2 : WF (ts (ts (ts (ts τ 33 0 0) 10 (slo (τ 17 0)) (τ 10 (slo (τ 17 0)) + 1)) 19 0 0) 20 0 1) := WF_ts (WF_ts (WF_ts W1 (by show (0 : Int) ≤ _ ∧ _ ≤ (12 : Int); omega)) (by decide)) (by decide)
    refine J_aload_n (M := mX8_halt) dX8_halt_15 rfl rfl ?_
    refine M_get (M := mX8_halt) dX8_halt_16 fi_X8_47 rfl ?_
    refine Z_eq (M := mX8_halt) (b := τ 17 0) rfl ?_
    refine M_callS (M := mX8_halt) (as := [_]) dX8_halt_19 ca_X8_164 ⟨by decide, by decide⟩ rfl (Nat.le_of_ble_eq_true rfl) rfl rfl (c_slotOf (by first | assumption | exact pI_rg _ | (unfold rg; omega))) ?_
    refine J_istore_n (M := mX8_halt) dX8_halt_22 rfl (by decide) ?_
    refine J_aload_n (M := mX8_halt) dX8_halt_23 rfl rfl ?_
    refine M_get (M := mX8_halt) (v := vR (some (50, 0))) dX8_halt_24 fi_X8_26 rfl ?_
    refine J_iload_n (M := mX8_halt) dX8_halt_27 rfl rfl ?_
    refine J_dup2 (M := mX8_halt) dX8_halt_28 rfl rfl ?_
    refine M_iald (M := mX8_halt) (kf := 10) (N := 82) dX8_halt_29 rfl (by decide) (by omega) (by omega) ?_
    refine Z_eq (M := mX8_halt) (b := τ 10 _) rfl ?_
    refine Z_iconst (M := mX8_halt) dX8_halt_30 ?_
    refine Z_iadd (M := mX8_halt) dX8_halt_31 ?_
    refine M_iast (M := mX8_halt) (kf := 10) (N := 82) dX8_halt_32 rfl rfl rfl rfl (by decide) (by decide) (by omega) (by omega) ?_
    refine J_aload_n (M := mX8_halt) dX8_halt_33 rfl rfl ?_
    refine Z_iconst (M := mX8_halt) dX8_halt_34 ?_
    refine M_putz (M := mX8_halt) dX8_halt_35 fi_X8_112 (by first | exact pI_01 _ | exact Or.inl rfl | exact Or.inr rfl | omega) rfl (by decide) rfl ?_
    refine J_aload_n (M := mX8_halt) dX8_halt_38 rfl rfl ?_
    refine Z_iconst (M := mX8_halt) dX8_halt_39 ?_
    refine M_putz (M := mX8_halt) dX8_halt_40 fi_X8_161 (by first | exact pI_01 _ | exact Or.inl rfl | exact Or.inr rfl | omega) rfl (by decide) rfl ?_
    refine J_aload_n (M := mX8_halt) dX8_halt_43 rfl rfl ?_
    refine J_iload_n (M := mX8_halt) dX8_halt_44 rfl rfl ?_
    refine J_aload_n (M := mX8_halt) dX8_halt_45 rfl rfl ?_
    refine M_get (M := mX8_halt) (v := vR (some (50, 0))) dX8_halt_46 fi_X8_26 rfl ?_
    refine J_iload_n (M := mX8_halt) dX8_halt_49 rfl rfl ?_
    refine M_iald (M := mX8_halt) (kf := 10) (N := 82) dX8_halt_50 rfl (by decide) (by omega) (by omega) ?_
    refine Z_eq (M := mX8_halt) (b := τ 10 (slo (τ 17 0)) + 1) (by show upZ _ _ _ _ = _; exact if_pos rfl) ?_
    refine Z_iconst (M := mX8_halt) dX8_halt_51 ?_
    refine Z_isub (M := mX8_halt) dX8_halt_52 ?_
    refine Z_eq (M := mX8_halt) (b := τ 10 (slo (τ 17 0))) (by omega) ?_
    refine M_call (M := mX8_halt) (as := [_, _]) dX8_halt_53 ca_X8_138 ⟨by decide, by decide⟩ rfl (Nat.le_of_ble_eq_true rfl) rfl rfl (c_touched W2 (by omega) (by omega) (by omega) (by omega)) (fun v_53 t_53 hv_53 => ?_)
    obtain ⟨rfl, e_53⟩ := hv_53
    rw [e_53]
    refine J_istore_n (M := mX8_halt) dX8_halt_56 rfl (by decide) ?_
    refine J_aload_n (M := mX8_halt) dX8_halt_57 rfl rfl ?_
    refine M_call (M := mX8_halt) (as := []) dX8_halt_58 ca_X8_115 ⟨by decide, by decide⟩ rfl (Nat.le_of_ble_eq_true rfl) rfl rfl (c_follows W2) (fun v_58 t_58 hv_58 => ?_)
    obtain ⟨rfl, e_58⟩ := hv_58
    rw [e_58]
    refine J_iload_n (M := mX8_halt) dX8_halt_61 rfl rfl ?_
    refine M_iret (M := mX8_halt) dX8_halt_62 rfl ?_
    exact Or.inr (And.intro rfl (And.intro rfl rfl))
  · refine Z_iconst (M := mX8_halt) dX8_halt_13 ?_
    refine M_iret (M := mX8_halt) dX8_halt_14 rfl ?_
    exact Or.inl (And.intro (gl_n (by assumption)) (And.intro rfl rfl))

