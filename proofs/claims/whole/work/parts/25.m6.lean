/-! THE REFERENCE: the calls that it answers -/
theorem Z_bj {X : GX} {M : MI} {pc pcB : Nat} {ls : List (Option LV)} {st : List LV} {h : LH} {k n : Nat} {Q : LO → LH → Prop} (p : Prop) (hh : (∀ x : Int, x = pI p → J X M pcB ls (vI (iI x) :: st) h k n Q) → J X M pc ls st h k n Q) (kk : J X M pcB ls (vI (iI (pI p)) :: st) h k n Q) : J X M pc ls st h k n Q := hh (fun x e => e ▸ kk)
theorem pI_n0 {p : Prop} : ¬ pI p = 0 ↔ p := ⟨fun e => Classical.byContradiction fun h => e (pI_f h), fun h e => by rw [pI_t h] at e; omega⟩
theorem gl_0 {a b c : Int} (h : ¬ a = 0 ∧ ¬ b = 0 ∧ ¬ c = 0) : gl a b c = 0 := by unfold gl; rw [if_neg h.1, if_neg h.2.1, if_neg h.2.2]
theorem gl_n {a b c : Int} (h : ¬ (¬ a = 0 ∧ ¬ b = 0 ∧ ¬ c = 0)) : ¬ gl a b c = 0 := by
  unfold gl
  split
  · omega
  · split
    · omega
    · split
      · omega
      · omega
theorem gl_rg {a b c : Int} : 0 ≤ gl a b c ∧ gl a b c ≤ 3 := by
  unfold gl
  split
  · omega
  · split
    · omega
    · split <;> omega
/-- the answer of a call: refused with the number g, the state else as it was; or v, and t -/
def ans (τ : TS) (g : Int) (v : Int) (t : TS) (r : Option LV) (u : TS) : Prop := (¬ g = 0 ∧ r = some (vI (iI 0)) ∧ u = ts τ 33 0 g) ∨ (g = 0 ∧ r = some (vI (iI v)) ∧ u = t)
set_option maxRecDepth 100000 in
set_option maxHeartbeats 4000000 in
theorem c_fencers {X : GX} {h : LH} {τ : TS} (W : WF τ) : CM X mX8_fencers [] h τ (fun v t => v = some (vI (iI (τ 1 0))) ∧ t = ts τ 33 0 0) := by
  refine CM_of (by decide +kernel) rfl (Nat.le_of_ble_eq_true rfl) ?_
  refine J_aload_n (M := mX8_fencers) dX8_fencers_0 rfl rfl ?_
  refine Z_iconst (M := mX8_fencers) dX8_fencers_1 ?_
  refine M_puti (M := mX8_fencers) dX8_fencers_2 fi_X8_79 rfl (by decide) rfl ?_
  refine J_aload_n (M := mX8_fencers) dX8_fencers_5 rfl rfl ?_
  refine M_get (M := mX8_fencers) dX8_fencers_6 fi_X8_82 rfl ?_
  refine Z_eq (M := mX8_fencers) (b := τ 1 0) rfl ?_
  refine M_iret (M := mX8_fencers) dX8_fencers_9 rfl ?_
  exact And.intro rfl rfl

set_option maxRecDepth 100000 in
set_option maxHeartbeats 4000000 in
theorem c_piste {X : GX} {h : LH} {τ : TS} (W : WF τ) : CM X mX8_piste [] h τ (fun v t => v = some (vI (iI (τ 17 0))) ∧ t = ts τ 33 0 0) := by
  refine CM_of (by decide +kernel) rfl (Nat.le_of_ble_eq_true rfl) ?_
  refine J_aload_n (M := mX8_piste) dX8_piste_0 rfl rfl ?_
  refine Z_iconst (M := mX8_piste) dX8_piste_1 ?_
  refine M_puti (M := mX8_piste) dX8_piste_2 fi_X8_79 rfl (by decide) rfl ?_
  refine J_aload_n (M := mX8_piste) dX8_piste_5 rfl rfl ?_
  refine M_get (M := mX8_piste) dX8_piste_6 fi_X8_47 rfl ?_
  refine Z_eq (M := mX8_piste) (b := τ 17 0) rfl ?_
  refine M_iret (M := mX8_piste) dX8_piste_9 rfl ?_
  exact And.intro rfl rfl

set_option maxRecDepth 100000 in
set_option maxHeartbeats 4000000 in
theorem c_isFencing {X : GX} {h : LH} {τ : TS} (W : WF τ) : CM X mX8_isFencing [] h τ (fun v t => v = some (vI (iI (τ 19 0))) ∧ t = ts τ 33 0 0) := by
  have b1 := wf19 W 0
  refine CM_of (by decide +kernel) rfl (Nat.le_of_ble_eq_true rfl) ?_
  refine J_aload_n (M := mX8_isFencing) dX8_isFencing_0 rfl rfl ?_
  refine Z_iconst (M := mX8_isFencing) dX8_isFencing_1 ?_
  refine M_puti (M := mX8_isFencing) dX8_isFencing_2 fi_X8_79 rfl (by decide) rfl ?_
  refine J_aload_n (M := mX8_isFencing) dX8_isFencing_5 rfl rfl ?_
  refine M_get (M := mX8_isFencing) dX8_isFencing_6 fi_X8_112 rfl ?_
  refine Z_eq (M := mX8_isFencing) (b := τ 19 0) rfl ?_
  refine M_zret (M := mX8_isFencing) dX8_isFencing_9 rfl (by first | exact pI_01 _ | exact Or.inl rfl | exact Or.inr rfl | omega) ?_
  exact And.intro rfl rfl

set_option maxRecDepth 100000 in
set_option maxHeartbeats 4000000 in
theorem c_poolBouts {X : GX} {h : LH} {τ : TS} (W : WF τ) : CM X mX8_poolBouts [] h τ (fun v t => v = some (vI (iI (τ 9 0))) ∧ t = ts τ 33 0 0) := by
  refine CM_of (by decide +kernel) rfl (Nat.le_of_ble_eq_true rfl) ?_
  refine J_aload_n (M := mX8_poolBouts) dX8_poolBouts_0 rfl rfl ?_
  refine Z_iconst (M := mX8_poolBouts) dX8_poolBouts_1 ?_
  refine M_puti (M := mX8_poolBouts) dX8_poolBouts_2 fi_X8_79 rfl (by decide) rfl ?_
  refine J_aload_n (M := mX8_poolBouts) dX8_poolBouts_5 rfl rfl ?_
  refine M_get (M := mX8_poolBouts) dX8_poolBouts_6 fi_X8_92 rfl ?_
  refine Z_eq (M := mX8_poolBouts) (b := τ 9 0) rfl ?_
  refine M_iret (M := mX8_poolBouts) dX8_poolBouts_9 rfl ?_
  exact And.intro rfl rfl

set_option maxRecDepth 100000 in
set_option maxHeartbeats 4000000 in
theorem c_size {X : GX} {h : LH} {τ : TS} (W : WF τ) : CM X mX8_size [] h τ (fun v t => v = some (vI (iI (τ 21 0))) ∧ t = ts τ 33 0 0) := by
  refine CM_of (by decide +kernel) rfl (Nat.le_of_ble_eq_true rfl) ?_
  refine J_aload_n (M := mX8_size) dX8_size_0 rfl rfl ?_
  refine Z_iconst (M := mX8_size) dX8_size_1 ?_
  refine M_puti (M := mX8_size) dX8_size_2 fi_X8_79 rfl (by decide) rfl ?_
  refine J_aload_n (M := mX8_size) dX8_size_5 rfl rfl ?_
  refine M_get (M := mX8_size) dX8_size_6 fi_X8_95 rfl ?_
  refine Z_eq (M := mX8_size) (b := τ 21 0) rfl ?_
  refine M_iret (M := mX8_size) dX8_size_9 rfl ?_
  exact And.intro rfl rfl

set_option maxRecDepth 100000 in
set_option maxHeartbeats 4000000 in
theorem c_gone {X : GX} {h : LH} {τ : TS} (W : WF τ) : CM X mX8_gone [] h τ (fun v t => v = some (vI (iI (τ 24 0))) ∧ t = ts τ 33 0 0) := by
  refine CM_of (by decide +kernel) rfl (Nat.le_of_ble_eq_true rfl) ?_
  refine J_aload_n (M := mX8_gone) dX8_gone_0 rfl rfl ?_
  refine Z_iconst (M := mX8_gone) dX8_gone_1 ?_
  refine M_puti (M := mX8_gone) dX8_gone_2 fi_X8_79 rfl (by decide) rfl ?_
  refine J_aload_n (M := mX8_gone) dX8_gone_5 rfl rfl ?_
  refine M_get (M := mX8_gone) dX8_gone_6 fi_X8_142 rfl ?_
  refine Z_eq (M := mX8_gone) (b := τ 24 0) rfl ?_
  refine M_iret (M := mX8_gone) dX8_gone_9 rfl ?_
  exact And.intro rfl rfl

set_option maxRecDepth 100000 in
set_option maxHeartbeats 4000000 in
theorem c_thrown {X : GX} {h : LH} {τ : TS} : CM X mX8_thrown [] h τ (fun v t => v = some (vI (iI (τ 33 0))) ∧ t = τ) := by
  refine CM_of (by decide +kernel) rfl (Nat.le_of_ble_eq_true rfl) ?_
  refine J_aload_n (M := mX8_thrown) dX8_thrown_0 rfl rfl ?_
  refine M_get (M := mX8_thrown) dX8_thrown_1 fi_X8_79 rfl ?_
  refine M_iret (M := mX8_thrown) dX8_thrown_4 rfl ?_
  exact And.intro rfl rfl

set_option maxRecDepth 100000 in
set_option maxHeartbeats 4000000 in
theorem c_fencer {X : GX} {h : LH} {τ : TS} (W : WF τ)  : CM X mX8_fencer [] h τ (ans τ (gl (pI (τ 1 0 < 12 ∧ τ 8 0 = 0)) 1 1) (τ 1 0) (ts (ts τ 33 0 0) 1 0 (τ 1 0 + 1))) := by
  have b1 := wf1 W 0
  have b2 := wf8 W 0
  refine CM_of (by decide +kernel) rfl (Nat.le_of_ble_eq_true rfl) ?_
  refine J_aload_n (M := mX8_fencer) dX8_fencer_0 rfl rfl ?_
  refine Z_bj (M := mX8_fencer) (pcB := 22) (τ 1 0 < 12 ∧ τ 8 0 = 0) (fun hj_22 => ?_) ?_
  · refine J_aload_n (M := mX8_fencer) dX8_fencer_1 rfl rfl ?_
    refine M_get (M := mX8_fencer) dX8_fencer_2 fi_X8_82 rfl ?_
    refine Z_eq (M := mX8_fencer) (b := τ 1 0) rfl ?_
    refine Z_bipush (M := mX8_fencer) dX8_fencer_5 rfl ?_
    refine Z_ic_ge (M := mX8_fencer) (tgt := 21) (by first | assumption | exact pI_rg _ | (unfold rg; omega)) (by first | assumption | exact pI_rg _ | (unfold rg; omega)) dX8_fencer_7 (by decide) (fun c_7 => ?_) (fun c_7 => ?_)
    · refine Z_iconst (M := mX8_fencer) dX8_fencer_21 ?_
      exact hj_22 _ (pI_f (by omega)).symm
    · refine J_aload_n (M := mX8_fencer) dX8_fencer_10 rfl rfl ?_
      refine M_get (M := mX8_fencer) dX8_fencer_11 fi_X8_98 rfl ?_
      refine Z_eq (M := mX8_fencer) (b := τ 8 0) rfl ?_
      first
        | refine Z_pt (M := mX8_fencer) (tgt := 21) dX8_fencer_14 (by decide) (fun c_14 => ?_) (fun c_14 => ?_)
        | refine Z_if_ne (M := mX8_fencer) (tgt := 21) (by first | assumption | exact pI_rg _ | (unfold rg; omega)) dX8_fencer_14 (by decide) (fun c_14 => ?_) (fun c_14 => ?_)
      · refine Z_iconst (M := mX8_fencer) dX8_fencer_21 ?_
        exact hj_22 _ (pI_f (by omega)).symm
      · refine Z_iconst (M := mX8_fencer) dX8_fencer_17 ?_
        refine J_goto (M := mX8_fencer) (tgt := 22) dX8_fencer_18 (by decide) ?_
        exact hj_22 _ (pI_t (by omega)).symm
  refine Z_iconst (M := mX8_fencer) dX8_fencer_22 ?_
  refine Z_iconst (M := mX8_fencer) dX8_fencer_23 ?_
  refine M_call (M := mX8_fencer) (as := [_, _, _]) dX8_fencer_24 ca_X8_101 ⟨by decide, by decide⟩ rfl (Nat.le_of_ble_eq_true rfl) rfl rfl (c_goes (by first | assumption | exact pI_rg _ | (unfold rg; omega)) (by first | assumption | exact pI_rg _ | (unfold rg; omega)) (by first | assumption | exact pI_rg _ | (unfold rg; omega))) (fun v_24 t_24 hv_24 => ?_)
  obtain ⟨rfl, e_24⟩ := hv_24
  rw [e_24]
  first
    | refine Z_pt (M := mX8_fencer) (tgt := 32) dX8_fencer_27 (by decide) (fun c_27 => ?_) (fun c_27 => ?_)
    | refine Z_if_ne (M := mX8_fencer) (tgt := 32) (by first | assumption | exact pI_rg _ | (unfold rg; omega)) dX8_fencer_27 (by decide) (fun c_27 => ?_) (fun c_27 => ?_)
  · refine J_aload_n (M := mX8_fencer) dX8_fencer_32 rfl rfl ?_
    refine J_dup (M := mX8_fencer) dX8_fencer_33 rfl ?_
    refine M_get (M := mX8_fencer) dX8_fencer_34 fi_X8_82 rfl ?_
    refine Z_eq (M := mX8_fencer) (b := τ 1 0) rfl ?_
    refine Z_iconst (M := mX8_fencer) dX8_fencer_37 ?_
    refine Z_iadd (M := mX8_fencer) dX8_fencer_38 ?_
    refine M_puti (M := mX8_fencer) dX8_fencer_39 fi_X8_82 rfl (by decide) rfl ?_
    refine J_aload_n (M := mX8_fencer) dX8_fencer_42 rfl rfl ?_
    refine M_get (M := mX8_fencer) dX8_fencer_43 fi_X8_82 rfl ?_
    refine Z_iconst (M := mX8_fencer) dX8_fencer_46 ?_
    refine Z_isub (M := mX8_fencer) dX8_fencer_47 ?_
    refine Z_eq (M := mX8_fencer) (b := τ 1 0) (by rw [ts0]; omega) ?_
    refine M_iret (M := mX8_fencer) dX8_fencer_48 rfl ?_
    exact Or.inr (And.intro (gl_0 (by assumption)) (And.intro rfl (by rw [gl_0 (by assumption)])))
  · refine Z_iconst (M := mX8_fencer) dX8_fencer_30 ?_
    refine M_iret (M := mX8_fencer) dX8_fencer_31 rfl ?_
    exact Or.inl (And.intro (gl_n (by assumption)) (And.intro rfl rfl))

