/-! THE REFERENCE: fencers of sides, winners, events -/
theorem ts_self {τ : TS} {k : Nat} {i x : Int} : ts τ k i x k i = x := by rw [ts_s]; exact if_pos rfl
theorem ts_else {τ : TS} {k : Nat} {i x j : Int} (h : j ≠ i) : ts τ k i x k j = τ k j := by rw [ts_s]; exact if_neg h
theorem te_rg {τ : TS} (W : WF τ) (s : Int) : 0 ≤ (te τ s).1 ∧ (te τ s).1 ≤ 12 ∧ 0 ≤ (te τ s).2.1 ∧ (te τ s).2.1 ≤ 12 ∧ -1 ≤ (te τ s).2.2 ∧ (te τ s).2.2 ≤ 1 := by
  have e1 := tlF_rg (g := gl3 s) (fun i => tch_rg (τ := τ) s i) (τ 10 s).toNat
  have b1 := wf10 W s
  unfold te
  simp only []
  generalize tlF (gl3 s) (tch τ s) (τ 10 s).toNat = z at e1 ⊢
  split
  · split <;> omega
  · omega
/-- the fencer of a side of a bout, as the reference has it -/
def fa (τ : TS) (b s : Int) : Int := if 100 ≤ b then τ 22 (2 * (b - 100) + s) else if s = 0 then τ 6 b else τ 7 b
def wo (τ : TS) (b : Int) : Int := if 100 ≤ b then τ 22 (b - 100) else if (te τ b).2.2 = -1 then -1 else fa τ b (te τ b).2.2
def wt (τ : TS) (b : Int) : TS := if 100 ≤ b then τ else t3 τ (te τ b)
def okb (b : Int) : Prop := (0 ≤ b ∧ b < 66) ∨ (100 ≤ b ∧ b ≤ 115)
theorem slo_rg {b : Int} (h : okb b) : 0 ≤ slo b ∧ slo b < 82 := by
  unfold okb at h
  unfold slo
  split <;> omega
theorem fa_rg {τ : TS} (W : WF τ) (b s : Int) : -2 ≤ fa τ b s ∧ fa τ b s ≤ 11 := by
  have h1 := wf22 W (2 * (b - 100) + s)
  have h2 := wf6 W b
  have h3 := wf7 W b
  unfold fa
  split
  · omega
  · split <;> omega
theorem fa_t3 {τ : TS} {z : Int × Int × Int} : fa (t3 τ z) = fa τ := rfl
def la (τ : TS) : Int := 12 * slo (τ 17 0) + τ 10 (slo (τ 17 0))
/-- the piste holds a bout, and a phrase of it can stand at its place -/
def okp (τ : TS) : Prop := okb (τ 17 0) ∧ τ 10 (slo (τ 17 0)) < 12
theorem la_rg {τ : TS} (W : WF τ) (h : okp τ) : 0 ≤ la τ ∧ la τ < 984 := by
  have h1 := slo_rg h.1
  have h2 := wf10 W (slo (τ 17 0))
  have h3 := h.2
  unfold la
  omega
theorem wo_rg {τ : TS} (W : WF τ) (b : Int) : -2 ≤ wo τ b ∧ wo τ b ≤ 11 := by
  have h1 := wf22 W (b - 100)
  have h2 := fa_rg W b (te τ b).2.2
  unfold wo
  split
  · omega
  · split <;> omega
theorem WF_wt {τ : TS} (W : WF τ) (b : Int) : WF (wt τ b) := by
  unfold wt
  split
  · exact W
  · exact WF_t3 W (te_rg W b)
set_option maxRecDepth 100000 in
set_option maxHeartbeats 4000000 in
theorem c_fencerAt {X : GX} {h : LH} {τ : TS} (W : WF τ) {b s : Int} (hb : okb b) (hs : s = 0 ∨ s = 1) : CM X mX8_fencerAt [vI (iI b), vI (iI s)] h τ (fun v t => v = some (vI (iI (fa τ b s))) ∧ t = τ) := by
  unfold okb at hb
  refine CM_of (by decide +kernel) rfl (Nat.le_of_ble_eq_true rfl) ?_
  refine J_iload_n (M := mX8_fencerAt) dX8_fencerAt_0 rfl rfl ?_
  refine Z_bipush (M := mX8_fencerAt) dX8_fencerAt_1 rfl ?_
  refine Z_ic_lt (M := mX8_fencerAt) (tgt := 22) (by first | assumption | exact pI_rg _ | (unfold rg; omega)) (by first | assumption | exact pI_rg _ | (unfold rg; omega)) dX8_fencerAt_3 (by decide) (fun c_3 => ?_) (fun c_3 => ?_)
  · refine J_iload_n (M := mX8_fencerAt) dX8_fencerAt_22 rfl rfl ?_
    first
      | refine Z_pt (M := mX8_fencerAt) (tgt := 35) dX8_fencerAt_23 (by decide) (fun c_23 => ?_) (fun c_23 => ?_)
      | refine Z_if_ne (M := mX8_fencerAt) (tgt := 35) (by first | assumption | exact pI_rg _ | (unfold rg; omega)) dX8_fencerAt_23 (by decide) (fun c_23 => ?_) (fun c_23 => ?_)
    · refine J_aload_n (M := mX8_fencerAt) dX8_fencerAt_35 rfl rfl ?_
      refine M_get (M := mX8_fencerAt) (v := vR (some (47, 0))) dX8_fencerAt_36 fi_X8_23 rfl ?_
      refine J_iload_n (M := mX8_fencerAt) dX8_fencerAt_39 rfl rfl ?_
      refine M_iald (M := mX8_fencerAt) (kf := 7) (N := 66) dX8_fencerAt_40 rfl (by decide) (by omega) (by omega) ?_
      refine M_iret (M := mX8_fencerAt) dX8_fencerAt_41 rfl ?_
      exact And.intro (by unfold fa; first | rw [if_pos (by omega)] | rw [if_neg (by omega), if_pos (by omega)] | rw [if_neg (by omega), if_neg (by omega)]) rfl
    · refine J_aload_n (M := mX8_fencerAt) dX8_fencerAt_26 rfl rfl ?_
      refine M_get (M := mX8_fencerAt) (v := vR (some (46, 0))) dX8_fencerAt_27 fi_X8_20 rfl ?_
      refine J_iload_n (M := mX8_fencerAt) dX8_fencerAt_30 rfl rfl ?_
      refine M_iald (M := mX8_fencerAt) (kf := 6) (N := 66) dX8_fencerAt_31 rfl (by decide) (by omega) (by omega) ?_
      refine J_goto (M := mX8_fencerAt) (tgt := 41) dX8_fencerAt_32 (by decide) ?_
      refine M_iret (M := mX8_fencerAt) dX8_fencerAt_41 rfl ?_
      exact And.intro (by unfold fa; first | rw [if_pos (by omega)] | rw [if_neg (by omega), if_pos (by omega)] | rw [if_neg (by omega), if_neg (by omega)]) rfl
  · refine J_aload_n (M := mX8_fencerAt) dX8_fencerAt_6 rfl rfl ?_
    refine M_get (M := mX8_fencerAt) (v := vR (some (62, 0))) dX8_fencerAt_7 fi_X8_54 rfl ?_
    refine Z_iconst (M := mX8_fencerAt) dX8_fencerAt_10 ?_
    refine J_iload_n (M := mX8_fencerAt) dX8_fencerAt_11 rfl rfl ?_
    refine Z_bipush (M := mX8_fencerAt) dX8_fencerAt_12 rfl ?_
    refine Z_isub (M := mX8_fencerAt) dX8_fencerAt_14 ?_
    refine Z_imul (M := mX8_fencerAt) dX8_fencerAt_15 ?_
    refine J_iload_n (M := mX8_fencerAt) dX8_fencerAt_16 rfl rfl ?_
    refine Z_iadd (M := mX8_fencerAt) dX8_fencerAt_17 ?_
    refine M_iald (M := mX8_fencerAt) (kf := 22) (N := 32) dX8_fencerAt_18 rfl (by decide) (by omega) (by omega) ?_
    refine J_goto (M := mX8_fencerAt) (tgt := 41) dX8_fencerAt_19 (by decide) ?_
    refine M_iret (M := mX8_fencerAt) dX8_fencerAt_41 rfl ?_
    exact And.intro (by unfold fa; first | rw [if_pos (by omega)] | rw [if_neg (by omega), if_pos (by omega)] | rw [if_neg (by omega), if_neg (by omega)]) rfl

set_option maxRecDepth 100000 in
set_option maxHeartbeats 4000000 in
theorem c_winnerOf {X : GX} {h : LH} {τ : TS} (W : WF τ) {b : Int} (hb : okb b) : CM X mX8_winnerOf [vI (iI b)] h τ (fun v t => v = some (vI (iI (wo τ b))) ∧ t = wt τ b) := by
  have hb2 := hb
  unfold okb at hb2
  have b1 := te_rg W b
  refine CM_of (by decide +kernel) rfl (Nat.le_of_ble_eq_true rfl) ?_
  refine J_iload_n (M := mX8_winnerOf) dX8_winnerOf_0 rfl rfl ?_
  refine Z_bipush (M := mX8_winnerOf) dX8_winnerOf_1 rfl ?_
  refine Z_ic_lt (M := mX8_winnerOf) (tgt := 16) (by first | assumption | exact pI_rg _ | (unfold rg; omega)) (by first | assumption | exact pI_rg _ | (unfold rg; omega)) dX8_winnerOf_3 (by decide) (fun c_3 => ?_) (fun c_3 => ?_)
  · refine J_aload_n (M := mX8_winnerOf) dX8_winnerOf_16 rfl rfl ?_
    refine J_iload_n (M := mX8_winnerOf) dX8_winnerOf_17 rfl rfl ?_
    refine M_call (M := mX8_winnerOf) (as := [_]) dX8_winnerOf_18 ca_X8_145 ⟨by decide, by decide⟩ rfl (Nat.le_of_ble_eq_true rfl) rfl rfl (c_tells W (by omega) (by omega)) (fun v_18 t_18 hv_18 => ?_)
    obtain ⟨rfl, e_18⟩ := hv_18
    rw [e_18]
    refine J_aload_n (M := mX8_winnerOf) dX8_winnerOf_21 rfl rfl ?_
    refine M_get (M := mX8_winnerOf) dX8_winnerOf_22 fi_X8_135 rfl ?_
    rw [t3_at27]
    refine Z_iconst (M := mX8_winnerOf) dX8_winnerOf_25 ?_
    refine Z_ic_ne (M := mX8_winnerOf) (tgt := 33) (by first | assumption | exact pI_rg _ | (unfold rg; omega)) (by first | assumption | exact pI_rg _ | (unfold rg; omega)) dX8_winnerOf_26 (by decide) (fun c_26 => ?_) (fun c_26 => ?_)
    · refine J_aload_n (M := mX8_winnerOf) dX8_winnerOf_33 rfl rfl ?_
      refine J_iload_n (M := mX8_winnerOf) dX8_winnerOf_34 rfl rfl ?_
      refine J_aload_n (M := mX8_winnerOf) dX8_winnerOf_35 rfl rfl ?_
      refine M_get (M := mX8_winnerOf) dX8_winnerOf_36 fi_X8_135 rfl ?_
      rw [t3_at27]
      refine M_call (M := mX8_winnerOf) (as := [_, _]) dX8_winnerOf_39 ca_X8_149 ⟨by decide, by decide⟩ rfl (Nat.le_of_ble_eq_true rfl) rfl rfl (c_fencerAt (WF_t3 W b1) hb (by omega)) (fun v_39 t_39 hv_39 => ?_)
      obtain ⟨rfl, e_39⟩ := hv_39
      rw [e_39]
      rw [fa_t3]
      refine M_iret (M := mX8_winnerOf) dX8_winnerOf_42 rfl ?_
      exact And.intro (by unfold wo; first | rw [if_neg (by omega), if_pos c_26] | rw [if_neg (by omega), if_neg c_26]) (by unfold wt; rw [if_neg (by omega)])
    · refine Z_iconst (M := mX8_winnerOf) dX8_winnerOf_29 ?_
      refine J_goto (M := mX8_winnerOf) (tgt := 42) dX8_winnerOf_30 (by decide) ?_
      refine M_iret (M := mX8_winnerOf) dX8_winnerOf_42 rfl ?_
      exact And.intro (by unfold wo; first | rw [if_neg (by omega), if_pos c_26] | rw [if_neg (by omega), if_neg c_26]) (by unfold wt; rw [if_neg (by omega)])
  · refine J_aload_n (M := mX8_winnerOf) dX8_winnerOf_6 rfl rfl ?_
    refine M_get (M := mX8_winnerOf) (v := vR (some (62, 0))) dX8_winnerOf_7 fi_X8_54 rfl ?_
    refine J_iload_n (M := mX8_winnerOf) dX8_winnerOf_10 rfl rfl ?_
    refine Z_bipush (M := mX8_winnerOf) dX8_winnerOf_11 rfl ?_
    refine Z_isub (M := mX8_winnerOf) dX8_winnerOf_13 ?_
    refine M_iald (M := mX8_winnerOf) (kf := 22) (N := 32) dX8_winnerOf_14 rfl (by decide) (by omega) (by omega) ?_
    refine M_iret (M := mX8_winnerOf) dX8_winnerOf_15 rfl ?_
    exact And.intro (by unfold wo; rw [if_pos (by omega)]) (by unfold wt; rw [if_pos (by omega)])

set_option maxRecDepth 100000 in
set_option maxHeartbeats 4000000 in
theorem c_isFit {X : GX} {h : LH} {τ : TS} (W : WF τ) {b s w : Int} (hb : okb b) (hs : s = 0 ∨ s = 1) (hw0 : 0 ≤ w) (hw1 : w < 24) : CM X mX8_isFit [vI (iI b), vI (iI s), vI (iI w)] h τ (fun v t => v = some (vI (iI (pI (τ 3 w = 1 ∧ fa τ b s = τ 2 w)))) ∧ t = τ) := by
  have b1 := wf3 W w
  have b2 := wf2 W w
  have b3 := fa_rg W b s
  refine CM_of (by decide +kernel) rfl (Nat.le_of_ble_eq_true rfl) ?_
  refine J_aload_n (M := mX8_isFit) dX8_isFit_0 rfl rfl ?_
  refine M_get (M := mX8_isFit) (v := vR (some (43, 0))) dX8_isFit_1 fi_X8_13 rfl ?_
  refine J_iload_n (M := mX8_isFit) dX8_isFit_4 rfl rfl ?_
  refine M_iald (M := mX8_isFit) (kf := 3) (N := 24) dX8_isFit_5 rfl (by decide) (by omega) (by omega) ?_
  refine Z_iconst (M := mX8_isFit) dX8_isFit_6 ?_
  refine Z_ic_ne (M := mX8_isFit) (tgt := 29) (by first | assumption | exact pI_rg _ | (unfold rg; omega)) (by first | assumption | exact pI_rg _ | (unfold rg; omega)) dX8_isFit_7 (by decide) (fun c_7 => ?_) (fun c_7 => ?_)
  · refine Z_iconst (M := mX8_isFit) dX8_isFit_29 ?_
    refine M_zret (M := mX8_isFit) dX8_isFit_30 rfl (by first | exact pI_01 _ | exact Or.inl rfl | exact Or.inr rfl | omega) ?_
    exact And.intro (r0 (by omega)) rfl
  · refine J_aload_n (M := mX8_isFit) dX8_isFit_10 rfl rfl ?_
    refine J_iload_n (M := mX8_isFit) dX8_isFit_11 rfl rfl ?_
    refine J_iload_n (M := mX8_isFit) dX8_isFit_12 rfl rfl ?_
    refine M_call (M := mX8_isFit) (as := [_, _]) dX8_isFit_13 ca_X8_149 ⟨by decide, by decide⟩ rfl (Nat.le_of_ble_eq_true rfl) rfl rfl (c_fencerAt W (by assumption) (by omega)) (fun v_13 t_13 hv_13 => ?_)
    obtain ⟨rfl, e_13⟩ := hv_13
    rw [e_13]
    refine J_aload_n (M := mX8_isFit) dX8_isFit_16 rfl rfl ?_
    refine M_get (M := mX8_isFit) (v := vR (some (42, 0))) dX8_isFit_17 fi_X8_7 rfl ?_
    refine J_iload_n (M := mX8_isFit) dX8_isFit_20 rfl rfl ?_
    refine M_iald (M := mX8_isFit) (kf := 2) (N := 24) dX8_isFit_21 rfl (by decide) (by omega) (by omega) ?_
    refine Z_ic_ne (M := mX8_isFit) (tgt := 29) (by first | assumption | exact pI_rg _ | (unfold rg; omega)) (by first | assumption | exact pI_rg _ | (unfold rg; omega)) dX8_isFit_22 (by decide) (fun c_22 => ?_) (fun c_22 => ?_)
    · refine Z_iconst (M := mX8_isFit) dX8_isFit_29 ?_
      refine M_zret (M := mX8_isFit) dX8_isFit_30 rfl (by first | exact pI_01 _ | exact Or.inl rfl | exact Or.inr rfl | omega) ?_
      exact And.intro (r0 (by omega)) rfl
    · refine Z_iconst (M := mX8_isFit) dX8_isFit_25 ?_
      refine J_goto (M := mX8_isFit) (tgt := 30) dX8_isFit_26 (by decide) ?_
      refine M_zret (M := mX8_isFit) dX8_isFit_30 rfl (by first | exact pI_01 _ | exact Or.inl rfl | exact Or.inr rfl | omega) ?_
      exact And.intro (r1 (And.intro c_7 c_22)) rfl

set_option maxRecDepth 100000 in
set_option maxHeartbeats 4000000 in
theorem c_latest {X : GX} {h : LH} {τ : TS} (W : WF τ) (hb : okb (τ 17 0)) : CM X mX8_latest [] h τ (fun v t => v = some (vI (iI (la τ))) ∧ t = τ) := by
  have b0 := wf17 W 0
  have b1 := slo_rg hb
  refine CM_of (by decide +kernel) rfl (Nat.le_of_ble_eq_true rfl) ?_
  refine J_aload_n (M := mX8_latest) dX8_latest_0 rfl rfl ?_
  refine M_get (M := mX8_latest) dX8_latest_1 fi_X8_47 rfl ?_
  refine M_callS (M := mX8_latest) (as := [_]) dX8_latest_4 ca_X8_164 ⟨by decide, by decide⟩ rfl (Nat.le_of_ble_eq_true rfl) rfl rfl (c_slotOf (by first | assumption | exact pI_rg _ | (unfold rg; omega))) ?_
  refine J_istore_n (M := mX8_latest) dX8_latest_7 rfl (by decide) ?_
  refine Z_bipush (M := mX8_latest) dX8_latest_8 rfl ?_
  refine J_iload_n (M := mX8_latest) dX8_latest_10 rfl rfl ?_
  refine Z_imul (M := mX8_latest) dX8_latest_11 ?_
  refine J_aload_n (M := mX8_latest) dX8_latest_12 rfl rfl ?_
  refine M_get (M := mX8_latest) (v := vR (some (50, 0))) dX8_latest_13 fi_X8_26 rfl ?_
  refine J_iload_n (M := mX8_latest) dX8_latest_16 rfl rfl ?_
  refine M_iald (M := mX8_latest) (kf := 10) (N := 82) dX8_latest_17 rfl (by decide) (by omega) (by omega) ?_
  refine Z_iadd (M := mX8_latest) dX8_latest_18 ?_
  refine M_iret (M := mX8_latest) dX8_latest_19 rfl ?_
  exact And.intro rfl rfl

set_option maxRecDepth 100000 in
set_option maxHeartbeats 4000000 in
theorem c_isTime {X : GX} {h : LH} {τ : TS} (W : WF τ) {t : Int} (ht : rg t) (hp : ¬ τ 19 0 = 0 → okp τ) : CM X mX8_isTime [vI (iI t)] h τ (fun v u => v = some (vI (iI (pI (0 ≤ t ∧ (τ 19 0 = 0 ∨ τ 12 (la τ) = 0 ∨ τ 16 (8 * la τ + τ 12 (la τ) - 1) ≤ t))))) ∧ u = τ) := by
  have b1 := wf19 W 0
  have b2 := wf12 W (la τ)
  have b3 := wf16 W (8 * la τ + τ 12 (la τ) - 1)
  refine CM_of (by decide +kernel) rfl (Nat.le_of_ble_eq_true rfl) ?_
  refine J_iload_n (M := mX8_isTime) dX8_isTime_0 rfl rfl ?_
  refine Z_if_lt (M := mX8_isTime) (tgt := 8) (by first | assumption | exact pI_rg _ | (unfold rg; omega)) dX8_isTime_1 (by decide) (fun c_1 => ?_) (fun c_1 => ?_)
  · refine Z_iconst (M := mX8_isTime) dX8_isTime_8 ?_
    refine J_istore_n (M := mX8_isTime) dX8_isTime_9 rfl (by decide) ?_
    refine J_aload_n (M := mX8_isTime) dX8_isTime_10 rfl rfl ?_
    refine M_get (M := mX8_isTime) dX8_isTime_11 fi_X8_112 rfl ?_
    first
      | refine Z_pf (M := mX8_isTime) (tgt := 63) dX8_isTime_14 (by decide) (fun c_14 => ?_) (fun c_14 => ?_)
      | refine Z_if_eq (M := mX8_isTime) (tgt := 63) (by first | assumption | exact pI_rg _ | (unfold rg; omega)) dX8_isTime_14 (by decide) (fun c_14 => ?_) (fun c_14 => ?_)
    · refine J_iload_n (M := mX8_isTime) dX8_isTime_63 rfl rfl ?_
      refine M_zret (M := mX8_isTime) dX8_isTime_64 rfl (by first | exact pI_01 _ | exact Or.inl rfl | exact Or.inr rfl | omega) ?_
      first
        | exact And.intro (r1 (by omega)) rfl
        | exact And.intro (r0 (by omega)) rfl
    · have hop := hp (by assumption)
      have hob := hop.1
      have hla := la_rg W hop
      refine J_aload_n (M := mX8_isTime) dX8_isTime_17 rfl rfl ?_
      refine M_call (M := mX8_isTime) (as := []) dX8_isTime_18 ca_X8_170 ⟨by decide, by decide⟩ rfl (Nat.le_of_ble_eq_true rfl) rfl rfl (c_latest W (by assumption)) (fun v_18 t_18 hv_18 => ?_)
      obtain ⟨rfl, e_18⟩ := hv_18
      rw [e_18]
      refine J_istore_n (M := mX8_isTime) dX8_isTime_21 rfl (by decide) ?_
      refine J_iload_n (M := mX8_isTime) dX8_isTime_22 rfl rfl ?_
      first
        | refine Z_pf (M := mX8_isTime) (tgt := 61) dX8_isTime_23 (by decide) (fun c_23 => ?_) (fun c_23 => ?_)
        | refine Z_if_eq (M := mX8_isTime) (tgt := 61) (by first | assumption | exact pI_rg _ | (unfold rg; omega)) dX8_isTime_23 (by decide) (fun c_23 => ?_) (fun c_23 => ?_)
      · refine Z_iconst (M := mX8_isTime) dX8_isTime_61 ?_
        refine J_istore_n (M := mX8_isTime) dX8_isTime_62 rfl (by decide) ?_
        refine J_iload_n (M := mX8_isTime) dX8_isTime_63 rfl rfl ?_
        refine M_zret (M := mX8_isTime) dX8_isTime_64 rfl (by first | exact pI_01 _ | exact Or.inl rfl | exact Or.inr rfl | omega) ?_
        first
          | exact And.intro (r1 (by omega)) rfl
          | exact And.intro (r0 (by omega)) rfl
      · refine J_aload_n (M := mX8_isTime) dX8_isTime_26 rfl rfl ?_
        refine M_get (M := mX8_isTime) (v := vR (some (52, 0))) dX8_isTime_27 fi_X8_32 rfl ?_
        refine J_iload_n (M := mX8_isTime) dX8_isTime_30 rfl rfl ?_
        refine M_iald (M := mX8_isTime) (kf := 12) (N := 984) dX8_isTime_31 rfl (by decide) (by omega) (by omega) ?_
        first
          | refine Z_pf (M := mX8_isTime) (tgt := 57) dX8_isTime_32 (by decide) (fun c_32 => ?_) (fun c_32 => ?_)
          | refine Z_if_eq (M := mX8_isTime) (tgt := 57) (by first | assumption | exact pI_rg _ | (unfold rg; omega)) dX8_isTime_32 (by decide) (fun c_32 => ?_) (fun c_32 => ?_)
        · refine Z_iconst (M := mX8_isTime) dX8_isTime_57 ?_
          refine J_goto (M := mX8_isTime) (tgt := 62) dX8_isTime_58 (by decide) ?_
          refine J_istore_n (M := mX8_isTime) dX8_isTime_62 rfl (by decide) ?_
          refine J_iload_n (M := mX8_isTime) dX8_isTime_63 rfl rfl ?_
          refine M_zret (M := mX8_isTime) dX8_isTime_64 rfl (by first | exact pI_01 _ | exact Or.inl rfl | exact Or.inr rfl | omega) ?_
          first
            | exact And.intro (r1 (by omega)) rfl
            | exact And.intro (r0 (by omega)) rfl
        · refine J_iload_n (M := mX8_isTime) dX8_isTime_35 rfl rfl ?_
          refine J_aload_n (M := mX8_isTime) dX8_isTime_36 rfl rfl ?_
          refine M_get (M := mX8_isTime) (v := vR (some (56, 0))) dX8_isTime_37 fi_X8_44 rfl ?_
          refine Z_bipush (M := mX8_isTime) dX8_isTime_40 rfl ?_
          refine J_iload_n (M := mX8_isTime) dX8_isTime_42 rfl rfl ?_
          refine Z_imul (M := mX8_isTime) dX8_isTime_43 ?_
          refine J_aload_n (M := mX8_isTime) dX8_isTime_44 rfl rfl ?_
          refine M_get (M := mX8_isTime) (v := vR (some (52, 0))) dX8_isTime_45 fi_X8_32 rfl ?_
          refine J_iload_n (M := mX8_isTime) dX8_isTime_48 rfl rfl ?_
          refine M_iald (M := mX8_isTime) (kf := 12) (N := 984) dX8_isTime_49 rfl (by decide) (by omega) (by omega) ?_
          refine Z_iadd (M := mX8_isTime) dX8_isTime_50 ?_
          refine Z_iconst (M := mX8_isTime) dX8_isTime_51 ?_
          refine Z_isub (M := mX8_isTime) dX8_isTime_52 ?_
          refine M_iald (M := mX8_isTime) (kf := 16) (N := 7872) dX8_isTime_53 rfl (by decide) (by omega) (by omega) ?_
          refine Z_ic_lt (M := mX8_isTime) (tgt := 61) (by first | assumption | exact pI_rg _ | (unfold rg; omega)) (by first | assumption | exact pI_rg _ | (unfold rg; omega)) dX8_isTime_54 (by decide) (fun c_54 => ?_) (fun c_54 => ?_)
          · refine Z_iconst (M := mX8_isTime) dX8_isTime_61 ?_
            refine J_istore_n (M := mX8_isTime) dX8_isTime_62 rfl (by decide) ?_
            refine J_iload_n (M := mX8_isTime) dX8_isTime_63 rfl rfl ?_
            refine M_zret (M := mX8_isTime) dX8_isTime_64 rfl (by first | exact pI_01 _ | exact Or.inl rfl | exact Or.inr rfl | omega) ?_
            first
              | exact And.intro (r1 (by omega)) rfl
              | exact And.intro (r0 (by omega)) rfl
          · refine Z_iconst (M := mX8_isTime) dX8_isTime_57 ?_
            refine J_goto (M := mX8_isTime) (tgt := 62) dX8_isTime_58 (by decide) ?_
            refine J_istore_n (M := mX8_isTime) dX8_isTime_62 rfl (by decide) ?_
            refine J_iload_n (M := mX8_isTime) dX8_isTime_63 rfl rfl ?_
            refine M_zret (M := mX8_isTime) dX8_isTime_64 rfl (by first | exact pI_01 _ | exact Or.inl rfl | exact Or.inr rfl | omega) ?_
            first
              | exact And.intro (r1 (by omega)) rfl
              | exact And.intro (r0 (by omega)) rfl
  · refine Z_iconst (M := mX8_isTime) dX8_isTime_4 ?_
    refine J_goto (M := mX8_isTime) (tgt := 9) dX8_isTime_5 (by decide) ?_
    refine J_istore_n (M := mX8_isTime) dX8_isTime_9 rfl (by decide) ?_
    refine J_aload_n (M := mX8_isTime) dX8_isTime_10 rfl rfl ?_
    refine M_get (M := mX8_isTime) dX8_isTime_11 fi_X8_112 rfl ?_
    first
      | refine Z_pf (M := mX8_isTime) (tgt := 63) dX8_isTime_14 (by decide) (fun c_14 => ?_) (fun c_14 => ?_)
      | refine Z_if_eq (M := mX8_isTime) (tgt := 63) (by first | assumption | exact pI_rg _ | (unfold rg; omega)) dX8_isTime_14 (by decide) (fun c_14 => ?_) (fun c_14 => ?_)
    · refine J_iload_n (M := mX8_isTime) dX8_isTime_63 rfl rfl ?_
      refine M_zret (M := mX8_isTime) dX8_isTime_64 rfl (by first | exact pI_01 _ | exact Or.inl rfl | exact Or.inr rfl | omega) ?_
      first
        | exact And.intro (r1 (by omega)) rfl
        | exact And.intro (r0 (by omega)) rfl
    · have hop := hp (by assumption)
      have hob := hop.1
      have hla := la_rg W hop
      refine J_aload_n (M := mX8_isTime) dX8_isTime_17 rfl rfl ?_
      refine M_call (M := mX8_isTime) (as := []) dX8_isTime_18 ca_X8_170 ⟨by decide, by decide⟩ rfl (Nat.le_of_ble_eq_true rfl) rfl rfl (c_latest W (by assumption)) (fun v_18 t_18 hv_18 => ?_)
      obtain ⟨rfl, e_18⟩ := hv_18
      rw [e_18]
      refine J_istore_n (M := mX8_isTime) dX8_isTime_21 rfl (by decide) ?_
      refine J_iload_n (M := mX8_isTime) dX8_isTime_22 rfl rfl ?_
      first
        | refine Z_pf (M := mX8_isTime) (tgt := 61) dX8_isTime_23 (by decide) (fun c_23 => ?_) (fun c_23 => ?_)
        | refine Z_if_eq (M := mX8_isTime) (tgt := 61) (by first | assumption | exact pI_rg _ | (unfold rg; omega)) dX8_isTime_23 (by decide) (fun c_23 => ?_) (fun c_23 => ?_)
      · refine Z_iconst (M := mX8_isTime) dX8_isTime_61 ?_
        refine J_istore_n (M := mX8_isTime) dX8_isTime_62 rfl (by decide) ?_
        refine J_iload_n (M := mX8_isTime) dX8_isTime_63 rfl rfl ?_
        refine M_zret (M := mX8_isTime) dX8_isTime_64 rfl (by first | exact pI_01 _ | exact Or.inl rfl | exact Or.inr rfl | omega) ?_
        first
          | exact And.intro (r1 (by omega)) rfl
          | exact And.intro (r0 (by omega)) rfl
      · refine J_aload_n (M := mX8_isTime) dX8_isTime_26 rfl rfl ?_
        refine M_get (M := mX8_isTime) (v := vR (some (52, 0))) dX8_isTime_27 fi_X8_32 rfl ?_
        refine J_iload_n (M := mX8_isTime) dX8_isTime_30 rfl rfl ?_
        refine M_iald (M := mX8_isTime) (kf := 12) (N := 984) dX8_isTime_31 rfl (by decide) (by omega) (by omega) ?_
        first
          | refine Z_pf (M := mX8_isTime) (tgt := 57) dX8_isTime_32 (by decide) (fun c_32 => ?_) (fun c_32 => ?_)
          | refine Z_if_eq (M := mX8_isTime) (tgt := 57) (by first | assumption | exact pI_rg _ | (unfold rg; omega)) dX8_isTime_32 (by decide) (fun c_32 => ?_) (fun c_32 => ?_)
        · refine Z_iconst (M := mX8_isTime) dX8_isTime_57 ?_
          refine J_goto (M := mX8_isTime) (tgt := 62) dX8_isTime_58 (by decide) ?_
          refine J_istore_n (M := mX8_isTime) dX8_isTime_62 rfl (by decide) ?_
          refine J_iload_n (M := mX8_isTime) dX8_isTime_63 rfl rfl ?_
          refine M_zret (M := mX8_isTime) dX8_isTime_64 rfl (by first | exact pI_01 _ | exact Or.inl rfl | exact Or.inr rfl | omega) ?_
          first
            | exact And.intro (r1 (by omega)) rfl
            | exact And.intro (r0 (by omega)) rfl
        · refine J_iload_n (M := mX8_isTime) dX8_isTime_35 rfl rfl ?_
          refine J_aload_n (M := mX8_isTime) dX8_isTime_36 rfl rfl ?_
          refine M_get (M := mX8_isTime) (v := vR (some (56, 0))) dX8_isTime_37 fi_X8_44 rfl ?_
          refine Z_bipush (M := mX8_isTime) dX8_isTime_40 rfl ?_
          refine J_iload_n (M := mX8_isTime) dX8_isTime_42 rfl rfl ?_
          refine Z_imul (M := mX8_isTime) dX8_isTime_43 ?_
          refine J_aload_n (M := mX8_isTime) dX8_isTime_44 rfl rfl ?_
          refine M_get (M := mX8_isTime) (v := vR (some (52, 0))) dX8_isTime_45 fi_X8_32 rfl ?_
          refine J_iload_n (M := mX8_isTime) dX8_isTime_48 rfl rfl ?_
          refine M_iald (M := mX8_isTime) (kf := 12) (N := 984) dX8_isTime_49 rfl (by decide) (by omega) (by omega) ?_
          refine Z_iadd (M := mX8_isTime) dX8_isTime_50 ?_
          refine Z_iconst (M := mX8_isTime) dX8_isTime_51 ?_
          refine Z_isub (M := mX8_isTime) dX8_isTime_52 ?_
          refine M_iald (M := mX8_isTime) (kf := 16) (N := 7872) dX8_isTime_53 rfl (by decide) (by omega) (by omega) ?_
          refine Z_ic_lt (M := mX8_isTime) (tgt := 61) (by first | assumption | exact pI_rg _ | (unfold rg; omega)) (by first | assumption | exact pI_rg _ | (unfold rg; omega)) dX8_isTime_54 (by decide) (fun c_54 => ?_) (fun c_54 => ?_)
          · refine Z_iconst (M := mX8_isTime) dX8_isTime_61 ?_
            refine J_istore_n (M := mX8_isTime) dX8_isTime_62 rfl (by decide) ?_
            refine J_iload_n (M := mX8_isTime) dX8_isTime_63 rfl rfl ?_
            refine M_zret (M := mX8_isTime) dX8_isTime_64 rfl (by first | exact pI_01 _ | exact Or.inl rfl | exact Or.inr rfl | omega) ?_
            first
              | exact And.intro (r1 (by omega)) rfl
              | exact And.intro (r0 (by omega)) rfl
          · refine Z_iconst (M := mX8_isTime) dX8_isTime_57 ?_
            refine J_goto (M := mX8_isTime) (tgt := 62) dX8_isTime_58 (by decide) ?_
            refine J_istore_n (M := mX8_isTime) dX8_isTime_62 rfl (by decide) ?_
            refine J_iload_n (M := mX8_isTime) dX8_isTime_63 rfl rfl ?_
            refine M_zret (M := mX8_isTime) dX8_isTime_64 rfl (by first | exact pI_01 _ | exact Or.inl rfl | exact Or.inr rfl | omega) ?_
            first
              | exact And.intro (r1 (by omega)) rfl
              | exact And.intro (r0 (by omega)) rfl

set_option maxRecDepth 100000 in
set_option maxHeartbeats 4000000 in
theorem c_hears {X : GX} {h : LH} {τ : TS} (W : WF τ) (hp : ¬ τ 19 0 = 0 → okp τ) : CM X mX8_hears [] h τ (fun v u => v = some (vI (iI (pI (¬ τ 19 0 = 0 ∧ τ 12 (la τ) < 8)))) ∧ u = τ) := by
  have b1 := wf19 W 0
  have b2 := wf12 W (la τ)
  refine CM_of (by decide +kernel) rfl (Nat.le_of_ble_eq_true rfl) ?_
  refine J_aload_n (M := mX8_hears) dX8_hears_0 rfl rfl ?_
  refine M_get (M := mX8_hears) dX8_hears_1 fi_X8_112 rfl ?_
  first
    | refine Z_pf (M := mX8_hears) (tgt := 25) dX8_hears_4 (by decide) (fun c_4 => ?_) (fun c_4 => ?_)
    | refine Z_if_eq (M := mX8_hears) (tgt := 25) (by first | assumption | exact pI_rg _ | (unfold rg; omega)) dX8_hears_4 (by decide) (fun c_4 => ?_) (fun c_4 => ?_)
  · refine Z_iconst (M := mX8_hears) dX8_hears_25 ?_
    refine M_zret (M := mX8_hears) dX8_hears_26 rfl (by first | exact pI_01 _ | exact Or.inl rfl | exact Or.inr rfl | omega) ?_
    exact And.intro (r0 (by omega)) rfl
  · have hop := hp (by assumption)
    have hob := hop.1
    have hla := la_rg W hop
    refine J_aload_n (M := mX8_hears) dX8_hears_7 rfl rfl ?_
    refine M_get (M := mX8_hears) (v := vR (some (52, 0))) dX8_hears_8 fi_X8_32 rfl ?_
    refine J_aload_n (M := mX8_hears) dX8_hears_11 rfl rfl ?_
    refine M_call (M := mX8_hears) (as := []) dX8_hears_12 ca_X8_170 ⟨by decide, by decide⟩ rfl (Nat.le_of_ble_eq_true rfl) rfl rfl (c_latest W (by assumption)) (fun v_12 t_12 hv_12 => ?_)
    obtain ⟨rfl, e_12⟩ := hv_12
    rw [e_12]
    refine M_iald (M := mX8_hears) (kf := 12) (N := 984) dX8_hears_15 rfl (by decide) (by omega) (by omega) ?_
    refine Z_bipush (M := mX8_hears) dX8_hears_16 rfl ?_
    refine Z_ic_ge (M := mX8_hears) (tgt := 25) (by first | assumption | exact pI_rg _ | (unfold rg; omega)) (by first | assumption | exact pI_rg _ | (unfold rg; omega)) dX8_hears_18 (by decide) (fun c_18 => ?_) (fun c_18 => ?_)
    · refine Z_iconst (M := mX8_hears) dX8_hears_25 ?_
      refine M_zret (M := mX8_hears) dX8_hears_26 rfl (by first | exact pI_01 _ | exact Or.inl rfl | exact Or.inr rfl | omega) ?_
      exact And.intro (r0 (by omega)) rfl
    · refine Z_iconst (M := mX8_hears) dX8_hears_21 ?_
      refine J_goto (M := mX8_hears) (tgt := 26) dX8_hears_22 (by decide) ?_
      refine M_zret (M := mX8_hears) dX8_hears_26 rfl (by first | exact pI_01 _ | exact Or.inl rfl | exact Or.inr rfl | omega) ?_
      exact And.intro (r1 (by omega)) rfl

def evt (τ : TS) (c t : Int) : TS := ts (ts (ts τ 15 (8 * la τ + τ 12 (la τ)) c) 16 (8 * la τ + τ 12 (la τ)) t) 12 (la τ) (τ 12 (la τ) + 1)
set_option maxRecDepth 100000 in
set_option maxHeartbeats 4000000 in
theorem c_event {X : GX} {h : LH} {τ : TS} (W : WF τ) {c t : Int} (hp : okp τ) (hc : τ 12 (la τ) < 8) : CM X mX8_event [vI (iI c), vI (iI t)] h τ (fun v u => v = some (vI (iI (τ 12 (la τ) + 1))) ∧ u = evt τ c t) := by
  have hob := hp.1
  have hla := la_rg W hp
  have b2 := wf12 W (la τ)
  refine CM_of (by decide +kernel) rfl (Nat.le_of_ble_eq_true rfl) ?_
  refine J_aload_n (M := mX8_event) dX8_event_0 rfl rfl ?_
  refine M_call (M := mX8_event) (as := []) dX8_event_1 ca_X8_170 ⟨by decide, by decide⟩ rfl (Nat.le_of_ble_eq_true rfl) rfl rfl (c_latest W (by assumption)) (fun v_1 t_1 hv_1 => ?_)
  obtain ⟨rfl, e_1⟩ := hv_1
  rw [e_1]
  refine J_istore_n (M := mX8_event) dX8_event_4 rfl (by decide) ?_
  refine J_aload_n (M := mX8_event) dX8_event_5 rfl rfl ?_
  refine M_get (M := mX8_event) (v := vR (some (55, 0))) dX8_event_6 fi_X8_41 rfl ?_
  refine Z_bipush (M := mX8_event) dX8_event_9 rfl ?_
  refine J_iload_n (M := mX8_event) dX8_event_11 rfl rfl ?_
  refine Z_imul (M := mX8_event) dX8_event_12 ?_
  refine J_aload_n (M := mX8_event) dX8_event_13 rfl rfl ?_
  refine M_get (M := mX8_event) (v := vR (some (52, 0))) dX8_event_14 fi_X8_32 rfl ?_
  refine J_iload_n (M := mX8_event) dX8_event_17 rfl rfl ?_
  refine M_iald (M := mX8_event) (kf := 12) (N := 984) dX8_event_18 rfl (by decide) (by omega) (by omega) ?_
  refine Z_iadd (M := mX8_event) dX8_event_19 ?_
  refine J_iload_n (M := mX8_event) dX8_event_20 rfl rfl ?_
  refine M_iast (M := mX8_event) (kf := 15) (N := 7872) dX8_event_21 rfl rfl rfl rfl (by decide) (by decide) (by omega) (by omega) ?_
  refine J_aload_n (M := mX8_event) dX8_event_22 rfl rfl ?_
  refine M_get (M := mX8_event) (v := vR (some (56, 0))) dX8_event_23 fi_X8_44 rfl ?_
  refine Z_bipush (M := mX8_event) dX8_event_26 rfl ?_
  refine J_iload_n (M := mX8_event) dX8_event_28 rfl rfl ?_
  refine Z_imul (M := mX8_event) dX8_event_29 ?_
  refine J_aload_n (M := mX8_event) dX8_event_30 rfl rfl ?_
  refine M_get (M := mX8_event) (v := vR (some (52, 0))) dX8_event_31 fi_X8_32 rfl ?_
  refine J_iload_n (M := mX8_event) dX8_event_34 rfl rfl ?_
  refine M_iald (M := mX8_event) (kf := 12) (N := 984) dX8_event_35 rfl (by decide) (by omega) (by omega) ?_
  refine Z_eq (M := mX8_event) (b := τ 12 (la τ)) rfl ?_
  refine Z_iadd (M := mX8_event) dX8_event_36 ?_
  refine J_iload_n (M := mX8_event) dX8_event_37 rfl rfl ?_
  refine M_iast (M := mX8_event) (kf := 16) (N := 7872) dX8_event_38 rfl rfl rfl rfl (by decide) (by decide) (by omega) (by omega) ?_
  refine J_aload_n (M := mX8_event) dX8_event_39 rfl rfl ?_
  refine M_get (M := mX8_event) (v := vR (some (52, 0))) dX8_event_40 fi_X8_32 rfl ?_
  refine J_iload_n (M := mX8_event) dX8_event_43 rfl rfl ?_
  refine J_dup2 (M := mX8_event) dX8_event_44 rfl rfl ?_
  refine M_iald (M := mX8_event) (kf := 12) (N := 984) dX8_event_45 rfl (by decide) (by omega) (by omega) ?_
  refine Z_eq (M := mX8_event) (b := τ 12 (la τ)) rfl ?_
  refine Z_iconst (M := mX8_event) dX8_event_46 ?_
  refine Z_iadd (M := mX8_event) dX8_event_47 ?_
  refine M_iast (M := mX8_event) (kf := 12) (N := 984) dX8_event_48 rfl rfl rfl rfl (by decide) (by decide) (by omega) (by omega) ?_
  refine J_aload_n (M := mX8_event) dX8_event_49 rfl rfl ?_
  refine M_get (M := mX8_event) (v := vR (some (52, 0))) dX8_event_50 fi_X8_32 rfl ?_
  refine J_iload_n (M := mX8_event) dX8_event_53 rfl rfl ?_
  refine M_iald (M := mX8_event) (kf := 12) (N := 984) dX8_event_54 rfl (by decide) (by omega) (by omega) ?_
  refine Z_eq (M := mX8_event) (b := τ 12 (la τ) + 1) ts_self ?_
  refine M_iret (M := mX8_event) dX8_event_55 rfl ?_
  exact And.intro rfl rfl

