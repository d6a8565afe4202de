/-! THE CLASS: begin, change, contact, right -/
theorem VB_B {τ : TS} (W : WF τ) {b : Int} : VB τ b ↔ isB τ b := by
  have := wf21 W 0
  unfold VB
  constructor <;> (intro h; rcases h with h | h) <;> first | (left; omega) | (right; omega)
theorem SN_live {τ : TS} (W : WF τ) {b : Int} (h : isB τ b) : LVb τ (slo b) ∧ okb b ∧ 0 ≤ slo b ∧ slo b < 82 := by
  have w9 := wf9 W 0
  have w21 := wf21 W 0
  have hs : (b < 100 → slo b = b) ∧ (100 ≤ b → slo b = b - 34) := by unfold slo; split <;> omega
  refine ⟨?_, ?_, ?_⟩
  · unfold LVb
    rcases h with h | h
    · left; rw [hs.1 (by omega)]; omega
    · right; rw [hs.2 (by omega)]; omega
  · unfold okb
    rcases h with h | h
    · left; omega
    · right; omega
  · rcases h with h | h
    · rw [hs.1 (by omega)]; omega
    · rw [hs.2 (by omega)]; omega
/-- the three pictures of the piste -/
theorem pst_c {ρ τ : TS} {c : Int} (R : RR ρ τ c) :
    (τ 17 0 = -1 ∧ τ 19 0 = 0 ∧ ρ 37 0 = -1 ∧ ρ 38 0 = -1 ∧ ρ 39 0 = -1 ∧ ρ 40 0 = -1 ∧ ρ 41 0 = -1) ∨
    (¬ τ 17 0 = -1 ∧ τ 19 0 = 0 ∧ isB τ (τ 17 0) ∧ ρ 38 0 = slo (τ 17 0) ∧ (ρ 39 0 = τ 18 0 ∧ ρ 40 0 = τ 18 1 ∧ τ 18 0 < ρ 47 1 ∧ τ 18 1 < ρ 47 1) ∧ BB ρ τ (slo (τ 17 0)) ∧ okb (τ 17 0) ∧ ρ 41 0 = -1 ∧ ρ 42 0 = τ 20 0 ∧ (¬ τ 20 0 = 0 → 1 ≤ τ 10 (slo (τ 17 0)))) ∨
    (¬ τ 17 0 = -1 ∧ ¬ τ 19 0 = 0 ∧ isB τ (τ 17 0) ∧ ρ 38 0 = slo (τ 17 0) ∧ (ρ 39 0 = τ 18 0 ∧ ρ 40 0 = τ 18 1 ∧ τ 18 0 < ρ 47 1 ∧ τ 18 1 < ρ 47 1) ∧ BB ρ τ (slo (τ 17 0)) ∧ okb (τ 17 0) ∧ PH ρ τ (ρ 41 0) (la τ) ∧ τ 10 (slo (τ 17 0)) < 12) := by
  obtain ⟨W, V, B, S, ⟨p1, p2⟩, f⟩ := R
  by_cases q : τ 19 0 = 0
  · obtain ⟨a1, a2, a3, a4⟩ := p1 q
    by_cases z : τ 17 0 = -1
    · left
      obtain ⟨b1, b2, b3⟩ := a3 z
      exact ⟨z, q, by omega, b1, b2, b3, a1⟩
    · right; left
      obtain ⟨v1, v2, v3, v4, v5, v6, v7, v8⟩ := a4 z
      have hb := (VB_B W).mp v1
      have hl := SN_live W hb
      exact ⟨z, q, hb, v2, ⟨v3, v4, v5, v6⟩, S.2.2.1 _ hl.1, hl.2.1, a1, v7, v8⟩
  · right; right
    obtain ⟨q1, q2, q3, q4, q5, q6, q7⟩ := p2 q
    have hb := (VB_B W).mp q2
    have hl := SN_live W hb
    exact ⟨q1, q, hb, q4, q5, S.2.2.1 _ hl.1, hl.2.1, q6, q7⟩
theorem run_c {ρ τ : TS} {c : Int} (R : RR ρ τ c) : (τ 19 0 = 0 ∧ ρ 41 0 = -1) ∨ (¬ τ 19 0 = 0 ∧ 0 ≤ ρ 41 0 ∧ ρ 41 0 < ρ 47 2) := by
  rcases pst_c R with ⟨h1, h2, h3, h4, h5, h6, h7⟩ | ⟨h1, h2, h3, h4, h5, h6, h7, h8, h9⟩ | ⟨h1, h2, h3, h4, h5, h6, h7, h8, h9⟩
  · exact Or.inl ⟨h2, h7⟩
  · exact Or.inl ⟨h2, h8⟩
  · exact Or.inr ⟨h2, h8.1⟩
/-- who can be fenced -/
theorem cbf {ρ τ : TS} {c b : Int} (R : RR ρ τ c) (hB : isB τ b) : (¬ ρ 18 (slo b) = -1 ∧ ¬ ρ 19 (slo b) = -1 ∧ (te τ (slo b)).2.2 = -1) ↔ (0 ≤ fa τ b 0 ∧ 0 ≤ fa τ b 1 ∧ wo τ b = -1) := by
  have W := R.1
  have e0 := fa_e R hB (s := 0) (by omega)
  have e1 := fa_e R hB (s := 1) (by omega)
  rw [if_pos rfl] at e0
  rw [if_neg (by decide)] at e1
  have hs0 : ρ 18 (slo b) = -1 ↔ fa τ b 0 < 0 := by rw [e0]; have := fa_rg W b 0; constructor <;> intro q <;> first | (by_cases z : fa τ b 0 < 0; exact z; rw [if_neg z] at q; omega) | rw [if_pos q]
  have hs1 : ρ 19 (slo b) = -1 ↔ fa τ b 1 < 0 := by rw [e1]; have := fa_rg W b 1; constructor <;> intro q <;> first | (by_cases z : fa τ b 1 < 0; exact z; rw [if_neg z] at q; omega) | rw [if_pos q]
  have key : 0 ≤ fa τ b 0 → 0 ≤ fa τ b 1 → (wo τ b = -1 ↔ (te τ (slo b)).2.2 = -1) := by
    intro q0 q1
    have hte := te_rg W (slo b)
    rcases bAt_c (n := b) R with ⟨i1, i2, i3, i4, i5, i6⟩ | ⟨i1, i2⟩
    · by_cases q : 100 ≤ b
      · obtain ⟨z1, z2, z3⟩ := i6 q
        obtain ⟨-, hset⟩ := R.2.2.2.1.2.2.2.2.1 (b - 100) z2 z3
        have f0 : fa τ b 0 = τ 22 (2 * (b - 100)) := by unfold fa; rw [if_pos q, Int.add_zero]
        have f1 : fa τ b 1 = τ 22 (2 * (b - 100) + 1) := by unfold fa; rw [if_pos q]
        unfold wo
        rw [if_pos q, hset]
        unfold fwin
        rw [show 66 + (b - 100) = slo b by omega, ← f0, ← f1]
        unfold fnow
        rw [if_pos ⟨q0, q1⟩]
        by_cases y : (te τ (slo b)).2.2 = -1
        · rw [if_pos y]; exact ⟨fun _ => y, fun _ => rfl⟩
        · rw [if_neg y]
          refine ⟨fun x => ?_, fun x => absurd x y⟩
          by_cases y2 : (te τ (slo b)).2.2 = 0
          · rw [if_pos y2] at x; omega
          · rw [if_neg y2] at x; omega
      · obtain ⟨z1, z2⟩ := i5 (by omega)
        rw [z1] at hte ⊢
        unfold wo
        rw [if_neg q]
        by_cases y : (te τ b).2.2 = -1
        · rw [if_pos y]; exact ⟨fun _ => y, fun _ => rfl⟩
        · rw [if_neg y]
          refine ⟨fun x => ?_, fun x => absurd x y⟩
          by_cases y2 : (te τ b).2.2 = 0
          · rw [y2] at x; omega
          · rw [show (te τ b).2.2 = 1 by omega] at x; omega
    · exact absurd hB i1
  constructor
  · intro ⟨x1, x2, x3⟩
    have y0 : 0 ≤ fa τ b 0 := Int.not_lt.mp (fun z => x1 (hs0.mpr z))
    have y1 : 0 ≤ fa τ b 1 := Int.not_lt.mp (fun z => x2 (hs1.mpr z))
    exact ⟨y0, y1, (key y0 y1).mpr x3⟩
  · intro ⟨x1, x2, x3⟩
    exact ⟨fun z => by have := hs0.mp z; omega, fun z => by have := hs1.mp z; omega, (key x1 x2).mp x3⟩
theorem RR_begin {ρ τ : TS} {c b v w : Int} (R : RR ρ τ c) (hoff : τ 19 0 = 0) (hB : isB τ b) (hv : 0 ≤ v ∧ v ≤ τ 5 0 - 1) (hw : 0 ≤ w ∧ w ≤ τ 5 0 - 1) (f0 : 0 ≤ fa τ b 0) (f1 : 0 ≤ fa τ b 1) : RR (pst ρ b (slo b) v w) (ts (ts (ts (ts τ 17 0 b) 18 0 v) 18 1 w) 20 0 0) c := by
  obtain ⟨W, V, B, ⟨s3, s4, s5, s6, s7, s8, s9, s10, s11, s13⟩, p, f⟩ := R
  have w5 := wf5 W 0
  have w9 := wf9 W 0
  have w21 := wf21 W 0
  have hl := SN_live W hB
  have a47 : ρ 47 1 = τ 5 0 := B.1.2.2.2.2.1
  have hbr : 0 ≤ b ∧ b ≤ 115 := by rcases hB with h | h <;> omega
  have W' : WF (ts (ts (ts (ts τ 17 0 b) 18 0 v) 18 1 w) 20 0 0) := WF_ts (WF_ts (WF_ts (WF_ts W (show (-1 : Int) ≤ _ ∧ _ ≤ (115 : Int) by omega)) (show (0 : Int) ≤ _ ∧ _ ≤ (23 : Int) by omega)) (show (0 : Int) ≤ _ ∧ _ ≤ (23 : Int) by omega)) (show (0 : Int) ≤ _ ∧ _ ≤ (1 : Int) by omega)
  have V' : WK (pst ρ b (slo b) v w) := WK_ts (WK_ts (WK_ts (WK_ts (WK_ts (WK_ts V (show (-1 : Int) ≤ _ ∧ _ ≤ (115 : Int) by omega)) (show (-1 : Int) ≤ _ ∧ _ ≤ (81 : Int) by omega)) (show (-1 : Int) ≤ _ ∧ _ ≤ (23 : Int) by omega)) (show (-1 : Int) ≤ _ ∧ _ ≤ (23 : Int) by omega)) (show (-1 : Int) ≤ _ ∧ _ ≤ (100000 : Int) by omega)) (show (0 : Int) ≤ _ ∧ _ ≤ (1 : Int) by omega)
  refine ⟨W', V', B, ⟨s3, s4, s5, s6, s7, s8, s9, s10, fun k a d e => ?_, s13⟩, ⟨fun _ => ?_, fun q => absurd hoff q⟩, f⟩
  · have e' : b = 100 + k := e
    have e0 : fa τ b 0 = τ 22 (2 * k) := by unfold fa; rw [if_pos (by omega), show 2 * (b - 100) + 0 = 2 * k by omega]
    have e1 : fa τ b 1 = τ 22 (2 * k + 1) := by unfold fa; rw [if_pos (by omega), show 2 * (b - 100) + 1 = 2 * k + 1 by omega]
    show 0 ≤ τ 22 (2 * k) ∧ 0 ≤ τ 22 (2 * k + 1)
    omega
  · refine ⟨rfl, rfl, fun q => ?_, fun _ => ⟨(VB_B W).mpr hB, rfl, rfl, rfl, ?_, ?_, rfl, fun q => absurd rfl q⟩⟩
    · have : b = -1 := q
      omega
    · show v < ρ 47 1
      omega
    · show w < ρ 47 1
      omega
theorem bAt_n {ρ τ : TS} {c b : Int} (R : RR ρ τ c) (h : isB τ b) : ¬ bAt τ b < 0 := by
  rcases bAt_c (n := b) R with q | q
  · have := q.2.1
    have := q.2.2.1.1
    omega
  · exact absurd h q.1
theorem wAt_n {τ : TS} {w : Int} (h : 0 ≤ w ∧ w ≤ τ 5 0 - 1) : ¬ wAt τ w < 0 := by
  unfold wAt
  rw [if_pos h]
  omega
set_option maxRecDepth 100000 in
set_option maxHeartbeats 4000000 in
theorem p_begin {X : GX} {h : LH} {ρ τ : TS} {c : Int} (R : RR ρ τ c) {b v w : Int} (hb : rg b) (hv : rg v) (hw : rg w) : CX X mX7_begin [vR (some (1, 0)), vI (iI b), vI (iI v), vI (iI w)] h ρ (PX (gl (pI (((0 ≤ b ∧ b ≤ τ 9 0 - 1) ∨ (0 < τ 21 0 ∧ 101 ≤ b ∧ b ≤ 99 + τ 21 0)) ∧ (0 ≤ v ∧ v ≤ τ 5 0 - 1) ∧ 0 ≤ w ∧ w ≤ τ 5 0 - 1)) (pI (((((0 ≤ b ∧ b ≤ τ 9 0 - 1) ∨ (0 < τ 21 0 ∧ 101 ≤ b ∧ b ≤ 99 + τ 21 0)) ∧ (0 ≤ v ∧ v ≤ τ 5 0 - 1) ∧ 0 ≤ w ∧ w ≤ τ 5 0 - 1) ∧ τ 19 0 = 0 ∧ 0 ≤ fa τ b 0 ∧ 0 ≤ fa τ b 1) ∧ wo τ b = -1 ∧ (τ 3 v = 1 ∧ fa τ b 0 = τ 2 v) ∧ τ 3 w = 1 ∧ fa τ b 1 = τ 2 w)) 1) (τ 10 (slo b)) (fun r => RR r (ts (ts (ts (ts τ 17 0 b) 18 0 v) 18 1 w) 20 0 0) c)) (EM [2, 0] (gl (pI (((0 ≤ b ∧ b ≤ τ 9 0 - 1) ∨ (0 < τ 21 0 ∧ 101 ≤ b ∧ b ≤ 99 + τ 21 0)) ∧ (0 ≤ v ∧ v ≤ τ 5 0 - 1) ∧ 0 ≤ w ∧ w ≤ τ 5 0 - 1)) (pI (((((0 ≤ b ∧ b ≤ τ 9 0 - 1) ∨ (0 < τ 21 0 ∧ 101 ≤ b ∧ b ≤ 99 + τ 21 0)) ∧ (0 ≤ v ∧ v ≤ τ 5 0 - 1) ∧ 0 ≤ w ∧ w ≤ τ 5 0 - 1) ∧ τ 19 0 = 0 ∧ 0 ≤ fa τ b 0 ∧ 0 ≤ fa τ b 1) ∧ wo τ b = -1 ∧ (τ 3 v = 1 ∧ fa τ b 0 = τ 2 v) ∧ τ 3 w = 1 ∧ fa τ b 1 = τ 2 w)) 1)) := by
  have W := R.1
  have V := R.2.1
  have hR : τ 19 0 = 0 → ρ 41 0 = -1 := fun q => by
    rcases run_c R with z | z
    · exact z.2
    · exact absurd q z.1
  have hR2 : ρ 41 0 < 0 → τ 19 0 = 0 := fun q => by
    rcases run_c R with z | z
    · exact z.1
    · have := z.2.1; omega
  obtain ⟨x, hx⟩ : ∃ x, x = bAt τ b := ⟨_, rfl⟩
  obtain ⟨y, hy⟩ : ∃ y, y = wAt τ v := ⟨_, rfl⟩
  obtain ⟨z, hz⟩ : ∃ z, z = wAt τ w := ⟨_, rfl⟩
  refine CT_of (by decide +kernel) rfl (Nat.le_of_ble_eq_true rfl) ?_
  refine J_aload_n (M := mX7_begin) dX7_begin_0 rfl rfl ?_
  refine J_iload_n (M := mX7_begin) dX7_begin_1 rfl rfl ?_
  refine J_callV (M := mX7_begin) (as := [_]) dX7_begin_2 ca_X7_114 ⟨by decide, by decide⟩ (hk_1 (by first | exact rfl | assumption | exact Or.inl (by assumption) | exact Or.inr rfl | (show 0 ≤ _ ∧ _ < _; omega))) rfl (Nat.le_of_ble_eq_true rfl) (k' := 1) (n' := 6) (by decide) (by decide) (kX7_boutAt V hb) (fun v_2 h_2 hv_2 => ?_)
  obtain ⟨r_2, rfl, hv_2⟩ := hv_2
  obtain ⟨rfl, e_2⟩ := hv_2
  rw [e_2]
  refine Z_rfe (M := mX7_begin) ((bAt_e R).trans hx.symm) ?_
  refine J_astore (M := mX7_begin) dX7_begin_5 (by decide) ?_
  refine J_aload_n (M := mX7_begin) dX7_begin_7 rfl rfl ?_
  refine J_iload_n (M := mX7_begin) dX7_begin_8 rfl rfl ?_
  refine J_callV (M := mX7_begin) (as := [_]) dX7_begin_9 ca_X7_87 ⟨by decide, by decide⟩ (hk_1 (by first | exact rfl | assumption | exact Or.inl (by assumption) | exact Or.inr rfl | (show 0 ≤ _ ∧ _ < _; omega))) rfl (Nat.le_of_ble_eq_true rfl) (k' := 1) (n' := 6) (by decide) (by decide) (kX7_weaponAt V hv) (fun v_9 h_9 hv_9 => ?_)
  obtain ⟨r_9, rfl, hv_9⟩ := hv_9
  obtain ⟨rfl, e_9⟩ := hv_9
  rw [e_9]
  refine Z_rfe (M := mX7_begin) ((wAt_e R).trans hy.symm) ?_
  refine J_astore (M := mX7_begin) dX7_begin_12 (by decide) ?_
  refine J_aload_n (M := mX7_begin) dX7_begin_14 rfl rfl ?_
  refine J_iload_n (M := mX7_begin) dX7_begin_15 rfl rfl ?_
  refine J_callV (M := mX7_begin) (as := [_]) dX7_begin_16 ca_X7_87 ⟨by decide, by decide⟩ (hk_1 (by first | exact rfl | assumption | exact Or.inl (by assumption) | exact Or.inr rfl | (show 0 ≤ _ ∧ _ < _; omega))) rfl (Nat.le_of_ble_eq_true rfl) (k' := 1) (n' := 6) (by decide) (by decide) (kX7_weaponAt V hw) (fun v_16 h_16 hv_16 => ?_)
  obtain ⟨r_16, rfl, hv_16⟩ := hv_16
  obtain ⟨rfl, e_16⟩ := hv_16
  rw [e_16]
  refine Z_rfe (M := mX7_begin) ((wAt_e R).trans hz.symm) ?_
  refine J_astore (M := mX7_begin) dX7_begin_19 (by decide) ?_
  refine J_aload (M := mX7_begin) dX7_begin_21 rfl ?_
  first | refine Z_some (M := mX7_begin) (by omega) ?_ | skip
  first | refine Z_uns (M := mX7_begin) (by omega) ?_ | skip
  refine K_ifnull (tgt := 36) dX7_begin_23 (by decide) (fun c_23 => ?_) (fun c_23 => ?_)
  · refine K_thr (M := mX7_begin) rfl rfl ti_74_118_78 (by decide) (by decide) (by decide) (by decide) (Or.inl ⟨dX7_begin_36, dX7_begin_39, dX7_begin_40, dX7_begin_42, dX7_begin_45⟩) ?_
    refine EM_1 (pI_f (fun q => ?_)) rfl
    first
      | exact absurd (show bAt τ b < 0 by omega) (bAt_n R q.1)
      | exact absurd (show wAt τ v < 0 by omega) (wAt_n q.2.1)
      | exact absurd (show wAt τ w < 0 by omega) (wAt_n q.2.2)
  · refine J_aload (M := mX7_begin) dX7_begin_26 rfl ?_
    first | refine Z_some (M := mX7_begin) (by omega) ?_ | skip
    first | refine Z_uns (M := mX7_begin) (by omega) ?_ | skip
    refine K_ifnull (tgt := 36) dX7_begin_28 (by decide) (fun c_28 => ?_) (fun c_28 => ?_)
    · refine K_thr (M := mX7_begin) rfl rfl ti_74_118_78 (by decide) (by decide) (by decide) (by decide) (Or.inl ⟨dX7_begin_36, dX7_begin_39, dX7_begin_40, dX7_begin_42, dX7_begin_45⟩) ?_
      refine EM_1 (pI_f (fun q => ?_)) rfl
      first
        | exact absurd (show bAt τ b < 0 by omega) (bAt_n R q.1)
        | exact absurd (show wAt τ v < 0 by omega) (wAt_n q.2.1)
        | exact absurd (show wAt τ w < 0 by omega) (wAt_n q.2.2)
    · refine J_aload (M := mX7_begin) dX7_begin_31 rfl ?_
      first | refine Z_some (M := mX7_begin) (by omega) ?_ | skip
      first | refine Z_uns (M := mX7_begin) (by omega) ?_ | skip
      refine K_ifnonnull (tgt := 46) dX7_begin_33 (by decide) (fun c_33 => ?_) (fun c_33 => ?_)
      · obtain ⟨i1, i2, i3, i4, i5, i6⟩ := (bAt_c (n := b) R).resolve_right (fun q => by have := q.2; omega)
        obtain ⟨j1, j2, j3, j4, j5, j6, j7⟩ := (wAt_c (n := v) R).resolve_right (fun q => by have := q.2; omega)
        obtain ⟨k1, k2, k3, k4, k5, k6, k7⟩ := (wAt_c (n := w) R).resolve_right (fun q => by have := q.2; omega)
        have i2' := (hx.trans i2).symm
        have j2' := (hy.trans j2).symm
        have k2' := (hz.trans k2).symm
        subst i2'
        subst j2'
        subst k2'
        clear i5 i6
        have e13 : CE ρ 13 (slo b) := i4.1.2.1
        have g4 := i4.1.2.2.2.1
        have g5 := i4.1.2.2.2.2.1
        have t12 := i4.2.1
        have i3' := i3.1
        have j1' := j1.1
        have k1' := k1.1
        refine J_aload_n (M := mX7_begin) dX7_begin_46 rfl rfl ?_
        refine J_getf (M := mX7_begin) dX7_begin_47 fi_X7_30 (hk_1 (by first | exact rfl | assumption | exact Or.inl (by assumption) | exact Or.inr rfl | (show 0 ≤ _ ∧ _ < _; omega))) rfl ?_
        refine J_getf (M := mX7_begin) dX7_begin_50 fi_X7_101 (hk_5 (by first | exact rfl | assumption | exact Or.inl (by assumption) | exact Or.inr rfl | (show 0 ≤ _ ∧ _ < _; omega))) rfl ?_
        refine Z_rwb (M := mX7_begin) (g := ρ 41) (wk41 V) rfl (fun wb_41_38 => ?_)
        first | refine Z_some (M := mX7_begin) (by omega) ?_ | skip
        first | refine Z_uns (M := mX7_begin) (by omega) ?_ | skip
        refine K_ifnonnull (tgt := 64) dX7_begin_53 (by decide) (fun c_53 => ?_) (fun c_53 => ?_)
        · refine K_thr (M := mX7_begin) rfl rfl ti_60_123_64 (by decide) (by decide) (by decide) (by decide) (Or.inl ⟨dX7_begin_64, dX7_begin_67, dX7_begin_68, dX7_begin_70, dX7_begin_73⟩) ?_
          refine EM_2 (pI_n0.mpr ⟨i1, j1, k1⟩) (pI_f (fun q => ?_)) rfl
          first
            | (have := q.1.2.1; have := hR this; omega)
            | exact c_61 ((cbf R i1).mpr ⟨q.1.2.2.1, q.1.2.2.2, q.2.1⟩)
        · refine J_aload (M := mX7_begin) dX7_begin_56 rfl ?_
          first | refine Z_some (M := mX7_begin) (by omega) ?_ | skip
          refine J_callV (M := mX7_begin) (as := []) dX7_begin_58 ca_X7_120 ⟨by decide, by decide⟩ (hk_13 (by first | exact rfl | assumption | exact Or.inl (by assumption) | exact Or.inr rfl | (show 0 ≤ _ ∧ _ < _; omega))) rfl (Nat.le_of_ble_eq_true rfl) (k' := 1) (n' := 6) (by decide) (by decide) (kX0_canBeFenced V W e13 g4 g5 t12) (fun v_58 h_58 hv_58 => ?_)
          obtain ⟨r_58, rfl, hv_58⟩ := hv_58
          obtain ⟨rfl, e_58⟩ := hv_58
          rw [e_58]
          first
            | refine Z_pt (M := mX7_begin) (tgt := 74) dX7_begin_61 (by decide) (fun c_61 => ?_) (fun c_61 => ?_)
            | refine Z_if_ne (M := mX7_begin) (tgt := 74) (by first | assumption | exact pI_rg _ | (unfold rg; omega)) dX7_begin_61 (by decide) (fun c_61 => ?_) (fun c_61 => ?_)
          · refine J_aload (M := mX7_begin) dX7_begin_74 rfl ?_
            first | refine Z_some (M := mX7_begin) (by omega) ?_ | skip
            refine J_aload (M := mX7_begin) dX7_begin_76 rfl ?_
            first | refine Z_some (M := mX7_begin) (by omega) ?_ | skip
            refine J_getf (M := mX7_begin) dX7_begin_78 fi_X7_125 (hk_13 (by first | exact rfl | assumption | exact Or.inl (by assumption) | exact Or.inr rfl | (show 0 ≤ _ ∧ _ < _; omega))) rfl ?_
            refine Z_wb (M := mX7_begin) (g := ρ 18) (wk18 V) rfl (fun wb_18_54 => ?_)
            refine J_callV (M := mX7_begin) (as := [_]) dX7_begin_81 ca_X7_128 ⟨by decide, by decide⟩ (hk_12 (by first | exact rfl | assumption | exact Or.inl (by assumption) | exact Or.inr rfl | (show 0 ≤ _ ∧ _ < _; omega))) rfl (Nat.le_of_ble_eq_true rfl) (k' := 1) (n' := 6) (by decide) (by decide) (kX6_isMarkedFor V (by unfold rg; omega) j3) (fun v_81 h_81 hv_81 => ?_)
            obtain ⟨r_81, rfl, hv_81⟩ := hv_81
            obtain ⟨rfl, e_81⟩ := hv_81
            rw [e_81]
            first
              | refine Z_pf (M := mX7_begin) (tgt := 100) dX7_begin_84 (by decide) (fun c_84 => ?_) (fun c_84 => ?_)
              | refine Z_if_eq (M := mX7_begin) (tgt := 100) (by first | assumption | exact pI_rg _ | (unfold rg; omega)) dX7_begin_84 (by decide) (fun c_84 => ?_) (fun c_84 => ?_)
            · refine K_thr (M := mX7_begin) rfl rfl ti_60_135_64 (by decide) (by decide) (by decide) (by decide) (Or.inl ⟨dX7_begin_100, dX7_begin_103, dX7_begin_104, dX7_begin_106, dX7_begin_109⟩) ?_
              refine EM_2 (pI_n0.mpr ⟨i1, j1, k1⟩) (pI_f (fun q => ?_)) rfl
              have e0 := fa_e R i1 (s := 0) (by decide)
              have e1 := fa_e R i1 (s := 1) (by decide)
              rw [if_pos rfl, if_neg (Int.not_lt.mpr q.1.2.2.1)] at e0
              rw [if_neg (by decide), if_neg (Int.not_lt.mpr q.1.2.2.2)] at e1
              first
                | exact c_84 ⟨by rw [j6]; exact q.2.2.1.1, by rw [j5, e0]; exact q.2.2.1.2.symm⟩
                | exact c_97 ⟨by rw [k6]; exact q.2.2.2.1, by rw [k5, e1]; exact q.2.2.2.2.symm⟩
            · refine J_aload (M := mX7_begin) dX7_begin_87 rfl ?_
              first | refine Z_some (M := mX7_begin) (by omega) ?_ | skip
              refine J_aload (M := mX7_begin) dX7_begin_89 rfl ?_
              first | refine Z_some (M := mX7_begin) (by omega) ?_ | skip
              refine J_getf (M := mX7_begin) dX7_begin_91 fi_X7_132 (hk_13 (by first | exact rfl | assumption | exact Or.inl (by assumption) | exact Or.inr rfl | (show 0 ≤ _ ∧ _ < _; omega))) rfl ?_
              refine Z_wb (M := mX7_begin) (g := ρ 19) (wk19 V) rfl (fun wb_19_66 => ?_)
              refine J_callV (M := mX7_begin) (as := [_]) dX7_begin_94 ca_X7_128 ⟨by decide, by decide⟩ (hk_12 (by first | exact rfl | assumption | exact Or.inl (by assumption) | exact Or.inr rfl | (show 0 ≤ _ ∧ _ < _; omega))) rfl (Nat.le_of_ble_eq_true rfl) (k' := 1) (n' := 6) (by decide) (by decide) (kX6_isMarkedFor V (by unfold rg; omega) k3) (fun v_94 h_94 hv_94 => ?_)
              obtain ⟨r_94, rfl, hv_94⟩ := hv_94
              obtain ⟨rfl, e_94⟩ := hv_94
              rw [e_94]
              first
                | refine Z_pt (M := mX7_begin) (tgt := 110) dX7_begin_97 (by decide) (fun c_97 => ?_) (fun c_97 => ?_)
                | refine Z_if_ne (M := mX7_begin) (tgt := 110) (by first | assumption | exact pI_rg _ | (unfold rg; omega)) dX7_begin_97 (by decide) (fun c_97 => ?_) (fun c_97 => ?_)
              · refine J_aload_n (M := mX7_begin) dX7_begin_110 rfl rfl ?_
                refine J_getf (M := mX7_begin) dX7_begin_111 fi_X7_30 (hk_1 (by first | exact rfl | assumption | exact Or.inl (by assumption) | exact Or.inr rfl | (show 0 ≤ _ ∧ _ < _; omega))) rfl ?_
                refine J_iload_n (M := mX7_begin) dX7_begin_114 rfl rfl ?_
                refine J_aload (M := mX7_begin) dX7_begin_115 rfl ?_
                first | refine Z_some (M := mX7_begin) (by omega) ?_ | skip
                refine J_aload (M := mX7_begin) dX7_begin_117 rfl ?_
                first | refine Z_some (M := mX7_begin) (by omega) ?_ | skip
                refine J_aload (M := mX7_begin) dX7_begin_119 rfl ?_
                first | refine Z_some (M := mX7_begin) (by omega) ?_ | skip
                refine J_callV (M := mX7_begin) (as := [_, _, _, _]) dX7_begin_121 ca_X7_137 ⟨by decide, by decide⟩ (hk_5 (by first | exact rfl | assumption | exact Or.inl (by assumption) | exact Or.inr rfl | (show 0 ≤ _ ∧ _ < _; omega))) rfl (Nat.le_of_ble_eq_true rfl) (k' := 1) (n' := 6) (by decide) (by decide) (kX3_take (rfo_p i3').symm (rfo_p j1').symm (rfo_p k1').symm) (fun v_121 h_121 hv_121 => ?_)
                obtain ⟨r_121, rfl, hv_121⟩ := hv_121
                obtain ⟨rfl, e_121⟩ := hv_121
                rw [e_121]
                refine J_aload (M := mX7_begin) dX7_begin_124 rfl ?_
                first | refine Z_some (M := mX7_begin) (by omega) ?_ | skip
                refine J_getf (M := mX7_begin) dX7_begin_126 fi_X7_141 (hk_13 (by first | exact rfl | assumption | exact Or.inl (by assumption) | exact Or.inr rfl | (show 0 ≤ _ ∧ _ < _; omega))) rfl ?_
                refine Z_wb (M := mX7_begin) (g := ρ 20) (wk20 V) rfl (fun wb_20_86 => ?_)
                refine K_iretE dX7_begin_129 rfl ?_
                have hcc := (cbf R i1).mp (by assumption)
                have e0 := fa_e R i1 (s := 0) (by decide)
                have e1 := fa_e R i1 (s := 1) (by decide)
                rw [if_pos rfl, if_neg (Int.not_lt.mpr hcc.1)] at e0
                rw [if_neg (by decide), if_neg (Int.not_lt.mpr hcc.2.1)] at e1
                have hoff := hR2 (by assumption)
                exact ⟨gl_0 ⟨pI_n0.mpr ⟨i1, j1, k1⟩, pI_n0.mpr ⟨⟨⟨i1, j1, k1⟩, hoff, hcc.1, hcc.2.1⟩, hcc.2.2, ⟨by rw [← j6]; exact c_84.1, by rw [← j5, ← e0]; exact c_84.2.symm⟩, by rw [← k6]; exact c_97.1, by rw [← k5, ← e1]; exact c_97.2.symm⟩, n10⟩, (by rw [g5]), RR_begin R hoff i1 j1 k1 hcc.1 hcc.2.1⟩
              · refine K_thr (M := mX7_begin) rfl rfl ti_60_135_64 (by decide) (by decide) (by decide) (by decide) (Or.inl ⟨dX7_begin_100, dX7_begin_103, dX7_begin_104, dX7_begin_106, dX7_begin_109⟩) ?_
                refine EM_2 (pI_n0.mpr ⟨i1, j1, k1⟩) (pI_f (fun q => ?_)) rfl
                have e0 := fa_e R i1 (s := 0) (by decide)
                have e1 := fa_e R i1 (s := 1) (by decide)
                rw [if_pos rfl, if_neg (Int.not_lt.mpr q.1.2.2.1)] at e0
                rw [if_neg (by decide), if_neg (Int.not_lt.mpr q.1.2.2.2)] at e1
                first
                  | exact c_84 ⟨by rw [j6]; exact q.2.2.1.1, by rw [j5, e0]; exact q.2.2.1.2.symm⟩
                  | exact c_97 ⟨by rw [k6]; exact q.2.2.2.1, by rw [k5, e1]; exact q.2.2.2.2.symm⟩
          · refine K_thr (M := mX7_begin) rfl rfl ti_60_123_64 (by decide) (by decide) (by decide) (by decide) (Or.inl ⟨dX7_begin_64, dX7_begin_67, dX7_begin_68, dX7_begin_70, dX7_begin_73⟩) ?_
            refine EM_2 (pI_n0.mpr ⟨i1, j1, k1⟩) (pI_f (fun q => ?_)) rfl
            first
              | (have := q.1.2.1; have := hR this; omega)
              | exact c_61 ((cbf R i1).mpr ⟨q.1.2.2.1, q.1.2.2.2, q.2.1⟩)
      · refine K_thr (M := mX7_begin) rfl rfl ti_74_118_78 (by decide) (by decide) (by decide) (by decide) (Or.inl ⟨dX7_begin_36, dX7_begin_39, dX7_begin_40, dX7_begin_42, dX7_begin_45⟩) ?_
        refine EM_1 (pI_f (fun q => ?_)) rfl
        first
          | exact absurd (show bAt τ b < 0 by omega) (bAt_n R q.1)
          | exact absurd (show wAt τ v < 0 by omega) (wAt_n q.2.1)
          | exact absurd (show wAt τ w < 0 by omega) (wAt_n q.2.2)

theorem RR_change {ρ τ : TS} {c s w : Int} (R : RR ρ τ c) (hoff : τ 19 0 = 0) (hs : 0 ≤ s ∧ s ≤ 1) (hw : 0 ≤ w ∧ w ≤ τ 5 0 - 1) (hp : ¬ τ 17 0 = -1) : RR (if s = 0 then ts ρ 39 0 w else ts ρ 40 0 w) (ts τ 18 s w) c := by
  obtain ⟨W, V, B, S, ⟨p1, p2⟩, f⟩ := R
  have w5 := wf5 W 0
  have a47 : ρ 47 1 = τ 5 0 := B.1.2.2.2.2.1
  obtain ⟨a1, a2, a3, a4⟩ := p1 hoff
  obtain ⟨v1, v2, v3, v4, v5, v6, v7, v8⟩ := a4 hp
  have W' : WF (ts τ 18 s w) := WF_ts W (show (0 : Int) ≤ _ ∧ _ ≤ (23 : Int) by omega)
  by_cases q : s = 0
  · rw [if_pos q]
    subst q
    refine ⟨W', WK_ts V (show (-1 : Int) ≤ _ ∧ _ ≤ (23 : Int) by omega), B, S, ⟨fun _ => ⟨a1, a2, fun z => absurd z hp, fun _ => ⟨v1, v2, rfl, v4, ?_, v6, v7, v8⟩⟩, fun z => absurd hoff z⟩, f⟩
    show w < ρ 47 1
    omega
  · rw [if_neg q]
    have e : s = 1 := by omega
    subst e
    refine ⟨W', WK_ts V (show (-1 : Int) ≤ _ ∧ _ ≤ (23 : Int) by omega), B, S, ⟨fun _ => ⟨a1, a2, fun z => absurd z hp, fun _ => ⟨v1, v2, v3, rfl, v5, ?_, v7, v8⟩⟩, fun z => absurd hoff z⟩, f⟩
    show w < ρ 47 1
    omega
set_option maxRecDepth 100000 in
set_option maxHeartbeats 4000000 in
theorem p_change {X : GX} {h : LH} {ρ τ : TS} {c : Int} (R : RR ρ τ c) {s w : Int} (hs : rg s) (hw : rg w) : CX X mX7_change [vR (some (1, 0)), vI (iI s), vI (iI w)] h ρ (PX (gl (pI ((0 ≤ s ∧ s ≤ 1) ∧ 0 ≤ w ∧ w ≤ τ 5 0 - 1)) (pI (((0 ≤ s ∧ s ≤ 1) ∧ 0 ≤ w ∧ w ≤ τ 5 0 - 1) ∧ ¬ τ 17 0 = -1 ∧ τ 19 0 = 0 ∧ τ 3 w = 1 ∧ fa τ (τ 17 0) s = τ 2 w)) 1) (τ 18 s) (fun r => RR r (ts τ 18 s w) c)) (EM [2, 0] (gl (pI ((0 ≤ s ∧ s ≤ 1) ∧ 0 ≤ w ∧ w ≤ τ 5 0 - 1)) (pI (((0 ≤ s ∧ s ≤ 1) ∧ 0 ≤ w ∧ w ≤ τ 5 0 - 1) ∧ ¬ τ 17 0 = -1 ∧ τ 19 0 = 0 ∧ τ 3 w = 1 ∧ fa τ (τ 17 0) s = τ 2 w)) 1)) := by
  have W := R.1
  have V := R.2.1
  have hY := wAt_c (n := w) R
  obtain ⟨y, hy⟩ : ∃ y, y = wAt τ w := ⟨_, rfl⟩
  rw [← hy] at hY
  have w18 := wf18 W 0
  have w18b := wf18 W 1
  have a47 : ρ 47 1 = τ 5 0 := R.2.2.1.1.2.2.2.2.1
  have h13 : ∀ w, 0 ≤ w → w < ρ 47 1 → ρ 13 w = w := fun w w0 w1 => (R.2.2.1.2.2.1 w w0 (by omega)).2.1
  refine CT_of (by decide +kernel) rfl (Nat.le_of_ble_eq_true rfl) ?_
  rcases pst_c R with ⟨h1, h2, h3, h4, h5, h6, h7⟩ | ⟨h1, h2, h3, h4, h5, h6, h7, h8, h9, h10⟩ | ⟨h1, h2, h3, h4, h5, h6, h7, h8, h9⟩
  · refine J_aload_n (M := mX7_change) dX7_change_0 rfl rfl ?_
    refine J_iload_n (M := mX7_change) dX7_change_1 rfl rfl ?_
    refine J_callV (M := mX7_change) (as := [_]) dX7_change_2 ca_X7_87 ⟨by decide, by decide⟩ (hk_1 (by first | exact rfl | assumption | exact Or.inl (by assumption) | exact Or.inr rfl | (show 0 ≤ _ ∧ _ < _; omega))) rfl (Nat.le_of_ble_eq_true rfl) (k' := 1) (n' := 6) (by decide) (by decide) (kX7_weaponAt V hw) (fun v_2 h_2 hv_2 => ?_)
    obtain ⟨r_2, rfl, hv_2⟩ := hv_2
    obtain ⟨rfl, e_2⟩ := hv_2
    rw [e_2]
    refine Z_rfe (M := mX7_change) ((wAt_e R).trans hy.symm) ?_
    refine J_astore_n (M := mX7_change) dX7_change_5 rfl (by decide) ?_
    refine J_iload_n (M := mX7_change) dX7_change_6 rfl rfl ?_
    refine M_callS (M := mX7_change) (as := [_]) dX7_change_7 ca_X7_144 ⟨by decide, by decide⟩ rfl (Nat.le_of_ble_eq_true rfl) rfl rfl (kX7_isSide (by first | assumption | exact pI_rg _ | (unfold rg; omega))) ?_
    first
      | refine Z_pf (M := mX7_change) (tgt := 17) dX7_change_10 (by decide) (fun c_10 => ?_) (fun c_10 => ?_)
      | refine Z_if_eq (M := mX7_change) (tgt := 17) (by first | assumption | exact pI_rg _ | (unfold rg; omega)) dX7_change_10 (by decide) (fun c_10 => ?_) (fun c_10 => ?_)
    · refine K_thr (M := mX7_change) rfl rfl ti_74_147_78 (by decide) (by decide) (by decide) (by decide) (Or.inl ⟨dX7_change_17, dX7_change_20, dX7_change_21, dX7_change_23, dX7_change_26⟩) ?_
      first
        | exact EM_1 (pI_f (by omega)) rfl
        | exact EM_2 (pI_n0.mpr (by omega)) (pI_f (by omega)) rfl
        | exact EM_3 (pI_n0.mpr (by omega)) (pI_n0.mpr (by omega)) (pI_f (by omega)) rfl
    · refine J_aload_n (M := mX7_change) dX7_change_13 rfl rfl ?_
      first | refine Z_some (M := mX7_change) (by omega) ?_ | skip
      first | refine Z_uns (M := mX7_change) (by omega) ?_ | skip
      refine K_ifnonnull (tgt := 27) dX7_change_14 (by decide) (fun c_14 => ?_) (fun c_14 => ?_)
      · refine J_aload_n (M := mX7_change) dX7_change_27 rfl rfl ?_
        refine J_getf (M := mX7_change) dX7_change_28 fi_X7_30 (hk_1 (by first | exact rfl | assumption | exact Or.inl (by assumption) | exact Or.inr rfl | (show 0 ≤ _ ∧ _ < _; omega))) rfl ?_
        refine J_getf (M := mX7_change) dX7_change_31 fi_X7_149 (hk_5 (by first | exact rfl | assumption | exact Or.inl (by assumption) | exact Or.inr rfl | (show 0 ≤ _ ∧ _ < _; omega))) rfl ?_
        refine Z_rwb (M := mX7_change) (g := ρ 38) (wk38 V) rfl (fun wb_38_18 => ?_)
        first | refine Z_some (M := mX7_change) (by omega) ?_ | skip
        refine J_astore (M := mX7_change) dX7_change_34 (by decide) ?_
        refine J_aload (M := mX7_change) dX7_change_36 rfl ?_
        first | refine Z_some (M := mX7_change) (by omega) ?_ | skip
        first | refine Z_uns (M := mX7_change) (by omega) ?_ | skip
        refine K_ifnull (tgt := 51) dX7_change_38 (by decide) (fun c_38 => ?_) (fun c_38 => ?_)
        · refine K_thr (M := mX7_change) rfl rfl ti_60_153_64 (by decide) (by decide) (by decide) (by decide) (Or.inl ⟨dX7_change_51, dX7_change_54, dX7_change_55, dX7_change_57, dX7_change_60⟩) ?_
          first
            | exact EM_1 (pI_f (by omega)) rfl
            | exact EM_2 (pI_n0.mpr (by omega)) (pI_f (by omega)) rfl
            | exact EM_3 (pI_n0.mpr (by omega)) (pI_n0.mpr (by omega)) (pI_f (by omega)) rfl
        · omega
      · refine K_thr (M := mX7_change) rfl rfl ti_74_147_78 (by decide) (by decide) (by decide) (by decide) (Or.inl ⟨dX7_change_17, dX7_change_20, dX7_change_21, dX7_change_23, dX7_change_26⟩) ?_
        first
          | exact EM_1 (pI_f (by omega)) rfl
          | exact EM_2 (pI_n0.mpr (by omega)) (pI_f (by omega)) rfl
          | exact EM_3 (pI_n0.mpr (by omega)) (pI_n0.mpr (by omega)) (pI_f (by omega)) rfl
  · have hlv := (SN_live W h3).2.2
    have e13 : CE ρ 13 (slo (τ 17 0)) := h6.1.2.1
    refine J_aload_n (M := mX7_change) dX7_change_0 rfl rfl ?_
    refine J_iload_n (M := mX7_change) dX7_change_1 rfl rfl ?_
    refine J_callV (M := mX7_change) (as := [_]) dX7_change_2 ca_X7_87 ⟨by decide, by decide⟩ (hk_1 (by first | exact rfl | assumption | exact Or.inl (by assumption) | exact Or.inr rfl | (show 0 ≤ _ ∧ _ < _; omega))) rfl (Nat.le_of_ble_eq_true rfl) (k' := 1) (n' := 6) (by decide) (by decide) (kX7_weaponAt V hw) (fun v_2 h_2 hv_2 => ?_)
    obtain ⟨r_2, rfl, hv_2⟩ := hv_2
    obtain ⟨rfl, e_2⟩ := hv_2
    rw [e_2]
    refine Z_rfe (M := mX7_change) ((wAt_e R).trans hy.symm) ?_
    refine J_astore_n (M := mX7_change) dX7_change_5 rfl (by decide) ?_
    refine J_iload_n (M := mX7_change) dX7_change_6 rfl rfl ?_
    refine M_callS (M := mX7_change) (as := [_]) dX7_change_7 ca_X7_144 ⟨by decide, by decide⟩ rfl (Nat.le_of_ble_eq_true rfl) rfl rfl (kX7_isSide (by first | assumption | exact pI_rg _ | (unfold rg; omega))) ?_
    first
      | refine Z_pf (M := mX7_change) (tgt := 17) dX7_change_10 (by decide) (fun c_10 => ?_) (fun c_10 => ?_)
      | refine Z_if_eq (M := mX7_change) (tgt := 17) (by first | assumption | exact pI_rg _ | (unfold rg; omega)) dX7_change_10 (by decide) (fun c_10 => ?_) (fun c_10 => ?_)
    · refine K_thr (M := mX7_change) rfl rfl ti_74_147_78 (by decide) (by decide) (by decide) (by decide) (Or.inl ⟨dX7_change_17, dX7_change_20, dX7_change_21, dX7_change_23, dX7_change_26⟩) ?_
      first
        | exact EM_1 (pI_f (by omega)) rfl
        | exact EM_2 (pI_n0.mpr (by omega)) (pI_f (by omega)) rfl
        | exact EM_3 (pI_n0.mpr (by omega)) (pI_n0.mpr (by omega)) (pI_f (by omega)) rfl
    · refine J_aload_n (M := mX7_change) dX7_change_13 rfl rfl ?_
      first | refine Z_some (M := mX7_change) (by omega) ?_ | skip
      first | refine Z_uns (M := mX7_change) (by omega) ?_ | skip
      refine K_ifnonnull (tgt := 27) dX7_change_14 (by decide) (fun c_14 => ?_) (fun c_14 => ?_)
      · refine J_aload_n (M := mX7_change) dX7_change_27 rfl rfl ?_
        refine J_getf (M := mX7_change) dX7_change_28 fi_X7_30 (hk_1 (by first | exact rfl | assumption | exact Or.inl (by assumption) | exact Or.inr rfl | (show 0 ≤ _ ∧ _ < _; omega))) rfl ?_
        refine J_getf (M := mX7_change) dX7_change_31 fi_X7_149 (hk_5 (by first | exact rfl | assumption | exact Or.inl (by assumption) | exact Or.inr rfl | (show 0 ≤ _ ∧ _ < _; omega))) rfl ?_
        refine Z_rwb (M := mX7_change) (g := ρ 38) (wk38 V) rfl (fun wb_38_18 => ?_)
        first | refine Z_some (M := mX7_change) (by omega) ?_ | skip
        refine Z_req (M := mX7_change) (congrArg (fun z => some (13, z)) h4) ?_
        refine J_astore (M := mX7_change) dX7_change_34 (by decide) ?_
        refine J_aload (M := mX7_change) dX7_change_36 rfl ?_
        first | refine Z_some (M := mX7_change) (by omega) ?_ | skip
        first | refine Z_uns (M := mX7_change) (by omega) ?_ | skip
        refine K_ifnull (tgt := 51) dX7_change_38 (by decide) (fun c_38 => ?_) (fun c_38 => ?_)
        · omega
        · refine J_aload_n (M := mX7_change) dX7_change_41 rfl rfl ?_
          refine J_getf (M := mX7_change) dX7_change_42 fi_X7_30 (hk_1 (by first | exact rfl | assumption | exact Or.inl (by assumption) | exact Or.inr rfl | (show 0 ≤ _ ∧ _ < _; omega))) rfl ?_
          refine J_getf (M := mX7_change) dX7_change_45 fi_X7_101 (hk_5 (by first | exact rfl | assumption | exact Or.inl (by assumption) | exact Or.inr rfl | (show 0 ≤ _ ∧ _ < _; omega))) rfl ?_
          refine Z_rwb (M := mX7_change) (g := ρ 41) (wk41 V) rfl (fun wb_41_29 => ?_)
          first | refine Z_some (M := mX7_change) (by omega) ?_ | skip
          first | refine Z_uns (M := mX7_change) (by omega) ?_ | skip
          refine K_ifnull (tgt := 61) dX7_change_48 (by decide) (fun c_48 => ?_) (fun c_48 => ?_)
          · obtain ⟨j1, j2, j3, j4, j5, j6, j7⟩ := hY.resolve_right (fun z => by omega)
            have j2' := j2.symm
            subst j2'
            have hsd : 0 ≤ s ∧ s ≤ 1 := by assumption
            have e0 := fa_e R h3 hsd
            have w2 := wf2 W w
            have e1 : (if s = 0 then ρ 18 (slo (τ 17 0)) else ρ 19 (slo (τ 17 0))) = τ 2 w ↔ fa τ (τ 17 0) s = τ 2 w := by
              rw [e0]
              by_cases z : fa τ (τ 17 0) s < 0
              · rw [if_pos z]; omega
              · rw [if_neg z]
            have e2 : rg (if s = 0 then ρ 18 (slo (τ 17 0)) else ρ 19 (slo (τ 17 0))) := by
              have := wk18 V (slo (τ 17 0))
              have := wk19 V (slo (τ 17 0))
              unfold rg
              split <;> omega
            refine J_aload_n (M := mX7_change) dX7_change_61 rfl rfl ?_
            first | refine Z_some (M := mX7_change) (by omega) ?_ | skip
            refine J_aload (M := mX7_change) dX7_change_62 rfl ?_
            first | refine Z_some (M := mX7_change) (by omega) ?_ | skip
            refine J_iload_n (M := mX7_change) dX7_change_64 rfl rfl ?_
            refine J_callV (M := mX7_change) (as := [_]) dX7_change_65 ca_X7_155 ⟨by decide, by decide⟩ (hk_13 (by first | exact rfl | assumption | exact Or.inl (by assumption) | exact Or.inr rfl | (show 0 ≤ _ ∧ _ < _; omega))) rfl (Nat.le_of_ble_eq_true rfl) (k' := 1) (n' := 6) (by decide) (by decide) (kX0_fencerAt hs e13) (fun v_65 h_65 hv_65 => ?_)
            obtain ⟨r_65, rfl, hv_65⟩ := hv_65
            obtain ⟨rfl, e_65⟩ := hv_65
            rw [e_65]
            refine J_callV (M := mX7_change) (as := [_]) dX7_change_68 ca_X7_128 ⟨by decide, by decide⟩ (hk_12 (by first | exact rfl | assumption | exact Or.inl (by assumption) | exact Or.inr rfl | (show 0 ≤ _ ∧ _ < _; omega))) rfl (Nat.le_of_ble_eq_true rfl) (k' := 1) (n' := 6) (by decide) (by decide) (kX6_isMarkedFor V e2 j3) (fun v_68 h_68 hv_68 => ?_)
            obtain ⟨r_68, rfl, hv_68⟩ := hv_68
            obtain ⟨rfl, e_68⟩ := hv_68
            rw [e_68]
            first
              | refine Z_pt (M := mX7_change) (tgt := 84) dX7_change_71 (by decide) (fun c_71 => ?_) (fun c_71 => ?_)
              | refine Z_if_ne (M := mX7_change) (tgt := 84) (by first | assumption | exact pI_rg _ | (unfold rg; omega)) dX7_change_71 (by decide) (fun c_71 => ?_) (fun c_71 => ?_)
            · refine J_aload_n (M := mX7_change) dX7_change_84 rfl rfl ?_
              refine J_getf (M := mX7_change) dX7_change_85 fi_X7_30 (hk_1 (by first | exact rfl | assumption | exact Or.inl (by assumption) | exact Or.inr rfl | (show 0 ≤ _ ∧ _ < _; omega))) rfl ?_
              refine J_iload_n (M := mX7_change) dX7_change_88 rfl rfl ?_
              refine J_callV (M := mX7_change) (as := [_]) dX7_change_89 ca_X7_160 ⟨by decide, by decide⟩ (hk_5 (by first | exact rfl | assumption | exact Or.inl (by assumption) | exact Or.inr rfl | (show 0 ≤ _ ∧ _ < _; omega))) rfl (Nat.le_of_ble_eq_true rfl) (k' := 1) (n' := 6) (by decide) (by decide) (kX3_weaponNumber V hs (by omega) (by omega)) (fun v_89 h_89 hv_89 => ?_)
              obtain ⟨r_89, rfl, hv_89⟩ := hv_89
              obtain ⟨rfl, e_89⟩ := hv_89
              rw [e_89]
              refine J_istore (M := mX7_change) dX7_change_92 (by decide) ?_
              refine J_aload_n (M := mX7_change) dX7_change_94 rfl rfl ?_
              refine J_getf (M := mX7_change) dX7_change_95 fi_X7_30 (hk_1 (by first | exact rfl | assumption | exact Or.inl (by assumption) | exact Or.inr rfl | (show 0 ≤ _ ∧ _ < _; omega))) rfl ?_
              refine J_iload_n (M := mX7_change) dX7_change_98 rfl rfl ?_
              refine J_aload_n (M := mX7_change) dX7_change_99 rfl rfl ?_
              first | refine Z_some (M := mX7_change) (by omega) ?_ | skip
              refine J_callV (M := mX7_change) (as := [_, _]) dX7_change_100 ca_X7_163 ⟨by decide, by decide⟩ (hk_5 (by first | exact rfl | assumption | exact Or.inl (by assumption) | exact Or.inr rfl | (show 0 ≤ _ ∧ _ < _; omega))) rfl (Nat.le_of_ble_eq_true rfl) (k' := 1) (n' := 6) (by decide) (by decide) (kX3_arm hs (by omega)) (fun v_100 h_100 hv_100 => ?_)
              obtain ⟨r_100, rfl, hv_100⟩ := hv_100
              obtain ⟨rfl, e_100⟩ := hv_100
              rw [e_100]
              refine J_iload (M := mX7_change) dX7_change_103 rfl ?_
              refine K_iretE dX7_change_105 rfl ?_
              refine ⟨(gl_0 ⟨(by first | exact n10 | exact pI_n0.mpr (by omega)), (by first | exact n10 | exact pI_n0.mpr (by omega)), (by first | exact n10 | exact pI_n0.mpr (by omega))⟩), congrArg (fun z => some (vI (iI z))) ?_, RR_change R h2 hsd j1 h1⟩
              by_cases z : s = 0
              · rw [if_pos z, if_neg (by omega), h13 _ (by omega) (by omega), h5.1, z]
              · rw [if_neg z, if_neg (by omega), h13 _ (by omega) (by omega), h5.2.1, show s = 1 by omega]
            · refine K_thr (M := mX7_change) rfl rfl ti_60_158_64 (by decide) (by decide) (by decide) (by decide) (Or.inl ⟨dX7_change_74, dX7_change_77, dX7_change_78, dX7_change_80, dX7_change_83⟩) ?_
              first
                | exact EM_1 (pI_f (by omega)) rfl
                | exact EM_2 (pI_n0.mpr (by omega)) (pI_f (by omega)) rfl
                | exact EM_3 (pI_n0.mpr (by omega)) (pI_n0.mpr (by omega)) (pI_f (by omega)) rfl
          · omega
      · refine K_thr (M := mX7_change) rfl rfl ti_74_147_78 (by decide) (by decide) (by decide) (by decide) (Or.inl ⟨dX7_change_17, dX7_change_20, dX7_change_21, dX7_change_23, dX7_change_26⟩) ?_
        first
          | exact EM_1 (pI_f (by omega)) rfl
          | exact EM_2 (pI_n0.mpr (by omega)) (pI_f (by omega)) rfl
          | exact EM_3 (pI_n0.mpr (by omega)) (pI_n0.mpr (by omega)) (pI_f (by omega)) rfl
  · have hlv := (SN_live W h3).2.2
    have p0 := h8.1
    refine J_aload_n (M := mX7_change) dX7_change_0 rfl rfl ?_
    refine J_iload_n (M := mX7_change) dX7_change_1 rfl rfl ?_
    refine J_callV (M := mX7_change) (as := [_]) dX7_change_2 ca_X7_87 ⟨by decide, by decide⟩ (hk_1 (by first | exact rfl | assumption | exact Or.inl (by assumption) | exact Or.inr rfl | (show 0 ≤ _ ∧ _ < _; omega))) rfl (Nat.le_of_ble_eq_true rfl) (k' := 1) (n' := 6) (by decide) (by decide) (kX7_weaponAt V hw) (fun v_2 h_2 hv_2 => ?_)
    obtain ⟨r_2, rfl, hv_2⟩ := hv_2
    obtain ⟨rfl, e_2⟩ := hv_2
    rw [e_2]
    refine Z_rfe (M := mX7_change) ((wAt_e R).trans hy.symm) ?_
    refine J_astore_n (M := mX7_change) dX7_change_5 rfl (by decide) ?_
    refine J_iload_n (M := mX7_change) dX7_change_6 rfl rfl ?_
    refine M_callS (M := mX7_change) (as := [_]) dX7_change_7 ca_X7_144 ⟨by decide, by decide⟩ rfl (Nat.le_of_ble_eq_true rfl) rfl rfl (kX7_isSide (by first | assumption | exact pI_rg _ | (unfold rg; omega))) ?_
    first
      | refine Z_pf (M := mX7_change) (tgt := 17) dX7_change_10 (by decide) (fun c_10 => ?_) (fun c_10 => ?_)
      | refine Z_if_eq (M := mX7_change) (tgt := 17) (by first | assumption | exact pI_rg _ | (unfold rg; omega)) dX7_change_10 (by decide) (fun c_10 => ?_) (fun c_10 => ?_)
    · refine K_thr (M := mX7_change) rfl rfl ti_74_147_78 (by decide) (by decide) (by decide) (by decide) (Or.inl ⟨dX7_change_17, dX7_change_20, dX7_change_21, dX7_change_23, dX7_change_26⟩) ?_
      first
        | exact EM_1 (pI_f (by omega)) rfl
        | exact EM_2 (pI_n0.mpr (by omega)) (pI_f (by omega)) rfl
        | exact EM_3 (pI_n0.mpr (by omega)) (pI_n0.mpr (by omega)) (pI_f (by omega)) rfl
    · refine J_aload_n (M := mX7_change) dX7_change_13 rfl rfl ?_
      first | refine Z_some (M := mX7_change) (by omega) ?_ | skip
      first | refine Z_uns (M := mX7_change) (by omega) ?_ | skip
      refine K_ifnonnull (tgt := 27) dX7_change_14 (by decide) (fun c_14 => ?_) (fun c_14 => ?_)
      · refine J_aload_n (M := mX7_change) dX7_change_27 rfl rfl ?_
        refine J_getf (M := mX7_change) dX7_change_28 fi_X7_30 (hk_1 (by first | exact rfl | assumption | exact Or.inl (by assumption) | exact Or.inr rfl | (show 0 ≤ _ ∧ _ < _; omega))) rfl ?_
        refine J_getf (M := mX7_change) dX7_change_31 fi_X7_149 (hk_5 (by first | exact rfl | assumption | exact Or.inl (by assumption) | exact Or.inr rfl | (show 0 ≤ _ ∧ _ < _; omega))) rfl ?_
        refine Z_rwb (M := mX7_change) (g := ρ 38) (wk38 V) rfl (fun wb_38_18 => ?_)
        first | refine Z_some (M := mX7_change) (by omega) ?_ | skip
        refine J_astore (M := mX7_change) dX7_change_34 (by decide) ?_
        refine J_aload (M := mX7_change) dX7_change_36 rfl ?_
        first | refine Z_some (M := mX7_change) (by omega) ?_ | skip
        first | refine Z_uns (M := mX7_change) (by omega) ?_ | skip
        refine K_ifnull (tgt := 51) dX7_change_38 (by decide) (fun c_38 => ?_) (fun c_38 => ?_)
        · omega
        · refine J_aload_n (M := mX7_change) dX7_change_41 rfl rfl ?_
          refine J_getf (M := mX7_change) dX7_change_42 fi_X7_30 (hk_1 (by first | exact rfl | assumption | exact Or.inl (by assumption) | exact Or.inr rfl | (show 0 ≤ _ ∧ _ < _; omega))) rfl ?_
          refine J_getf (M := mX7_change) dX7_change_45 fi_X7_101 (hk_5 (by first | exact rfl | assumption | exact Or.inl (by assumption) | exact Or.inr rfl | (show 0 ≤ _ ∧ _ < _; omega))) rfl ?_
          refine Z_rwb (M := mX7_change) (g := ρ 41) (wk41 V) rfl (fun wb_41_28 => ?_)
          first | refine Z_some (M := mX7_change) (by omega) ?_ | skip
          first | refine Z_uns (M := mX7_change) (by omega) ?_ | skip
          refine K_ifnull (tgt := 61) dX7_change_48 (by decide) (fun c_48 => ?_) (fun c_48 => ?_)
          · omega
          · refine K_thr (M := mX7_change) rfl rfl ti_60_153_64 (by decide) (by decide) (by decide) (by decide) (Or.inl ⟨dX7_change_51, dX7_change_54, dX7_change_55, dX7_change_57, dX7_change_60⟩) ?_
            first
              | exact EM_1 (pI_f (by omega)) rfl
              | exact EM_2 (pI_n0.mpr (by omega)) (pI_f (by omega)) rfl
              | exact EM_3 (pI_n0.mpr (by omega)) (pI_n0.mpr (by omega)) (pI_f (by omega)) rfl
      · refine K_thr (M := mX7_change) rfl rfl ti_74_147_78 (by decide) (by decide) (by decide) (by decide) (Or.inl ⟨dX7_change_17, dX7_change_20, dX7_change_21, dX7_change_23, dX7_change_26⟩) ?_
        first
          | exact EM_1 (pI_f (by omega)) rfl
          | exact EM_2 (pI_n0.mpr (by omega)) (pI_f (by omega)) rfl
          | exact EM_3 (pI_n0.mpr (by omega)) (pI_n0.mpr (by omega)) (pI_f (by omega)) rfl
