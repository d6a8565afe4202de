/-! THE REFERENCE: calls that leave words of their own behind -/
/-- the same but for the fields that a call leaves its own words in -/
def SQ (u t : TS) : Prop := ∀ k, k < 23 ∨ k = 24 → u k = t k
theorem SQ_rfl {t : TS} : SQ t t := fun _ _ => rfl
theorem SQ_l {u t : TS} {k : Nat} {i x : Int} (h : 23 ≤ k ∧ k ≠ 24) (e : SQ u t) : SQ (ts u k i x) t := fun k' h' => by rw [ts_n (by omega)]; exact e k' h'
theorem SQ_r {u t : TS} {k : Nat} {i x : Int} (h : 23 ≤ k ∧ k ≠ 24) (e : SQ u t) : SQ u (ts t k i x) := fun k' h' => by rw [ts_n (by omega)]; exact e k' h'
theorem SQ_c {u t : TS} {k : Nat} {i x : Int} (e : SQ u t) : SQ (ts u k i x) (ts t k i x) := fun k' h' => by
  by_cases q : k' = k
  · subst q; rw [ts_s, ts_s, e _ h']
  · rw [ts_n q, ts_n q, e _ h']
theorem SQ_t3 {u t : TS} {z : Int × Int × Int} (e : SQ u t) : SQ (t3 u z) t := SQ_l (by decide) (SQ_l (by decide) (SQ_l (by decide) e))
theorem SQ_wt {u : TS} {b : Int} : SQ (wt u b) u := by unfold wt; split <;> first | exact SQ_rfl | exact SQ_t3 SQ_rfl
theorem SQ_trans {u t r : TS} (a : SQ u t) (b : SQ t r) : SQ u r := fun k h => (a k h).trans (b k h)
/-- the answer of a call: refused with the number g, the state else as it was; or v, and t -/
def ansQ (τ : TS) (g : Int) (v : Int) (t : TS) (r : Option LV) (u : TS) : Prop := WF u ∧ ((¬ g = 0 ∧ r = some (vI (iI 0)) ∧ u 33 0 = g ∧ SQ u τ) ∨ (g = 0 ∧ r = some (vI (iI v)) ∧ u 33 0 = 0 ∧ SQ u t))
theorem ansQ_n {τ t u : TS} {g v : Int} {r : Option LV} (W : WF u) (h : ¬ g = 0) (hr : r = some (vI (iI 0))) (hu : u 33 0 = g) (e : SQ u τ) : ansQ τ g v t r u := And.intro W (Or.inl (And.intro h (And.intro hr (And.intro hu e))))
theorem ansQ_y {τ t u : TS} {g v : Int} {r : Option LV} (W : WF u) (h : g = 0) (hr : r = some (vI (iI v))) (hu : u 33 0 = 0) (e : SQ u t) : ansQ τ g v t r u := And.intro W (Or.inr (And.intro h (And.intro hr (And.intro hu e))))
theorem WF_wt' {τ : TS} {b : Int} (W : WF τ) : WF (wt τ b) := WF_wt W b
theorem wt_s {τ : TS} {b : Int} : wt τ b = t3 τ (te τ b) ∨ wt τ b = τ := by unfold wt; split; exact Or.inr rfl; exact Or.inl rfl
set_option maxRecDepth 100000 in
set_option maxHeartbeats 4000000 in
theorem c_test {X : GX} {h : LH} {τ : TS} (W : WF τ) {w f m : Int} (hw : rg w) (hf : rg f) (hm : rg m) : CM X mX8_test [vI (iI w), vI (iI f), vI (iI m)] h τ (ans τ (gl (pI (0 ≤ w ∧ w ≤ τ 5 0 - 1)) (pI ((0 ≤ f ∧ f ≤ 2000) ∧ 0 ≤ m ∧ m ≤ 100)) (pI ((0 ≤ w ∧ w ≤ τ 5 0 - 1) ∧ ¬ τ 3 w = 2 ∧ τ 19 0 = 0))) (pI ((500 ≤ f ∧ f ≤ 770) ∧ m ≤ 15)) (fol (ts (ts (ts τ 33 0 0) 3 w (if ((500 ≤ f ∧ f ≤ 770) ∧ m ≤ 15) then 1 else 2)) 4 w (pI (¬ ((500 ≤ f ∧ f ≤ 770) ∧ m ≤ 15) ∧ τ 21 0 = 0))))) := by
  have b5 := wf5 W 0
  have b3 := wf3 W w
  have b19 := wf19 W 0
  have b21 := wf21 W 0
  refine CM_of (by decide +kernel) rfl (Nat.le_of_ble_eq_true rfl) ?_
  refine J_aload_n (M := mX8_test) dX8_test_0 rfl rfl ?_
  refine J_iload_n (M := mX8_test) dX8_test_1 rfl rfl ?_
  refine M_call (M := mX8_test) (as := [_]) dX8_test_2 ca_X8_109 ⟨by decide, by decide⟩ rfl (Nat.le_of_ble_eq_true rfl) rfl rfl (c_isWeapon W (by first | assumption | exact pI_rg _ | (unfold rg; omega))) (fun v_2 t_2 hv_2 => ?_)
  obtain ⟨rfl, e_2⟩ := hv_2
  rw [e_2]
  refine J_istore (M := mX8_test) dX8_test_5 (by decide) ?_
  refine J_aload_n (M := mX8_test) dX8_test_7 rfl rfl ?_
  refine J_iload (M := mX8_test) dX8_test_8 rfl ?_
  refine Z_bj (M := mX8_test) (pcB := 36) ((0 ≤ f ∧ f ≤ 2000) ∧ 0 ≤ m ∧ m ≤ 100) (fun hj_36 => ?_) ?_
  · refine J_iload_n (M := mX8_test) dX8_test_10 rfl rfl ?_
    refine Z_iconst (M := mX8_test) dX8_test_11 ?_
    refine Z_sipush (M := mX8_test) dX8_test_12 rfl ?_
    refine M_callS (M := mX8_test) (as := [_, _, _]) dX8_test_15 ca_X8_85 ⟨by decide, by decide⟩ rfl (Nat.le_of_ble_eq_true rfl) rfl rfl (c_in (by first | assumption | exact pI_rg _ | (unfold rg; omega)) (by first | assumption | exact pI_rg _ | (unfold rg; omega)) (by first | assumption | exact pI_rg _ | (unfold rg; omega))) ?_
    first
      | refine Z_pf (M := mX8_test) (tgt := 35) dX8_test_18 (by decide) (fun c_18 => ?_) (fun c_18 => ?_)
      | refine Z_if_eq (M := mX8_test) (tgt := 35) (by first | assumption | exact pI_rg _ | (unfold rg; omega)) dX8_test_18 (by decide) (fun c_18 => ?_) (fun c_18 => ?_)
    · refine Z_iconst (M := mX8_test) dX8_test_35 ?_
      exact hj_36 _ (pI_f (by omega)).symm
    · refine J_iload_n (M := mX8_test) dX8_test_21 rfl rfl ?_
      refine Z_iconst (M := mX8_test) dX8_test_22 ?_
      refine Z_bipush (M := mX8_test) dX8_test_23 rfl ?_
      refine M_callS (M := mX8_test) (as := [_, _, _]) dX8_test_25 ca_X8_85 ⟨by decide, by decide⟩ rfl (Nat.le_of_ble_eq_true rfl) rfl rfl (c_in (by first | assumption | exact pI_rg _ | (unfold rg; omega)) (by first | assumption | exact pI_rg _ | (unfold rg; omega)) (by first | assumption | exact pI_rg _ | (unfold rg; omega))) ?_
      first
        | refine Z_pf (M := mX8_test) (tgt := 35) dX8_test_28 (by decide) (fun c_28 => ?_) (fun c_28 => ?_)
        | refine Z_if_eq (M := mX8_test) (tgt := 35) (by first | assumption | exact pI_rg _ | (unfold rg; omega)) dX8_test_28 (by decide) (fun c_28 => ?_) (fun c_28 => ?_)
      · refine Z_iconst (M := mX8_test) dX8_test_35 ?_
        exact hj_36 _ (pI_f (by omega)).symm
      · refine Z_iconst (M := mX8_test) dX8_test_31 ?_
        refine J_goto (M := mX8_test) (tgt := 36) dX8_test_32 (by decide) ?_
        exact hj_36 _ (pI_t (by omega)).symm
  refine Z_bj (M := mX8_test) (pcB := 63) ((0 ≤ w ∧ w ≤ τ 5 0 - 1) ∧ ¬ τ 3 w = 2 ∧ τ 19 0 = 0) (fun hj_63 => ?_) ?_
  · refine J_iload (M := mX8_test) dX8_test_36 rfl ?_
    first
      | refine Z_pf (M := mX8_test) (tgt := 62) dX8_test_38 (by decide) (fun c_38 => ?_) (fun c_38 => ?_)
      | refine Z_if_eq (M := mX8_test) (tgt := 62) (by first | assumption | exact pI_rg _ | (unfold rg; omega)) dX8_test_38 (by decide) (fun c_38 => ?_) (fun c_38 => ?_)
    · refine Z_iconst (M := mX8_test) dX8_test_62 ?_
      exact hj_63 _ (pI_f (by omega)).symm
    · refine J_aload_n (M := mX8_test) dX8_test_41 rfl rfl ?_
      refine M_get (M := mX8_test) (v := vR (some (43, 0))) dX8_test_42 fi_X8_13 rfl ?_
      refine J_iload_n (M := mX8_test) dX8_test_45 rfl rfl ?_
      refine M_iald (M := mX8_test) (kf := 3) (N := 24) dX8_test_46 rfl (by decide) (by omega) (by omega) ?_
      refine Z_eq (M := mX8_test) (b := τ 3 _) rfl ?_
      refine Z_iconst (M := mX8_test) dX8_test_47 ?_
      refine Z_ic_eq (M := mX8_test) (tgt := 62) (by first | assumption | exact pI_rg _ | (unfold rg; omega)) (by first | assumption | exact pI_rg _ | (unfold rg; omega)) dX8_test_48 (by decide) (fun c_48 => ?_) (fun c_48 => ?_)
      · refine Z_iconst (M := mX8_test) dX8_test_62 ?_
        exact hj_63 _ (pI_f (by omega)).symm
      · refine J_aload_n (M := mX8_test) dX8_test_51 rfl rfl ?_
        refine M_get (M := mX8_test) dX8_test_52 fi_X8_112 rfl ?_
        refine Z_eq (M := mX8_test) (b := τ 19 0) rfl ?_
        first
          | refine Z_pt (M := mX8_test) (tgt := 62) dX8_test_55 (by decide) (fun c_55 => ?_) (fun c_55 => ?_)
          | refine Z_if_ne (M := mX8_test) (tgt := 62) (by first | assumption | exact pI_rg _ | (unfold rg; omega)) dX8_test_55 (by decide) (fun c_55 => ?_) (fun c_55 => ?_)
        · refine Z_iconst (M := mX8_test) dX8_test_62 ?_
          exact hj_63 _ (pI_f (by omega)).symm
        · refine Z_iconst (M := mX8_test) dX8_test_58 ?_
          refine J_goto (M := mX8_test) (tgt := 63) dX8_test_59 (by decide) ?_
          exact hj_63 _ (pI_t (by omega)).symm
  refine M_call (M := mX8_test) (as := [_, _, _]) dX8_test_63 ca_X8_101 ⟨by decide, by decide⟩ rfl (Nat.le_of_ble_eq_true rfl) rfl rfl (c_goes (by first | assumption | exact pI_rg _ | (unfold rg; omega)) (by first | assumption | exact pI_rg _ | (unfold rg; omega)) (by first | assumption | exact pI_rg _ | (unfold rg; omega))) (fun v_63 t_63 hv_63 => ?_)
  obtain ⟨rfl, e_63⟩ := hv_63
  rw [e_63]
  have W1 : WF (ts τ 33 0 (gl (pI (0 ≤ w ∧ w ≤ τ 5 0 - 1)) (pI ((0 ≤ f ∧ f ≤ 2000) ∧ 0 ≤ m ∧ m ≤ 100)) (pI ((0 ≤ w ∧ w ≤ τ 5 0 - 1) ∧ ¬ τ 3 w = 2 ∧ τ 19 0 = 0)))) := WF_ts W gl_rg
  first
    | refine Z_pt (M := mX8_test) (tgt := 71) dX8_test_66 (by decide) (fun c_66 => ?_) (fun c_66 => ?_)
    | refine Z_if_ne (M := mX8_test) (tgt := 71) (by first | assumption | exact pI_rg _ | (unfold rg; omega)) dX8_test_66 (by decide) (fun c_66 => ?_) (fun c_66 => ?_)
  · have hc := c_66
    simp only [pI_n0] at hc
    rw [gl_0 c_66]
    rw [gl_0 c_66] at W1
    refine Z_bj (M := mX8_test) (pcB := 95) (((500 ≤ f ∧ f ≤ 770) ∧ m ≤ 15)) (fun hj_95 => ?_) ?_
    · refine J_iload_n (M := mX8_test) dX8_test_71 rfl rfl ?_
      refine Z_sipush (M := mX8_test) dX8_test_72 rfl ?_
      refine Z_sipush (M := mX8_test) dX8_test_75 rfl ?_
      refine M_callS (M := mX8_test) (as := [_, _, _]) dX8_test_78 ca_X8_85 ⟨by decide, by decide⟩ rfl (Nat.le_of_ble_eq_true rfl) rfl rfl (c_in (by first | assumption | exact pI_rg _ | (unfold rg; omega)) (by first | assumption | exact pI_rg _ | (unfold rg; omega)) (by first | assumption | exact pI_rg _ | (unfold rg; omega))) ?_
      first
        | refine Z_pf (M := mX8_test) (tgt := 94) dX8_test_81 (by decide) (fun c_81 => ?_) (fun c_81 => ?_)
        | refine Z_if_eq (M := mX8_test) (tgt := 94) (by first | assumption | exact pI_rg _ | (unfold rg; omega)) dX8_test_81 (by decide) (fun c_81 => ?_) (fun c_81 => ?_)
      · refine Z_iconst (M := mX8_test) dX8_test_94 ?_
        exact hj_95 _ (pI_f (by omega)).symm
      · refine J_iload_n (M := mX8_test) dX8_test_84 rfl rfl ?_
        refine Z_bipush (M := mX8_test) dX8_test_85 rfl ?_
        refine Z_ic_gt (M := mX8_test) (tgt := 94) (by first | assumption | exact pI_rg _ | (unfold rg; omega)) (by first | assumption | exact pI_rg _ | (unfold rg; omega)) dX8_test_87 (by decide) (fun c_87 => ?_) (fun c_87 => ?_)
        · refine Z_iconst (M := mX8_test) dX8_test_94 ?_
          exact hj_95 _ (pI_f (by omega)).symm
        · refine Z_iconst (M := mX8_test) dX8_test_90 ?_
          refine J_goto (M := mX8_test) (tgt := 95) dX8_test_91 (by decide) ?_
          exact hj_95 _ (pI_t (by omega)).symm
    refine J_istore (M := mX8_test) dX8_test_95 (by decide) ?_
    refine J_aload_n (M := mX8_test) dX8_test_97 rfl rfl ?_
    refine M_get (M := mX8_test) (v := vR (some (43, 0))) dX8_test_98 fi_X8_13 rfl ?_
    refine J_iload_n (M := mX8_test) dX8_test_101 rfl rfl ?_
    refine J_iload (M := mX8_test) dX8_test_102 rfl ?_
    first
      | refine Z_pf (M := mX8_test) (tgt := 111) dX8_test_104 (by decide) (fun c_104 => ?_) (fun c_104 => ?_)
      | refine Z_if_eq (M := mX8_test) (tgt := 111) (by first | assumption | exact pI_rg _ | (unfold rg; omega)) dX8_test_104 (by decide) (fun c_104 => ?_) (fun c_104 => ?_)
    · refine Z_iconst (M := mX8_test) dX8_test_111 ?_
      refine Z_eq (M := mX8_test) (b := (if ((500 ≤ f ∧ f ≤ 770) ∧ m ≤ 15) then 1 else 2)) (if_neg (by omega)).symm ?_
      refine M_iast (M := mX8_test) (kf := 3) (N := 24) dX8_test_112 rfl rfl rfl rfl (by decide) (by decide) (by omega) (by omega) ?_
      refine J_aload_n (M := mX8_test) dX8_test_113 rfl rfl ?_
      refine M_get (M := mX8_test) (v := vR (some (44, 0))) dX8_test_114 fi_X8_16 rfl ?_
      refine J_iload_n (M := mX8_test) dX8_test_117 rfl rfl ?_
      refine Z_bj (M := mX8_test) (pcB := 135) (¬ ((500 ≤ f ∧ f ≤ 770) ∧ m ≤ 15) ∧ τ 21 0 = 0) (fun hj_135 => ?_) ?_
      · refine J_iload (M := mX8_test) dX8_test_118 rfl ?_
        first
          | refine Z_pt (M := mX8_test) (tgt := 134) dX8_test_120 (by decide) (fun c_120 => ?_) (fun c_120 => ?_)
          | refine Z_if_ne (M := mX8_test) (tgt := 134) (by first | assumption | exact pI_rg _ | (unfold rg; omega)) dX8_test_120 (by decide) (fun c_120 => ?_) (fun c_120 => ?_)
        · refine Z_iconst (M := mX8_test) dX8_test_134 ?_
          exact hj_135 _ (pI_f (by omega)).symm
        · refine J_aload_n (M := mX8_test) dX8_test_123 rfl rfl ?_
          refine M_get (M := mX8_test) dX8_test_124 fi_X8_95 rfl ?_
          refine Z_eq (M := mX8_test) (b := τ 21 0) rfl ?_
          refine Z_eq (M := mX8_test) (b := τ 21 0) rfl ?_
          first
            | refine Z_pt (M := mX8_test) (tgt := 134) dX8_test_127 (by decide) (fun c_127 => ?_) (fun c_127 => ?_)
            | refine Z_if_ne (M := mX8_test) (tgt := 134) (by first | assumption | exact pI_rg _ | (unfold rg; omega)) dX8_test_127 (by decide) (fun c_127 => ?_) (fun c_127 => ?_)
          · refine Z_iconst (M := mX8_test) dX8_test_134 ?_
            exact hj_135 _ (pI_f (by omega)).symm
          · refine Z_iconst (M := mX8_test) dX8_test_130 ?_
            refine J_goto (M := mX8_test) (tgt := 135) dX8_test_131 (by decide) ?_
            exact hj_135 _ (pI_t (by omega)).symm
      refine M_zast (M := mX8_test) (kf := 4) (N := 24) dX8_test_135 (by first | exact pI_01 _ | exact Or.inl rfl | exact Or.inr rfl | omega) rfl rfl rfl rfl (by decide) (by decide) (by omega) (by omega) ?_
      refine J_aload_n (M := mX8_test) dX8_test_136 rfl rfl ?_
      have W2 : WF (ts (ts (ts τ 33 0 0) 3 w (if ((500 ≤ f ∧ f ≤ 770) ∧ m ≤ 15) then 1 else 2)) 4 w (pI (¬ ((500 ≤ f ∧ f ≤ 770) ∧ m ≤ 15) ∧ τ 21 0 = 0))) := WF_ts (WF_ts W1 (by show (0 : Int) ≤ _ ∧ _ ≤ (2 : Int); split <;> omega)) (by show (0 : Int) ≤ _ ∧ _ ≤ (1 : Int); have := pI_01 (¬ ((500 ≤ f ∧ f ≤ 770) ∧ m ≤ 15) ∧ τ 21 0 = 0); omega)
      refine M_call (M := mX8_test) (as := []) dX8_test_137 ca_X8_115 ⟨by decide, by decide⟩ rfl (Nat.le_of_ble_eq_true rfl) rfl rfl (c_follows W2) (fun v_137 t_137 hv_137 => ?_)
      obtain ⟨rfl, e_137⟩ := hv_137
      rw [e_137]
      refine J_iload (M := mX8_test) dX8_test_140 rfl ?_
      refine M_zret (M := mX8_test) dX8_test_142 rfl (by first | exact pI_01 _ | exact Or.inl rfl | exact Or.inr rfl | omega) ?_
      exact Or.inr (And.intro rfl (And.intro rfl rfl))
    · refine Z_iconst (M := mX8_test) dX8_test_107 ?_
      refine Z_eq (M := mX8_test) (b := (if ((500 ≤ f ∧ f ≤ 770) ∧ m ≤ 15) then 1 else 2)) (if_pos (by omega)).symm ?_
      refine J_goto (M := mX8_test) (tgt := 112) dX8_test_108 (by decide) ?_
      refine M_iast (M := mX8_test) (kf := 3) (N := 24) dX8_test_112 rfl rfl rfl rfl (by decide) (by decide) (by omega) (by omega) ?_
      refine J_aload_n (M := mX8_test) dX8_test_113 rfl rfl ?_
      refine M_get (M := mX8_test) (v := vR (some (44, 0))) dX8_test_114 fi_X8_16 rfl ?_
      refine J_iload_n (M := mX8_test) dX8_test_117 rfl rfl ?_
      refine Z_bj (M := mX8_test) (pcB := 135) (¬ ((500 ≤ f ∧ f ≤ 770) ∧ m ≤ 15) ∧ τ 21 0 = 0) (fun hj_135 => ?_) ?_
      · refine J_iload (M := mX8_test) dX8_test_118 rfl ?_
        first
          | refine Z_pt (M := mX8_test) (tgt := 134) dX8_test_120 (by decide) (fun c_120 => ?_) (fun c_120 => ?_)
          | refine Z_if_ne (M := mX8_test) (tgt := 134) (by first | assumption | exact pI_rg _ | (unfold rg; omega)) dX8_test_120 (by decide) (fun c_120 => ?_) (fun c_120 => ?_)
        · refine Z_iconst (M := mX8_test) dX8_test_134 ?_
          exact hj_135 _ (pI_f (by omega)).symm
        · refine J_aload_n (M := mX8_test) dX8_test_123 rfl rfl ?_
          refine M_get (M := mX8_test) dX8_test_124 fi_X8_95 rfl ?_
          refine Z_eq (M := mX8_test) (b := τ 21 0) rfl ?_
          refine Z_eq (M := mX8_test) (b := τ 21 0) rfl ?_
          first
            | refine Z_pt (M := mX8_test) (tgt := 134) dX8_test_127 (by decide) (fun c_127 => ?_) (fun c_127 => ?_)
            | refine Z_if_ne (M := mX8_test) (tgt := 134) (by first | assumption | exact pI_rg _ | (unfold rg; omega)) dX8_test_127 (by decide) (fun c_127 => ?_) (fun c_127 => ?_)
          · refine Z_iconst (M := mX8_test) dX8_test_134 ?_
            exact hj_135 _ (pI_f (by omega)).symm
          · refine Z_iconst (M := mX8_test) dX8_test_130 ?_
            refine J_goto (M := mX8_test) (tgt := 135) dX8_test_131 (by decide) ?_
            exact hj_135 _ (pI_t (by omega)).symm
      refine M_zast (M := mX8_test) (kf := 4) (N := 24) dX8_test_135 (by first | exact pI_01 _ | exact Or.inl rfl | exact Or.inr rfl | omega) rfl rfl rfl rfl (by decide) (by decide) (by omega) (by omega) ?_
      refine J_aload_n (M := mX8_test) dX8_test_136 rfl rfl ?_
      have W2 : WF (ts (ts (ts τ 33 0 0) 3 w (if ((500 ≤ f ∧ f ≤ 770) ∧ m ≤ 15) then 1 else 2)) 4 w (pI (¬ ((500 ≤ f ∧ f ≤ 770) ∧ m ≤ 15) ∧ τ 21 0 = 0))) := WF_ts (WF_ts W1 (by show (0 : Int) ≤ _ ∧ _ ≤ (2 : Int); split <;> omega)) (by show (0 : Int) ≤ _ ∧ _ ≤ (1 : Int); have := pI_01 (¬ ((500 ≤ f ∧ f ≤ 770) ∧ m ≤ 15) ∧ τ 21 0 = 0); omega)
      refine M_call (M := mX8_test) (as := []) dX8_test_137 ca_X8_115 ⟨by decide, by decide⟩ rfl (Nat.le_of_ble_eq_true rfl) rfl rfl (c_follows W2) (fun v_137 t_137 hv_137 => ?_)
      obtain ⟨rfl, e_137⟩ := hv_137
      rw [e_137]
      refine J_iload (M := mX8_test) dX8_test_140 rfl ?_
      refine M_zret (M := mX8_test) dX8_test_142 rfl (by first | exact pI_01 _ | exact Or.inl rfl | exact Or.inr rfl | omega) ?_
      exact Or.inr (And.intro rfl (And.intro rfl rfl))
  · refine Z_iconst (M := mX8_test) dX8_test_69 ?_
    refine M_zret (M := mX8_test) dX8_test_70 rfl (by first | exact pI_01 _ | exact Or.inl rfl | exact Or.inr rfl | omega) ?_
    exact Or.inl (And.intro (gl_n (by assumption)) (And.intro rfl rfl))

theorem fa_wt {τ : TS} {b c s : Int} : fa (wt τ b) c s = fa τ c s := by unfold wt; split <;> rfl
theorem wt_ns {τ : TS} {b : Int} (k : Nat) (h : k < 25 ∨ 27 < k) : wt τ b k = τ k := by
  unfold wt
  split
  · rfl
  · unfold t3; rw [ts_n (by omega), ts_n (by omega), ts_n (by omega)]
set_option maxRecDepth 100000 in
set_option maxHeartbeats 4000000 in
theorem c_begin {X : GX} {h : LH} {τ : TS} (W : WF τ) {b v w : Int} (hb : rg b) (hv : rg v) (hw : rg w) : CM X mX8_begin [vI (iI b), vI (iI v), vI (iI w)] h τ (ansQ τ (gl (pI (((0 ≤ b ∧ b ≤ τ 9 0 - 1) ∨ (0 < τ 21 0 ∧ 101 ≤ b ∧ b ≤ 99 + τ 21 0)) ∧ (0 ≤ v ∧ v ≤ τ 5 0 - 1) ∧ 0 ≤ w ∧ w ≤ τ 5 0 - 1)) (pI (((((0 ≤ b ∧ b ≤ τ 9 0 - 1) ∨ (0 < τ 21 0 ∧ 101 ≤ b ∧ b ≤ 99 + τ 21 0)) ∧ (0 ≤ v ∧ v ≤ τ 5 0 - 1) ∧ 0 ≤ w ∧ w ≤ τ 5 0 - 1) ∧ τ 19 0 = 0 ∧ 0 ≤ fa τ b 0 ∧ 0 ≤ fa τ b 1) ∧ wo τ b = -1 ∧ (τ 3 v = 1 ∧ fa τ b 0 = τ 2 v) ∧ τ 3 w = 1 ∧ fa τ b 1 = τ 2 w)) 1) (τ 10 (slo b)) (ts (ts (ts (ts (ts τ 33 0 0) 17 0 b) 18 0 v) 18 1 w) 20 0 0)) := by
  have b5 := wf5 W 0
  have b9 := wf9 W 0
  have b21 := wf21 W 0
  have b19 := wf19 W 0
  have bf0 := fa_rg W b 0
  have bf1 := fa_rg W b 1
  have bwo := wo_rg W b
  refine CM_of (by decide +kernel) rfl (Nat.le_of_ble_eq_true rfl) ?_
  refine Z_bj (M := mX8_begin) (pcB := 29) ((((0 ≤ b ∧ b ≤ τ 9 0 - 1) ∨ (0 < τ 21 0 ∧ 101 ≤ b ∧ b ≤ 99 + τ 21 0)) ∧ (0 ≤ v ∧ v ≤ τ 5 0 - 1) ∧ 0 ≤ w ∧ w ≤ τ 5 0 - 1)) (fun hj_29 => ?_) ?_
  · refine J_aload_n (M := mX8_begin) dX8_begin_0 rfl rfl ?_
    refine J_iload_n (M := mX8_begin) dX8_begin_1 rfl rfl ?_
    refine M_call (M := mX8_begin) (as := [_]) dX8_begin_2 ca_X8_152 ⟨by decide, by decide⟩ rfl (Nat.le_of_ble_eq_true rfl) rfl rfl (c_isBout W (by first | assumption | exact pI_rg _ | (unfold rg; omega))) (fun v_2 t_2 hv_2 => ?_)
    obtain ⟨rfl, e_2⟩ := hv_2
    rw [e_2]
    first
      | refine Z_pf (M := mX8_begin) (tgt := 28) dX8_begin_5 (by decide) (fun c_5 => ?_) (fun c_5 => ?_)
      | refine Z_if_eq (M := mX8_begin) (tgt := 28) (by first | assumption | exact pI_rg _ | (unfold rg; omega)) dX8_begin_5 (by decide) (fun c_5 => ?_) (fun c_5 => ?_)
    · refine Z_iconst (M := mX8_begin) dX8_begin_28 ?_
      exact hj_29 _ (pI_f (by omega)).symm
    · refine J_aload_n (M := mX8_begin) dX8_begin_8 rfl rfl ?_
      refine J_iload_n (M := mX8_begin) dX8_begin_9 rfl rfl ?_
      refine M_call (M := mX8_begin) (as := [_]) dX8_begin_10 ca_X8_109 ⟨by decide, by decide⟩ rfl (Nat.le_of_ble_eq_true rfl) rfl rfl (c_isWeapon W (by first | assumption | exact pI_rg _ | (unfold rg; omega))) (fun v_10 t_10 hv_10 => ?_)
      obtain ⟨rfl, e_10⟩ := hv_10
      rw [e_10]
      first
        | refine Z_pf (M := mX8_begin) (tgt := 28) dX8_begin_13 (by decide) (fun c_13 => ?_) (fun c_13 => ?_)
        | refine Z_if_eq (M := mX8_begin) (tgt := 28) (by first | assumption | exact pI_rg _ | (unfold rg; omega)) dX8_begin_13 (by decide) (fun c_13 => ?_) (fun c_13 => ?_)
      · refine Z_iconst (M := mX8_begin) dX8_begin_28 ?_
        exact hj_29 _ (pI_f (by omega)).symm
      · refine J_aload_n (M := mX8_begin) dX8_begin_16 rfl rfl ?_
        refine J_iload_n (M := mX8_begin) dX8_begin_17 rfl rfl ?_
        refine M_call (M := mX8_begin) (as := [_]) dX8_begin_18 ca_X8_109 ⟨by decide, by decide⟩ rfl (Nat.le_of_ble_eq_true rfl) rfl rfl (c_isWeapon W (by first | assumption | exact pI_rg _ | (unfold rg; omega))) (fun v_18 t_18 hv_18 => ?_)
        obtain ⟨rfl, e_18⟩ := hv_18
        rw [e_18]
        first
          | refine Z_pf (M := mX8_begin) (tgt := 28) dX8_begin_21 (by decide) (fun c_21 => ?_) (fun c_21 => ?_)
          | refine Z_if_eq (M := mX8_begin) (tgt := 28) (by first | assumption | exact pI_rg _ | (unfold rg; omega)) dX8_begin_21 (by decide) (fun c_21 => ?_) (fun c_21 => ?_)
        · refine Z_iconst (M := mX8_begin) dX8_begin_28 ?_
          exact hj_29 _ (pI_f (by omega)).symm
        · refine Z_iconst (M := mX8_begin) dX8_begin_24 ?_
          refine J_goto (M := mX8_begin) (tgt := 29) dX8_begin_25 (by decide) ?_
          exact hj_29 _ (pI_t (by omega)).symm
  refine J_istore (M := mX8_begin) dX8_begin_29 (by decide) ?_
  have hbb : ((0 ≤ b ∧ b ≤ τ 9 0 - 1) ∨ (0 < τ 21 0 ∧ 101 ≤ b ∧ b ≤ 99 + τ 21 0)) → okb b := by unfold okb; omega
  refine Z_bj (M := mX8_begin) (pcB := 66) (((((0 ≤ b ∧ b ≤ τ 9 0 - 1) ∨ (0 < τ 21 0 ∧ 101 ≤ b ∧ b ≤ 99 + τ 21 0)) ∧ (0 ≤ v ∧ v ≤ τ 5 0 - 1) ∧ 0 ≤ w ∧ w ≤ τ 5 0 - 1) ∧ τ 19 0 = 0 ∧ 0 ≤ fa τ b 0 ∧ 0 ≤ fa τ b 1)) (fun hj_66 => ?_) ?_
  · refine J_iload (M := mX8_begin) dX8_begin_31 rfl ?_
    first
      | refine Z_pf (M := mX8_begin) (tgt := 65) dX8_begin_33 (by decide) (fun c_33 => ?_) (fun c_33 => ?_)
      | refine Z_if_eq (M := mX8_begin) (tgt := 65) (by first | assumption | exact pI_rg _ | (unfold rg; omega)) dX8_begin_33 (by decide) (fun c_33 => ?_) (fun c_33 => ?_)
    · refine Z_iconst (M := mX8_begin) dX8_begin_65 ?_
      exact hj_66 _ (pI_f (by omega)).symm
    · refine J_aload_n (M := mX8_begin) dX8_begin_36 rfl rfl ?_
      refine M_get (M := mX8_begin) dX8_begin_37 fi_X8_112 rfl ?_
      refine Z_eq (M := mX8_begin) (b := τ 19 0) rfl ?_
      first
        | refine Z_pt (M := mX8_begin) (tgt := 65) dX8_begin_40 (by decide) (fun c_40 => ?_) (fun c_40 => ?_)
        | refine Z_if_ne (M := mX8_begin) (tgt := 65) (by first | assumption | exact pI_rg _ | (unfold rg; omega)) dX8_begin_40 (by decide) (fun c_40 => ?_) (fun c_40 => ?_)
      · refine Z_iconst (M := mX8_begin) dX8_begin_65 ?_
        exact hj_66 _ (pI_f (by omega)).symm
      · refine J_aload_n (M := mX8_begin) dX8_begin_43 rfl rfl ?_
        refine J_iload_n (M := mX8_begin) dX8_begin_44 rfl rfl ?_
        refine Z_iconst (M := mX8_begin) dX8_begin_45 ?_
        have hb1 := hbb (by omega)
        refine M_call (M := mX8_begin) (as := [_, _]) dX8_begin_46 ca_X8_149 ⟨by decide, by decide⟩ rfl (Nat.le_of_ble_eq_true rfl) rfl rfl (c_fencerAt W (by assumption) (by omega)) (fun v_46 t_46 hv_46 => ?_)
        obtain ⟨rfl, e_46⟩ := hv_46
        rw [e_46]
        refine Z_if_lt (M := mX8_begin) (tgt := 65) (by first | assumption | exact pI_rg _ | (unfold rg; omega)) dX8_begin_49 (by decide) (fun c_49 => ?_) (fun c_49 => ?_)
        · refine Z_iconst (M := mX8_begin) dX8_begin_65 ?_
          exact hj_66 _ (pI_f (by omega)).symm
        · refine J_aload_n (M := mX8_begin) dX8_begin_52 rfl rfl ?_
          refine J_iload_n (M := mX8_begin) dX8_begin_53 rfl rfl ?_
          refine Z_iconst (M := mX8_begin) dX8_begin_54 ?_
          refine M_call (M := mX8_begin) (as := [_, _]) dX8_begin_55 ca_X8_149 ⟨by decide, by decide⟩ rfl (Nat.le_of_ble_eq_true rfl) rfl rfl (c_fencerAt W (by assumption) (by omega)) (fun v_55 t_55 hv_55 => ?_)
          obtain ⟨rfl, e_55⟩ := hv_55
          rw [e_55]
          refine Z_if_lt (M := mX8_begin) (tgt := 65) (by first | assumption | exact pI_rg _ | (unfold rg; omega)) dX8_begin_58 (by decide) (fun c_58 => ?_) (fun c_58 => ?_)
          · refine Z_iconst (M := mX8_begin) dX8_begin_65 ?_
            exact hj_66 _ (pI_f (by omega)).symm
          · refine Z_iconst (M := mX8_begin) dX8_begin_61 ?_
            refine J_goto (M := mX8_begin) (tgt := 66) dX8_begin_62 (by decide) ?_
            exact hj_66 _ (pI_t (by omega)).symm
  refine J_istore (M := mX8_begin) dX8_begin_66 (by decide) ?_
  have hj107 : ∀ (u : TS) (x : Int), (u = τ ∨ u = wt τ b) → x = pI (((((0 ≤ b ∧ b ≤ τ 9 0 - 1) ∨ (0 < τ 21 0 ∧ 101 ≤ b ∧ b ≤ 99 + τ 21 0)) ∧ (0 ≤ v ∧ v ≤ τ 5 0 - 1) ∧ 0 ≤ w ∧ w ≤ τ 5 0 - 1) ∧ τ 19 0 = 0 ∧ 0 ≤ fa τ b 0 ∧ 0 ≤ fa τ b 1) ∧ wo τ b = -1 ∧ (τ 3 v = 1 ∧ fa τ b 0 = τ 2 v) ∧ τ 3 w = 1 ∧ fa τ b 1 = τ 2 w) → J X mX8_begin 107 [some (vR (some (20, 0))), some (vI (iI b)), some (vI (iI v)), some (vI (iI w)), some (vI (iI (pI (((0 ≤ b ∧ b ≤ τ 9 0 - 1) ∨ (0 < τ 21 0 ∧ 101 ≤ b ∧ b ≤ 99 + τ 21 0)) ∧ (0 ≤ v ∧ v ≤ τ 5 0 - 1) ∧ 0 ≤ w ∧ w ≤ τ 5 0 - 1)))), some (vI (iI (pI ((((0 ≤ b ∧ b ≤ τ 9 0 - 1) ∨ (0 < τ 21 0 ∧ 101 ≤ b ∧ b ≤ 99 + τ 21 0)) ∧ (0 ≤ v ∧ v ≤ τ 5 0 - 1) ∧ 0 ≤ w ∧ w ≤ τ 5 0 - 1) ∧ τ 19 0 = 0 ∧ 0 ≤ fa τ b 0 ∧ 0 ≤ fa τ b 1))))] [vI (iI x)] (hm h u) (mR mX8_begin).cells (mR mX8_begin).slots (QM h (ansQ τ (gl (pI (((0 ≤ b ∧ b ≤ τ 9 0 - 1) ∨ (0 < τ 21 0 ∧ 101 ≤ b ∧ b ≤ 99 + τ 21 0)) ∧ (0 ≤ v ∧ v ≤ τ 5 0 - 1) ∧ 0 ≤ w ∧ w ≤ τ 5 0 - 1)) (pI (((((0 ≤ b ∧ b ≤ τ 9 0 - 1) ∨ (0 < τ 21 0 ∧ 101 ≤ b ∧ b ≤ 99 + τ 21 0)) ∧ (0 ≤ v ∧ v ≤ τ 5 0 - 1) ∧ 0 ≤ w ∧ w ≤ τ 5 0 - 1) ∧ τ 19 0 = 0 ∧ 0 ≤ fa τ b 0 ∧ 0 ≤ fa τ b 1) ∧ wo τ b = -1 ∧ (τ 3 v = 1 ∧ fa τ b 0 = τ 2 v) ∧ τ 3 w = 1 ∧ fa τ b 1 = τ 2 w)) 1) (τ 10 (slo b)) (ts (ts (ts (ts (ts τ 33 0 0) 17 0 b) 18 0 v) 18 1 w) 20 0 0))) := by
    intro u x hu hx
    subst hx
    have Wu : WF u := hu.elim (fun e => e ▸ W) (fun e => e ▸ WF_wt W b)
    have SU : SQ u τ := hu.elim (fun e => e ▸ SQ_rfl) (fun e => e ▸ SQ_wt)
    refine J_istore (M := mX8_begin) dX8_begin_107 (by decide) ?_
    refine J_aload_n (M := mX8_begin) dX8_begin_109 rfl rfl ?_
    refine J_iload (M := mX8_begin) dX8_begin_110 rfl ?_
    refine J_iload (M := mX8_begin) dX8_begin_112 rfl ?_
    refine Z_iconst (M := mX8_begin) dX8_begin_114 ?_
    refine M_call (M := mX8_begin) (as := [_, _, _]) dX8_begin_115 ca_X8_101 ⟨by decide, by decide⟩ rfl (Nat.le_of_ble_eq_true rfl) rfl rfl (c_goes (by first | assumption | exact pI_rg _ | (unfold rg; omega)) (by first | assumption | exact pI_rg _ | (unfold rg; omega)) (by first | assumption | exact pI_rg _ | (unfold rg; omega))) (fun v_115 t_115 hv_115 => ?_)
    obtain ⟨rfl, e_115⟩ := hv_115
    rw [e_115]
    have W1 : WF (ts u 33 0 (gl (pI (((0 ≤ b ∧ b ≤ τ 9 0 - 1) ∨ (0 < τ 21 0 ∧ 101 ≤ b ∧ b ≤ 99 + τ 21 0)) ∧ (0 ≤ v ∧ v ≤ τ 5 0 - 1) ∧ 0 ≤ w ∧ w ≤ τ 5 0 - 1)) (pI (((((0 ≤ b ∧ b ≤ τ 9 0 - 1) ∨ (0 < τ 21 0 ∧ 101 ≤ b ∧ b ≤ 99 + τ 21 0)) ∧ (0 ≤ v ∧ v ≤ τ 5 0 - 1) ∧ 0 ≤ w ∧ w ≤ τ 5 0 - 1) ∧ τ 19 0 = 0 ∧ 0 ≤ fa τ b 0 ∧ 0 ≤ fa τ b 1) ∧ wo τ b = -1 ∧ (τ 3 v = 1 ∧ fa τ b 0 = τ 2 v) ∧ τ 3 w = 1 ∧ fa τ b 1 = τ 2 w)) 1)) := WF_ts Wu gl_rg
    first
      | refine Z_pt (M := mX8_begin) (tgt := 123) dX8_begin_118 (by decide) (fun c_118 => ?_) (fun c_118 => ?_)
      | refine Z_if_ne (M := mX8_begin) (tgt := 123) (by first | assumption | exact pI_rg _ | (unfold rg; omega)) dX8_begin_118 (by decide) (fun c_118 => ?_) (fun c_118 => ?_)
    · have hc := c_118
      simp only [pI_n0] at hc
      have hbb : okb b := by unfold okb; have := wf9 W 0; have := wf21 W 0; omega
      have hsl := slo_rg hbb
      refine J_aload_n (M := mX8_begin) dX8_begin_123 rfl rfl ?_
      refine J_iload_n (M := mX8_begin) dX8_begin_124 rfl rfl ?_
      refine M_puti (M := mX8_begin) dX8_begin_125 fi_X8_47 rfl (by decide) rfl ?_
      refine J_aload_n (M := mX8_begin) dX8_begin_128 rfl rfl ?_
      refine M_get (M := mX8_begin) (v := vR (some (58, 0))) dX8_begin_129 fi_X8_51 rfl ?_
      refine Z_iconst (M := mX8_begin) dX8_begin_132 ?_
      refine J_iload_n (M := mX8_begin) dX8_begin_133 rfl rfl ?_
      refine M_iast (M := mX8_begin) (kf := 18) (N := 2) dX8_begin_134 rfl rfl rfl rfl (by decide) (by decide) (by omega) (by omega) ?_
      refine J_aload_n (M := mX8_begin) dX8_begin_135 rfl rfl ?_
      refine M_get (M := mX8_begin) (v := vR (some (58, 0))) dX8_begin_136 fi_X8_51 rfl ?_
      refine Z_iconst (M := mX8_begin) dX8_begin_139 ?_
      refine J_iload_n (M := mX8_begin) dX8_begin_140 rfl rfl ?_
      refine M_iast (M := mX8_begin) (kf := 18) (N := 2) dX8_begin_141 rfl rfl rfl rfl (by decide) (by decide) (by omega) (by omega) ?_
      refine J_aload_n (M := mX8_begin) dX8_begin_142 rfl rfl ?_
      refine Z_iconst (M := mX8_begin) dX8_begin_143 ?_
      refine M_putz (M := mX8_begin) dX8_begin_144 fi_X8_161 (by first | exact pI_01 _ | exact Or.inl rfl | exact Or.inr rfl | omega) rfl (by decide) rfl ?_
      refine J_aload_n (M := mX8_begin) dX8_begin_147 rfl rfl ?_
      refine M_get (M := mX8_begin) (v := vR (some (50, 0))) dX8_begin_148 fi_X8_26 rfl ?_
      refine J_iload_n (M := mX8_begin) dX8_begin_151 rfl rfl ?_
      refine M_callS (M := mX8_begin) (as := [_]) dX8_begin_152 ca_X8_164 ⟨by decide, by decide⟩ rfl (Nat.le_of_ble_eq_true rfl) rfl rfl (c_slotOf (by first | assumption | exact pI_rg _ | (unfold rg; omega))) ?_
      refine M_iald (M := mX8_begin) (kf := 10) (N := 82) dX8_begin_155 rfl (by decide) (by omega) (by omega) ?_
      refine Z_eq (M := mX8_begin) (b := τ 10 (slo b)) (congrFun (SU 10 (Or.inl (by decide))) _) ?_
      refine M_iret (M := mX8_begin) dX8_begin_156 rfl ?_
      exact ansQ_y (by rw [gl_0 c_118]; rw [gl_0 c_118] at W1; exact WF_ts (WF_ts (WF_ts (WF_ts W1 (by show (-1 : Int) ≤ _ ∧ _ ≤ (115 : Int); unfold okb at hbb; omega)) (by show (0 : Int) ≤ _ ∧ _ ≤ (23 : Int); have := wf5 W 0; omega)) (by show (0 : Int) ≤ _ ∧ _ ≤ (23 : Int); have := wf5 W 0; omega)) (by decide)) (gl_0 c_118) rfl (by rw [gl_0 c_118]; rfl) (by rw [gl_0 c_118]; exact SQ_c (SQ_c (SQ_c (SQ_c (SQ_c SU)))))
    · refine Z_iconst (M := mX8_begin) dX8_begin_121 ?_
      refine M_iret (M := mX8_begin) dX8_begin_122 rfl ?_
      exact ansQ_n (by assumption) (gl_n (by assumption)) rfl ts0 (SQ_l (by decide) SU)
  
  refine J_iload (M := mX8_begin) dX8_begin_68 rfl ?_
  first
    | refine Z_pf (M := mX8_begin) (tgt := 106) dX8_begin_70 (by decide) (fun c_70 => ?_) (fun c_70 => ?_)
    | refine Z_if_eq (M := mX8_begin) (tgt := 106) (by first | assumption | exact pI_rg _ | (unfold rg; omega)) dX8_begin_70 (by decide) (fun c_70 => ?_) (fun c_70 => ?_)
  · refine Z_iconst (M := mX8_begin) dX8_begin_106 ?_
    exact hj107 _ _ (by first | exact Or.inl rfl | exact Or.inr rfl) (pI_f (by omega)).symm
  · refine J_aload_n (M := mX8_begin) dX8_begin_73 rfl rfl ?_
    refine J_iload_n (M := mX8_begin) dX8_begin_74 rfl rfl ?_
    have hb1 := hbb (by omega)
    refine M_call (M := mX8_begin) (as := [_]) dX8_begin_75 ca_X8_155 ⟨by decide, by decide⟩ rfl (Nat.le_of_ble_eq_true rfl) rfl rfl (c_winnerOf W hb1) (fun v_75 t_75 hv_75 => ?_)
    obtain ⟨rfl, e_75⟩ := hv_75
    rw [e_75]
    have W2 := WF_wt W b
    refine Z_iconst (M := mX8_begin) dX8_begin_78 ?_
    refine Z_ic_ne (M := mX8_begin) (tgt := 106) (by first | assumption | exact pI_rg _ | (unfold rg; omega)) (by first | assumption | exact pI_rg _ | (unfold rg; omega)) dX8_begin_79 (by decide) (fun c_79 => ?_) (fun c_79 => ?_)
    · refine Z_iconst (M := mX8_begin) dX8_begin_106 ?_
      exact hj107 _ _ (by first | exact Or.inl rfl | exact Or.inr rfl) (pI_f (by omega)).symm
    · refine J_aload_n (M := mX8_begin) dX8_begin_82 rfl rfl ?_
      refine J_iload_n (M := mX8_begin) dX8_begin_83 rfl rfl ?_
      refine Z_iconst (M := mX8_begin) dX8_begin_84 ?_
      refine J_iload_n (M := mX8_begin) dX8_begin_85 rfl rfl ?_
      refine M_call (M := mX8_begin) (as := [_, _, _]) dX8_begin_86 ca_X8_158 ⟨by decide, by decide⟩ rfl (Nat.le_of_ble_eq_true rfl) rfl rfl (c_isFit W2 hb1 (by omega) (by omega) (by omega)) (fun v_86 t_86 hv_86 => ?_)
      obtain ⟨rfl, e_86⟩ := hv_86
      rw [e_86]
      rw [fa_wt, wt_ns 3 (Or.inl (by decide)), wt_ns 2 (Or.inl (by decide))]
      first
        | refine Z_pf (M := mX8_begin) (tgt := 106) dX8_begin_89 (by decide) (fun c_89 => ?_) (fun c_89 => ?_)
        | refine Z_if_eq (M := mX8_begin) (tgt := 106) (by first | assumption | exact pI_rg _ | (unfold rg; omega)) dX8_begin_89 (by decide) (fun c_89 => ?_) (fun c_89 => ?_)
      · refine Z_iconst (M := mX8_begin) dX8_begin_106 ?_
        exact hj107 _ _ (by first | exact Or.inl rfl | exact Or.inr rfl) (pI_f (by omega)).symm
      · refine J_aload_n (M := mX8_begin) dX8_begin_92 rfl rfl ?_
        refine J_iload_n (M := mX8_begin) dX8_begin_93 rfl rfl ?_
        refine Z_iconst (M := mX8_begin) dX8_begin_94 ?_
        refine J_iload_n (M := mX8_begin) dX8_begin_95 rfl rfl ?_
        refine M_call (M := mX8_begin) (as := [_, _, _]) dX8_begin_96 ca_X8_158 ⟨by decide, by decide⟩ rfl (Nat.le_of_ble_eq_true rfl) rfl rfl (c_isFit W2 hb1 (by omega) (by omega) (by omega)) (fun v_96 t_96 hv_96 => ?_)
        obtain ⟨rfl, e_96⟩ := hv_96
        rw [e_96]
        rw [fa_wt, wt_ns 3 (Or.inl (by decide)), wt_ns 2 (Or.inl (by decide))]
        first
          | refine Z_pf (M := mX8_begin) (tgt := 106) dX8_begin_99 (by decide) (fun c_99 => ?_) (fun c_99 => ?_)
          | refine Z_if_eq (M := mX8_begin) (tgt := 106) (by first | assumption | exact pI_rg _ | (unfold rg; omega)) dX8_begin_99 (by decide) (fun c_99 => ?_) (fun c_99 => ?_)
        · refine Z_iconst (M := mX8_begin) dX8_begin_106 ?_
          exact hj107 _ _ (by first | exact Or.inl rfl | exact Or.inr rfl) (pI_f (by omega)).symm
        · refine Z_iconst (M := mX8_begin) dX8_begin_102 ?_
          refine J_goto (M := mX8_begin) (tgt := 107) dX8_begin_103 (by decide) ?_
          exact hj107 _ _ (by first | exact Or.inl rfl | exact Or.inr rfl) (pI_t (by omega)).symm

set_option maxRecDepth 100000 in
set_option maxHeartbeats 4000000 in
theorem c_allez {X : GX} {h : LH} {τ : TS} (W : WF τ) (hq : ¬ τ 17 0 = -1 → okb (τ 17 0)) (hp : ¬ τ 17 0 = -1 → wo τ (τ 17 0) = -1 → okp τ) : CM X mX8_allez [] h τ (ansQ τ (gl (pI ((¬ τ 17 0 = -1 ∧ τ 19 0 = 0 ∧ τ 3 (τ 18 0) = 1 ∧ τ 3 (τ 18 1) = 1) ∧ wo τ (τ 17 0) = -1)) 1 1) (τ 10 (slo (τ 17 0))) (ts (ts (ts (ts (ts (ts (ts τ 33 0 0) 12 (la τ) 0) 13 (2 * (la τ)) (τ 18 0)) 13 (2 * (la τ) + 1) (τ 18 1)) 14 (la τ) (-2)) 19 0 1) 20 0 0)) := by
  have b17 := wf17 W 0
  have b19 := wf19 W 0
  have b18 := wf18 W 0
  have b18' := wf18 W 1
  have bwo := wo_rg W (τ 17 0)
  have b3 := wf3 W (τ 18 0)
  have b3' := wf3 W (τ 18 1)
  refine CM_of (by decide +kernel) rfl (Nat.le_of_ble_eq_true rfl) ?_
  refine Z_bj (M := mX8_allez) (pcB := 50) ((¬ τ 17 0 = -1 ∧ τ 19 0 = 0 ∧ τ 3 (τ 18 0) = 1 ∧ τ 3 (τ 18 1) = 1)) (fun hj_50 => ?_) ?_
  · refine J_aload_n (M := mX8_allez) dX8_allez_0 rfl rfl ?_
    refine M_get (M := mX8_allez) dX8_allez_1 fi_X8_47 rfl ?_
    refine Z_eq (M := mX8_allez) (b := τ 17 0) rfl ?_
    refine Z_iconst (M := mX8_allez) dX8_allez_4 ?_
    refine Z_ic_eq (M := mX8_allez) (tgt := 49) (by first | assumption | exact pI_rg _ | (unfold rg; omega)) (by first | assumption | exact pI_rg _ | (unfold rg; omega)) dX8_allez_5 (by decide) (fun c_5 => ?_) (fun c_5 => ?_)
    · refine Z_iconst (M := mX8_allez) dX8_allez_49 ?_
      exact hj_50 _ (pI_f (by omega)).symm
    · refine J_aload_n (M := mX8_allez) dX8_allez_8 rfl rfl ?_
      refine M_get (M := mX8_allez) dX8_allez_9 fi_X8_112 rfl ?_
      refine Z_eq (M := mX8_allez) (b := τ 19 0) rfl ?_
      first
        | refine Z_pt (M := mX8_allez) (tgt := 49) dX8_allez_12 (by decide) (fun c_12 => ?_) (fun c_12 => ?_)
        | refine Z_if_ne (M := mX8_allez) (tgt := 49) (by first | assumption | exact pI_rg _ | (unfold rg; omega)) dX8_allez_12 (by decide) (fun c_12 => ?_) (fun c_12 => ?_)
      · refine Z_iconst (M := mX8_allez) dX8_allez_49 ?_
        exact hj_50 _ (pI_f (by omega)).symm
      · refine J_aload_n (M := mX8_allez) dX8_allez_15 rfl rfl ?_
        refine M_get (M := mX8_allez) (v := vR (some (43, 0))) dX8_allez_16 fi_X8_13 rfl ?_
        refine J_aload_n (M := mX8_allez) dX8_allez_19 rfl rfl ?_
        refine M_get (M := mX8_allez) (v := vR (some (58, 0))) dX8_allez_20 fi_X8_51 rfl ?_
        refine Z_iconst (M := mX8_allez) dX8_allez_23 ?_
        refine M_iald (M := mX8_allez) (kf := 18) (N := 2) dX8_allez_24 rfl (by decide) (by omega) (by omega) ?_
        refine Z_eq (M := mX8_allez) (b := τ 18 _) rfl ?_
        refine M_iald (M := mX8_allez) (kf := 3) (N := 24) dX8_allez_25 rfl (by decide) (by omega) (by omega) ?_
        refine Z_eq (M := mX8_allez) (b := τ 3 _) rfl ?_
        refine Z_iconst (M := mX8_allez) dX8_allez_26 ?_
        refine Z_ic_ne (M := mX8_allez) (tgt := 49) (by first | assumption | exact pI_rg _ | (unfold rg; omega)) (by first | assumption | exact pI_rg _ | (unfold rg; omega)) dX8_allez_27 (by decide) (fun c_27 => ?_) (fun c_27 => ?_)
        · refine Z_iconst (M := mX8_allez) dX8_allez_49 ?_
          exact hj_50 _ (pI_f (by omega)).symm
        · refine J_aload_n (M := mX8_allez) dX8_allez_30 rfl rfl ?_
          refine M_get (M := mX8_allez) (v := vR (some (43, 0))) dX8_allez_31 fi_X8_13 rfl ?_
          refine J_aload_n (M := mX8_allez) dX8_allez_34 rfl rfl ?_
          refine M_get (M := mX8_allez) (v := vR (some (58, 0))) dX8_allez_35 fi_X8_51 rfl ?_
          refine Z_iconst (M := mX8_allez) dX8_allez_38 ?_
          refine M_iald (M := mX8_allez) (kf := 18) (N := 2) dX8_allez_39 rfl (by decide) (by omega) (by omega) ?_
          refine Z_eq (M := mX8_allez) (b := τ 18 _) rfl ?_
          refine M_iald (M := mX8_allez) (kf := 3) (N := 24) dX8_allez_40 rfl (by decide) (by omega) (by omega) ?_
          refine Z_eq (M := mX8_allez) (b := τ 3 _) rfl ?_
          refine Z_iconst (M := mX8_allez) dX8_allez_41 ?_
          refine Z_ic_ne (M := mX8_allez) (tgt := 49) (by first | assumption | exact pI_rg _ | (unfold rg; omega)) (by first | assumption | exact pI_rg _ | (unfold rg; omega)) dX8_allez_42 (by decide) (fun c_42 => ?_) (fun c_42 => ?_)
          · refine Z_iconst (M := mX8_allez) dX8_allez_49 ?_
            exact hj_50 _ (pI_f (by omega)).symm
          · refine Z_iconst (M := mX8_allez) dX8_allez_45 ?_
            refine J_goto (M := mX8_allez) (tgt := 50) dX8_allez_46 (by decide) ?_
            exact hj_50 _ (pI_t (by omega)).symm
  refine J_istore_n (M := mX8_allez) dX8_allez_50 rfl (by decide) ?_
  have hj73 : ∀ (u : TS) (x : Int), (u = τ ∨ u = wt τ (τ 17 0)) → x = pI ((¬ τ 17 0 = -1 ∧ τ 19 0 = 0 ∧ τ 3 (τ 18 0) = 1 ∧ τ 3 (τ 18 1) = 1) ∧ wo τ (τ 17 0) = -1) → J X mX8_allez 73 [some (vR (some (20, 0))), some (vI (iI (pI (¬ τ 17 0 = -1 ∧ τ 19 0 = 0 ∧ τ 3 (τ 18 0) = 1 ∧ τ 3 (τ 18 1) = 1)))), none, none] [vI (iI x), vR (some (20, 0))] (hm h u) (mR mX8_allez).cells (mR mX8_allez).slots (QM h (ansQ τ (gl (pI ((¬ τ 17 0 = -1 ∧ τ 19 0 = 0 ∧ τ 3 (τ 18 0) = 1 ∧ τ 3 (τ 18 1) = 1) ∧ wo τ (τ 17 0) = -1)) 1 1) (τ 10 (slo (τ 17 0))) (ts (ts (ts (ts (ts (ts (ts τ 33 0 0) 12 (la τ) 0) 13 (2 * (la τ)) (τ 18 0)) 13 (2 * (la τ) + 1) (τ 18 1)) 14 (la τ) (-2)) 19 0 1) 20 0 0))) := by
    intro u x hu hx
    subst hx
    have Wu : WF u := hu.elim (fun e => e ▸ W) (fun e => e ▸ WF_wt W (τ 17 0))
    have SU : SQ u τ := hu.elim (fun e => e ▸ SQ_rfl) (fun e => e ▸ SQ_wt)
    refine Z_iconst (M := mX8_allez) dX8_allez_73 ?_
    refine Z_iconst (M := mX8_allez) dX8_allez_74 ?_
    refine M_call (M := mX8_allez) (as := [_, _, _]) dX8_allez_75 ca_X8_101 ⟨by decide, by decide⟩ rfl (Nat.le_of_ble_eq_true rfl) rfl rfl (c_goes (by first | assumption | exact pI_rg _ | (unfold rg; omega)) (by first | assumption | exact pI_rg _ | (unfold rg; omega)) (by first | assumption | exact pI_rg _ | (unfold rg; omega))) (fun v_75 t_75 hv_75 => ?_)
    obtain ⟨rfl, e_75⟩ := hv_75
    rw [e_75]
    have W1 : WF (ts u 33 0 (gl (pI ((¬ τ 17 0 = -1 ∧ τ 19 0 = 0 ∧ τ 3 (τ 18 0) = 1 ∧ τ 3 (τ 18 1) = 1) ∧ wo τ (τ 17 0) = -1)) 1 1)) := WF_ts Wu gl_rg
    first
      | refine Z_pt (M := mX8_allez) (tgt := 83) dX8_allez_78 (by decide) (fun c_78 => ?_) (fun c_78 => ?_)
      | refine Z_if_ne (M := mX8_allez) (tgt := 83) (by first | assumption | exact pI_rg _ | (unfold rg; omega)) dX8_allez_78 (by decide) (fun c_78 => ?_) (fun c_78 => ?_)
    · have hc := c_78
      simp only [pI_n0] at hc
      have hop := hp hc.1.1.1 hc.1.2
      have hsl := slo_rg hop.1
      have hla := la_rg W hop
      have hen := hop.2
      have b10 := wf10 W (slo (τ 17 0))
      have b18 := wf18 W 0
      have b18' := wf18 W 1
      rw [gl_0 c_78] at W1
      rw [gl_0 c_78]
      refine J_aload_n (M := mX8_allez) dX8_allez_83 rfl rfl ?_
      refine M_get (M := mX8_allez) dX8_allez_84 fi_X8_47 rfl ?_
      refine Z_eq (M := mX8_allez) (b := τ 17 0) (congrFun (SU 17 (Or.inl (by decide))) _) ?_
      refine M_callS (M := mX8_allez) (as := [_]) dX8_allez_87 ca_X8_164 ⟨by decide, by decide⟩ rfl (Nat.le_of_ble_eq_true rfl) rfl rfl (c_slotOf (by first | assumption | exact pI_rg _ | (unfold rg; omega))) ?_
      refine J_istore_n (M := mX8_allez) dX8_allez_90 rfl (by decide) ?_
      refine Z_bipush (M := mX8_allez) dX8_allez_91 rfl ?_
      refine J_iload_n (M := mX8_allez) dX8_allez_93 rfl rfl ?_
      refine Z_imul (M := mX8_allez) dX8_allez_94 ?_
      refine J_aload_n (M := mX8_allez) dX8_allez_95 rfl rfl ?_
      refine M_get (M := mX8_allez) (v := vR (some (50, 0))) dX8_allez_96 fi_X8_26 rfl ?_
      refine J_iload_n (M := mX8_allez) dX8_allez_99 rfl rfl ?_
      refine M_iald (M := mX8_allez) (kf := 10) (N := 82) dX8_allez_100 rfl (by decide) (by omega) (by omega) ?_
      refine Z_eq (M := mX8_allez) (b := τ 10 (slo (τ 17 0))) (congrFun (SU 10 (Or.inl (by decide))) _) ?_
      refine Z_iadd (M := mX8_allez) dX8_allez_101 ?_
      refine Z_eq (M := mX8_allez) (b := la τ) rfl ?_
      refine J_istore_n (M := mX8_allez) dX8_allez_102 rfl (by decide) ?_
      refine J_aload_n (M := mX8_allez) dX8_allez_103 rfl rfl ?_
      refine M_get (M := mX8_allez) (v := vR (some (52, 0))) dX8_allez_104 fi_X8_32 rfl ?_
      refine J_iload_n (M := mX8_allez) dX8_allez_107 rfl rfl ?_
      refine Z_iconst (M := mX8_allez) dX8_allez_108 ?_
      refine M_iast (M := mX8_allez) (kf := 12) (N := 984) dX8_allez_109 rfl rfl rfl rfl (by decide) (by decide) (by omega) (by omega) ?_
      refine J_aload_n (M := mX8_allez) dX8_allez_110 rfl rfl ?_
      refine M_get (M := mX8_allez) (v := vR (some (53, 0))) dX8_allez_111 fi_X8_35 rfl ?_
      refine Z_iconst (M := mX8_allez) dX8_allez_114 ?_
      refine J_iload_n (M := mX8_allez) dX8_allez_115 rfl rfl ?_
      refine Z_imul (M := mX8_allez) dX8_allez_116 ?_
      refine J_aload_n (M := mX8_allez) dX8_allez_117 rfl rfl ?_
      refine M_get (M := mX8_allez) (v := vR (some (58, 0))) dX8_allez_118 fi_X8_51 rfl ?_
      refine Z_iconst (M := mX8_allez) dX8_allez_121 ?_
      refine M_iald (M := mX8_allez) (kf := 18) (N := 2) dX8_allez_122 rfl (by decide) (by omega) (by omega) ?_
      refine Z_eq (M := mX8_allez) (b := τ 18 0) (congrFun (SU 18 (Or.inl (by decide))) _) ?_
      refine M_iast (M := mX8_allez) (kf := 13) (N := 1968) dX8_allez_123 rfl rfl rfl rfl (by decide) (by decide) (by omega) (by omega) ?_
      refine J_aload_n (M := mX8_allez) dX8_allez_124 rfl rfl ?_
      refine M_get (M := mX8_allez) (v := vR (some (53, 0))) dX8_allez_125 fi_X8_35 rfl ?_
      refine Z_iconst (M := mX8_allez) dX8_allez_128 ?_
      refine J_iload_n (M := mX8_allez) dX8_allez_129 rfl rfl ?_
      refine Z_imul (M := mX8_allez) dX8_allez_130 ?_
      refine Z_iconst (M := mX8_allez) dX8_allez_131 ?_
      refine Z_iadd (M := mX8_allez) dX8_allez_132 ?_
      refine J_aload_n (M := mX8_allez) dX8_allez_133 rfl rfl ?_
      refine M_get (M := mX8_allez) (v := vR (some (58, 0))) dX8_allez_134 fi_X8_51 rfl ?_
      refine Z_iconst (M := mX8_allez) dX8_allez_137 ?_
      refine M_iald (M := mX8_allez) (kf := 18) (N := 2) dX8_allez_138 rfl (by decide) (by omega) (by omega) ?_
      refine Z_eq (M := mX8_allez) (b := τ 18 1) (congrFun (SU 18 (Or.inl (by decide))) _) ?_
      refine M_iast (M := mX8_allez) (kf := 13) (N := 1968) dX8_allez_139 rfl rfl rfl rfl (by decide) (by decide) (by omega) (by omega) ?_
      refine J_aload_n (M := mX8_allez) dX8_allez_140 rfl rfl ?_
      refine M_get (M := mX8_allez) (v := vR (some (54, 0))) dX8_allez_141 fi_X8_38 rfl ?_
      refine J_iload_n (M := mX8_allez) dX8_allez_144 rfl rfl ?_
      refine Z_bipush (M := mX8_allez) dX8_allez_145 rfl ?_
      refine M_iast (M := mX8_allez) (kf := 14) (N := 984) dX8_allez_147 rfl rfl rfl rfl (by decide) (by decide) (by omega) (by omega) ?_
      refine J_aload_n (M := mX8_allez) dX8_allez_148 rfl rfl ?_
      refine Z_iconst (M := mX8_allez) dX8_allez_149 ?_
      refine M_putz (M := mX8_allez) dX8_allez_150 fi_X8_112 (by first | exact pI_01 _ | exact Or.inl rfl | exact Or.inr rfl | omega) rfl (by decide) rfl ?_
      refine J_aload_n (M := mX8_allez) dX8_allez_153 rfl rfl ?_
      refine Z_iconst (M := mX8_allez) dX8_allez_154 ?_
      refine M_putz (M := mX8_allez) dX8_allez_155 fi_X8_161 (by first | exact pI_01 _ | exact Or.inl rfl | exact Or.inr rfl | omega) rfl (by decide) rfl ?_
      refine J_aload_n (M := mX8_allez) dX8_allez_158 rfl rfl ?_
      refine M_get (M := mX8_allez) (v := vR (some (50, 0))) dX8_allez_159 fi_X8_26 rfl ?_
      refine J_iload_n (M := mX8_allez) dX8_allez_162 rfl rfl ?_
      refine M_iald (M := mX8_allez) (kf := 10) (N := 82) dX8_allez_163 rfl (by decide) (by omega) (by omega) ?_
      refine Z_eq (M := mX8_allez) (b := τ 10 (slo (τ 17 0))) (congrFun (SU 10 (Or.inl (by decide))) _) ?_
      refine M_iret (M := mX8_allez) dX8_allez_164 rfl ?_
      exact ansQ_y (WF_ts (WF_ts (WF_ts (WF_ts (WF_ts (WF_ts W1 (by decide)) (by show (0 : Int) ≤ _ ∧ _ ≤ (23 : Int); omega)) (by show (0 : Int) ≤ _ ∧ _ ≤ (23 : Int); omega)) (by decide)) (by decide)) (by decide)) rfl rfl rfl (SQ_c (SQ_c (SQ_c (SQ_c (SQ_c (SQ_c (SQ_c SU)))))))
    · refine Z_iconst (M := mX8_allez) dX8_allez_81 ?_
      refine M_iret (M := mX8_allez) dX8_allez_82 rfl ?_
      exact ansQ_n (by assumption) (gl_n (by assumption)) rfl ts0 (SQ_l (by decide) SU)
  
  refine J_aload_n (M := mX8_allez) dX8_allez_51 rfl rfl ?_
  refine J_iload_n (M := mX8_allez) dX8_allez_52 rfl rfl ?_
  first
    | refine Z_pf (M := mX8_allez) (tgt := 72) dX8_allez_53 (by decide) (fun c_53 => ?_) (fun c_53 => ?_)
    | refine Z_if_eq (M := mX8_allez) (tgt := 72) (by first | assumption | exact pI_rg _ | (unfold rg; omega)) dX8_allez_53 (by decide) (fun c_53 => ?_) (fun c_53 => ?_)
  · refine Z_iconst (M := mX8_allez) dX8_allez_72 ?_
    exact hj73 _ _ (by first | exact Or.inl rfl | exact Or.inr rfl) (pI_f (by omega)).symm
  · refine J_aload_n (M := mX8_allez) dX8_allez_56 rfl rfl ?_
    refine J_aload_n (M := mX8_allez) dX8_allez_57 rfl rfl ?_
    refine M_get (M := mX8_allez) dX8_allez_58 fi_X8_47 rfl ?_
    refine Z_eq (M := mX8_allez) (b := τ 17 0) rfl ?_
    have hb1 := hq (by omega)
    refine M_call (M := mX8_allez) (as := [_]) dX8_allez_61 ca_X8_155 ⟨by decide, by decide⟩ rfl (Nat.le_of_ble_eq_true rfl) rfl rfl (c_winnerOf W hb1) (fun v_61 t_61 hv_61 => ?_)
    obtain ⟨rfl, e_61⟩ := hv_61
    rw [e_61]
    refine Z_iconst (M := mX8_allez) dX8_allez_64 ?_
    refine Z_ic_ne (M := mX8_allez) (tgt := 72) (by first | assumption | exact pI_rg _ | (unfold rg; omega)) (by first | assumption | exact pI_rg _ | (unfold rg; omega)) dX8_allez_65 (by decide) (fun c_65 => ?_) (fun c_65 => ?_)
    · refine Z_iconst (M := mX8_allez) dX8_allez_72 ?_
      exact hj73 _ _ (by first | exact Or.inl rfl | exact Or.inr rfl) (pI_f (by omega)).symm
    · refine Z_iconst (M := mX8_allez) dX8_allez_68 ?_
      refine J_goto (M := mX8_allez) (tgt := 73) dX8_allez_69 (by decide) ?_
      exact hj73 _ _ (by first | exact Or.inl rfl | exact Or.inr rfl) (pI_t (by omega)).symm

set_option maxRecDepth 100000 in
set_option maxHeartbeats 4000000 in
theorem c_change {X : GX} {h : LH} {τ : TS} (W : WF τ) {s w : Int} (hs : rg s) (hw : rg w) (hq : ¬ τ 17 0 = -1 → okb (τ 17 0)) : CM X mX8_change [vI (iI s), vI (iI w)] h τ (ans τ (gl (pI ((0 ≤ s ∧ s ≤ 1) ∧ 0 ≤ w ∧ w ≤ τ 5 0 - 1)) (pI (((0 ≤ s ∧ s ≤ 1) ∧ 0 ≤ w ∧ w ≤ τ 5 0 - 1) ∧ ¬ τ 17 0 = -1 ∧ τ 19 0 = 0 ∧ τ 3 w = 1 ∧ fa τ (τ 17 0) s = τ 2 w)) 1) (τ 18 s) (ts (ts τ 33 0 0) 18 s w)) := by
  have b5 := wf5 W 0
  have b17 := wf17 W 0
  have b19 := wf19 W 0
  refine CM_of (by decide +kernel) rfl (Nat.le_of_ble_eq_true rfl) ?_
  refine Z_bj (M := mX8_change) (pcB := 20) (((0 ≤ s ∧ s ≤ 1) ∧ 0 ≤ w ∧ w ≤ τ 5 0 - 1)) (fun hj_20 => ?_) ?_
  · refine J_iload_n (M := mX8_change) dX8_change_0 rfl rfl ?_
    refine M_callS (M := mX8_change) (as := [_]) dX8_change_1 ca_X8_167 ⟨by decide, by decide⟩ rfl (Nat.le_of_ble_eq_true rfl) rfl rfl (c_isSide (by first | assumption | exact pI_rg _ | (unfold rg; omega))) ?_
    first
      | refine Z_pf (M := mX8_change) (tgt := 19) dX8_change_4 (by decide) (fun c_4 => ?_) (fun c_4 => ?_)
      | refine Z_if_eq (M := mX8_change) (tgt := 19) (by first | assumption | exact pI_rg _ | (unfold rg; omega)) dX8_change_4 (by decide) (fun c_4 => ?_) (fun c_4 => ?_)
    · refine Z_iconst (M := mX8_change) dX8_change_19 ?_
      exact hj_20 _ (pI_f (by omega)).symm
    · refine J_aload_n (M := mX8_change) dX8_change_7 rfl rfl ?_
      refine J_iload_n (M := mX8_change) dX8_change_8 rfl rfl ?_
      refine M_call (M := mX8_change) (as := [_]) dX8_change_9 ca_X8_109 ⟨by decide, by decide⟩ rfl (Nat.le_of_ble_eq_true rfl) rfl rfl (c_isWeapon W (by first | assumption | exact pI_rg _ | (unfold rg; omega))) (fun v_9 t_9 hv_9 => ?_)
      obtain ⟨rfl, e_9⟩ := hv_9
      rw [e_9]
      first
        | refine Z_pf (M := mX8_change) (tgt := 19) dX8_change_12 (by decide) (fun c_12 => ?_) (fun c_12 => ?_)
        | refine Z_if_eq (M := mX8_change) (tgt := 19) (by first | assumption | exact pI_rg _ | (unfold rg; omega)) dX8_change_12 (by decide) (fun c_12 => ?_) (fun c_12 => ?_)
      · refine Z_iconst (M := mX8_change) dX8_change_19 ?_
        exact hj_20 _ (pI_f (by omega)).symm
      · refine Z_iconst (M := mX8_change) dX8_change_15 ?_
        refine J_goto (M := mX8_change) (tgt := 20) dX8_change_16 (by decide) ?_
        exact hj_20 _ (pI_t (by omega)).symm
  refine J_istore_n (M := mX8_change) dX8_change_20 rfl (by decide) ?_
  refine J_aload_n (M := mX8_change) dX8_change_21 rfl rfl ?_
  refine J_iload_n (M := mX8_change) dX8_change_22 rfl rfl ?_
  refine Z_bj (M := mX8_change) (pcB := 60) ((((0 ≤ s ∧ s ≤ 1) ∧ 0 ≤ w ∧ w ≤ τ 5 0 - 1) ∧ ¬ τ 17 0 = -1 ∧ τ 19 0 = 0 ∧ τ 3 w = 1 ∧ fa τ (τ 17 0) s = τ 2 w)) (fun hj_60 => ?_) ?_
  · refine J_iload_n (M := mX8_change) dX8_change_23 rfl rfl ?_
    first
      | refine Z_pf (M := mX8_change) (tgt := 59) dX8_change_24 (by decide) (fun c_24 => ?_) (fun c_24 => ?_)
      | refine Z_if_eq (M := mX8_change) (tgt := 59) (by first | assumption | exact pI_rg _ | (unfold rg; omega)) dX8_change_24 (by decide) (fun c_24 => ?_) (fun c_24 => ?_)
    · refine Z_iconst (M := mX8_change) dX8_change_59 ?_
      exact hj_60 _ (pI_f (by omega)).symm
    · refine J_aload_n (M := mX8_change) dX8_change_27 rfl rfl ?_
      refine M_get (M := mX8_change) dX8_change_28 fi_X8_47 rfl ?_
      refine Z_eq (M := mX8_change) (b := τ 17 0) rfl ?_
      refine Z_iconst (M := mX8_change) dX8_change_31 ?_
      refine Z_ic_eq (M := mX8_change) (tgt := 59) (by first | assumption | exact pI_rg _ | (unfold rg; omega)) (by first | assumption | exact pI_rg _ | (unfold rg; omega)) dX8_change_32 (by decide) (fun c_32 => ?_) (fun c_32 => ?_)
      · refine Z_iconst (M := mX8_change) dX8_change_59 ?_
        exact hj_60 _ (pI_f (by omega)).symm
      · refine J_aload_n (M := mX8_change) dX8_change_35 rfl rfl ?_
        refine M_get (M := mX8_change) dX8_change_36 fi_X8_112 rfl ?_
        refine Z_eq (M := mX8_change) (b := τ 19 0) rfl ?_
        first
          | refine Z_pt (M := mX8_change) (tgt := 59) dX8_change_39 (by decide) (fun c_39 => ?_) (fun c_39 => ?_)
          | refine Z_if_ne (M := mX8_change) (tgt := 59) (by first | assumption | exact pI_rg _ | (unfold rg; omega)) dX8_change_39 (by decide) (fun c_39 => ?_) (fun c_39 => ?_)
        · refine Z_iconst (M := mX8_change) dX8_change_59 ?_
          exact hj_60 _ (pI_f (by omega)).symm
        · refine J_aload_n (M := mX8_change) dX8_change_42 rfl rfl ?_
          refine J_aload_n (M := mX8_change) dX8_change_43 rfl rfl ?_
          refine M_get (M := mX8_change) dX8_change_44 fi_X8_47 rfl ?_
          refine Z_eq (M := mX8_change) (b := τ 17 0) rfl ?_
          refine J_iload_n (M := mX8_change) dX8_change_47 rfl rfl ?_
          refine J_iload_n (M := mX8_change) dX8_change_48 rfl rfl ?_
          have hb1 := hq (by omega)
          refine M_call (M := mX8_change) (as := [_, _, _]) dX8_change_49 ca_X8_158 ⟨by decide, by decide⟩ rfl (Nat.le_of_ble_eq_true rfl) rfl rfl (c_isFit W hb1 (by omega) (by omega) (by omega)) (fun v_49 t_49 hv_49 => ?_)
          obtain ⟨rfl, e_49⟩ := hv_49
          rw [e_49]
          first
            | refine Z_pf (M := mX8_change) (tgt := 59) dX8_change_52 (by decide) (fun c_52 => ?_) (fun c_52 => ?_)
            | refine Z_if_eq (M := mX8_change) (tgt := 59) (by first | assumption | exact pI_rg _ | (unfold rg; omega)) dX8_change_52 (by decide) (fun c_52 => ?_) (fun c_52 => ?_)
          · refine Z_iconst (M := mX8_change) dX8_change_59 ?_
            exact hj_60 _ (pI_f (by omega)).symm
          · refine Z_iconst (M := mX8_change) dX8_change_55 ?_
            refine J_goto (M := mX8_change) (tgt := 60) dX8_change_56 (by decide) ?_
            exact hj_60 _ (pI_t (by omega)).symm
  refine Z_iconst (M := mX8_change) dX8_change_60 ?_
  refine M_call (M := mX8_change) (as := [_, _, _]) dX8_change_61 ca_X8_101 ⟨by decide, by decide⟩ rfl (Nat.le_of_ble_eq_true rfl) rfl rfl (c_goes (by first | assumption | exact pI_rg _ | (unfold rg; omega)) (by first | assumption | exact pI_rg _ | (unfold rg; omega)) (by first | assumption | exact pI_rg _ | (unfold rg; omega))) (fun v_61 t_61 hv_61 => ?_)
  obtain ⟨rfl, e_61⟩ := hv_61
  rw [e_61]
  have W1 : WF (ts τ 33 0 (gl (pI ((0 ≤ s ∧ s ≤ 1) ∧ 0 ≤ w ∧ w ≤ τ 5 0 - 1)) (pI (((0 ≤ s ∧ s ≤ 1) ∧ 0 ≤ w ∧ w ≤ τ 5 0 - 1) ∧ ¬ τ 17 0 = -1 ∧ τ 19 0 = 0 ∧ τ 3 w = 1 ∧ fa τ (τ 17 0) s = τ 2 w)) 1)) := WF_ts W gl_rg
  first
    | refine Z_pt (M := mX8_change) (tgt := 69) dX8_change_64 (by decide) (fun c_64 => ?_) (fun c_64 => ?_)
    | refine Z_if_ne (M := mX8_change) (tgt := 69) (by first | assumption | exact pI_rg _ | (unfold rg; omega)) dX8_change_64 (by decide) (fun c_64 => ?_) (fun c_64 => ?_)
  · have hc := c_64
    simp only [pI_n0] at hc
    refine J_aload_n (M := mX8_change) dX8_change_69 rfl rfl ?_
    refine M_get (M := mX8_change) (v := vR (some (58, 0))) dX8_change_70 fi_X8_51 rfl ?_
    refine J_iload_n (M := mX8_change) dX8_change_73 rfl rfl ?_
    refine M_iald (M := mX8_change) (kf := 18) (N := 2) dX8_change_74 rfl (by decide) (by omega) (by omega) ?_
    refine Z_eq (M := mX8_change) (b := τ 18 _) rfl ?_
    refine J_istore (M := mX8_change) dX8_change_75 (by decide) ?_
    refine J_aload_n (M := mX8_change) dX8_change_77 rfl rfl ?_
    refine M_get (M := mX8_change) (v := vR (some (58, 0))) dX8_change_78 fi_X8_51 rfl ?_
    refine J_iload_n (M := mX8_change) dX8_change_81 rfl rfl ?_
    refine J_iload_n (M := mX8_change) dX8_change_82 rfl rfl ?_
    refine M_iast (M := mX8_change) (kf := 18) (N := 2) dX8_change_83 rfl rfl rfl rfl (by decide) (by decide) (by omega) (by omega) ?_
    refine J_iload (M := mX8_change) dX8_change_84 rfl ?_
    refine M_iret (M := mX8_change) dX8_change_86 rfl ?_
    exact Or.inr (And.intro (gl_0 c_64) (And.intro rfl (by rw [gl_0 c_64])))
  · refine Z_iconst (M := mX8_change) dX8_change_67 ?_
    refine M_iret (M := mX8_change) dX8_change_68 rfl ?_
    exact Or.inl (And.intro (gl_n (by assumption)) (And.intro rfl rfl))

set_option maxRecDepth 100000 in
set_option maxHeartbeats 4000000 in
theorem c_appeal {X : GX} {h : LH} {τ : TS} (W : WF τ) {s d : Int} (hs : rg s) (hd : rg d) (hq : ¬ τ 17 0 = -1 → okb (τ 17 0)) (hf : ¬ τ 17 0 = -1 → τ 19 0 = 0 → ¬ τ 20 0 = 0 → 1 ≤ τ 10 (slo (τ 17 0))) : CM X mX8_appeal [vI (iI s), vI (iI d)] h τ (ans τ (gl (pI (0 ≤ s ∧ s ≤ 1)) (pI (-1 ≤ d ∧ d ≤ 1)) (pI ((((¬ τ 17 0 = -1 ∧ τ 19 0 = 0) ∧ ¬ τ 20 0 = 0) ∧ 0 ≤ s ∧ s ≤ 1) ∧ τ 11 (2 * slo (τ 17 0) + s) < 2))) (tch (ts (ts τ 33 0 0) 14 (12 * slo (τ 17 0) + (τ 10 (slo (τ 17 0)) - 1)) d) (slo (τ 17 0)) (τ 10 (slo (τ 17 0)) - 1)) (fol (ts (ts (ts τ 33 0 0) 14 (12 * slo (τ 17 0) + (τ 10 (slo (τ 17 0)) - 1)) d) 11 (2 * slo (τ 17 0) + s) (τ 11 (2 * slo (τ 17 0) + s) + pI (tch (ts (ts τ 33 0 0) 14 (12 * slo (τ 17 0) + (τ 10 (slo (τ 17 0)) - 1)) d) (slo (τ 17 0)) (τ 10 (slo (τ 17 0)) - 1) = tch (ts τ 33 0 0) (slo (τ 17 0)) (τ 10 (slo (τ 17 0)) - 1)))))) := by
  have b17 := wf17 W 0
  have b19 := wf19 W 0
  have b20 := wf20 W 0
  refine CM_of (by decide +kernel) rfl (Nat.le_of_ble_eq_true rfl) ?_
  refine Z_bj (M := mX8_appeal) (pcB := 34) ((((¬ τ 17 0 = -1 ∧ τ 19 0 = 0) ∧ ¬ τ 20 0 = 0) ∧ 0 ≤ s ∧ s ≤ 1)) (fun hj_34 => ?_) ?_
  · refine J_aload_n (M := mX8_appeal) dX8_appeal_0 rfl rfl ?_
    refine M_get (M := mX8_appeal) dX8_appeal_1 fi_X8_47 rfl ?_
    refine Z_eq (M := mX8_appeal) (b := τ 17 0) rfl ?_
    refine Z_iconst (M := mX8_appeal) dX8_appeal_4 ?_
    refine Z_ic_eq (M := mX8_appeal) (tgt := 33) (by first | assumption | exact pI_rg _ | (unfold rg; omega)) (by first | assumption | exact pI_rg _ | (unfold rg; omega)) dX8_appeal_5 (by decide) (fun c_5 => ?_) (fun c_5 => ?_)
    · refine Z_iconst (M := mX8_appeal) dX8_appeal_33 ?_
      exact hj_34 _ (pI_f (by omega)).symm
    · refine J_aload_n (M := mX8_appeal) dX8_appeal_8 rfl rfl ?_
      refine M_get (M := mX8_appeal) dX8_appeal_9 fi_X8_112 rfl ?_
      refine Z_eq (M := mX8_appeal) (b := τ 19 0) rfl ?_
      first
        | refine Z_pt (M := mX8_appeal) (tgt := 33) dX8_appeal_12 (by decide) (fun c_12 => ?_) (fun c_12 => ?_)
        | refine Z_if_ne (M := mX8_appeal) (tgt := 33) (by first | assumption | exact pI_rg _ | (unfold rg; omega)) dX8_appeal_12 (by decide) (fun c_12 => ?_) (fun c_12 => ?_)
      · refine Z_iconst (M := mX8_appeal) dX8_appeal_33 ?_
        exact hj_34 _ (pI_f (by omega)).symm
      · refine J_aload_n (M := mX8_appeal) dX8_appeal_15 rfl rfl ?_
        refine M_get (M := mX8_appeal) dX8_appeal_16 fi_X8_161 rfl ?_
        refine Z_eq (M := mX8_appeal) (b := τ 20 0) rfl ?_
        first
          | refine Z_pf (M := mX8_appeal) (tgt := 33) dX8_appeal_19 (by decide) (fun c_19 => ?_) (fun c_19 => ?_)
          | refine Z_if_eq (M := mX8_appeal) (tgt := 33) (by first | assumption | exact pI_rg _ | (unfold rg; omega)) dX8_appeal_19 (by decide) (fun c_19 => ?_) (fun c_19 => ?_)
        · refine Z_iconst (M := mX8_appeal) dX8_appeal_33 ?_
          exact hj_34 _ (pI_f (by omega)).symm
        · refine J_iload_n (M := mX8_appeal) dX8_appeal_22 rfl rfl ?_
          refine M_callS (M := mX8_appeal) (as := [_]) dX8_appeal_23 ca_X8_167 ⟨by decide, by decide⟩ rfl (Nat.le_of_ble_eq_true rfl) rfl rfl (c_isSide (by first | assumption | exact pI_rg _ | (unfold rg; omega))) ?_
          first
            | refine Z_pf (M := mX8_appeal) (tgt := 33) dX8_appeal_26 (by decide) (fun c_26 => ?_) (fun c_26 => ?_)
            | refine Z_if_eq (M := mX8_appeal) (tgt := 33) (by first | assumption | exact pI_rg _ | (unfold rg; omega)) dX8_appeal_26 (by decide) (fun c_26 => ?_) (fun c_26 => ?_)
          · refine Z_iconst (M := mX8_appeal) dX8_appeal_33 ?_
            exact hj_34 _ (pI_f (by omega)).symm
          · refine Z_iconst (M := mX8_appeal) dX8_appeal_29 ?_
            refine J_goto (M := mX8_appeal) (tgt := 34) dX8_appeal_30 (by decide) ?_
            exact hj_34 _ (pI_t (by omega)).symm
  refine J_istore_n (M := mX8_appeal) dX8_appeal_34 rfl (by decide) ?_
  refine Z_bj (M := mX8_appeal) (pcB := 64) (((((¬ τ 17 0 = -1 ∧ τ 19 0 = 0) ∧ ¬ τ 20 0 = 0) ∧ 0 ≤ s ∧ s ≤ 1) ∧ τ 11 (2 * slo (τ 17 0) + s) < 2)) (fun hj_64 => ?_) ?_
  · refine J_iload_n (M := mX8_appeal) dX8_appeal_35 rfl rfl ?_
    first
      | refine Z_pf (M := mX8_appeal) (tgt := 63) dX8_appeal_36 (by decide) (fun c_36 => ?_) (fun c_36 => ?_)
      | refine Z_if_eq (M := mX8_appeal) (tgt := 63) (by first | assumption | exact pI_rg _ | (unfold rg; omega)) dX8_appeal_36 (by decide) (fun c_36 => ?_) (fun c_36 => ?_)
    · refine Z_iconst (M := mX8_appeal) dX8_appeal_63 ?_
      exact hj_64 _ (pI_f (by omega)).symm
    · refine J_aload_n (M := mX8_appeal) dX8_appeal_39 rfl rfl ?_
      refine M_get (M := mX8_appeal) (v := vR (some (51, 0))) dX8_appeal_40 fi_X8_29 rfl ?_
      refine Z_iconst (M := mX8_appeal) dX8_appeal_43 ?_
      refine J_aload_n (M := mX8_appeal) dX8_appeal_44 rfl rfl ?_
      refine M_get (M := mX8_appeal) dX8_appeal_45 fi_X8_47 rfl ?_
      refine Z_eq (M := mX8_appeal) (b := τ 17 0) rfl ?_
      have hb1 := hq (by omega)
      have hsl := slo_rg hb1
      have b11 := wf11 W (2 * slo (τ 17 0) + s)
      
      refine M_callS (M := mX8_appeal) (as := [_]) dX8_appeal_48 ca_X8_164 ⟨by decide, by decide⟩ rfl (Nat.le_of_ble_eq_true rfl) rfl rfl (c_slotOf (by first | assumption | exact pI_rg _ | (unfold rg; omega))) ?_
      refine Z_imul (M := mX8_appeal) dX8_appeal_51 ?_
      refine J_iload_n (M := mX8_appeal) dX8_appeal_52 rfl rfl ?_
      refine Z_iadd (M := mX8_appeal) dX8_appeal_53 ?_
      refine M_iald (M := mX8_appeal) (kf := 11) (N := 164) dX8_appeal_54 rfl (by decide) (by omega) (by omega) ?_
      refine Z_eq (M := mX8_appeal) (b := τ 11 _) rfl ?_
      refine Z_iconst (M := mX8_appeal) dX8_appeal_55 ?_
      refine Z_ic_ge (M := mX8_appeal) (tgt := 63) (by first | assumption | exact pI_rg _ | (unfold rg; omega)) (by first | assumption | exact pI_rg _ | (unfold rg; omega)) dX8_appeal_56 (by decide) (fun c_56 => ?_) (fun c_56 => ?_)
      · refine Z_iconst (M := mX8_appeal) dX8_appeal_63 ?_
        exact hj_64 _ (pI_f (by omega)).symm
      · refine Z_iconst (M := mX8_appeal) dX8_appeal_59 ?_
        refine J_goto (M := mX8_appeal) (tgt := 64) dX8_appeal_60 (by decide) ?_
        exact hj_64 _ (pI_t (by omega)).symm
  refine J_istore_n (M := mX8_appeal) dX8_appeal_64 rfl (by decide) ?_
  refine J_aload_n (M := mX8_appeal) dX8_appeal_65 rfl rfl ?_
  refine J_iload_n (M := mX8_appeal) dX8_appeal_66 rfl rfl ?_
  refine M_callS (M := mX8_appeal) (as := [_]) dX8_appeal_67 ca_X8_167 ⟨by decide, by decide⟩ rfl (Nat.le_of_ble_eq_true rfl) rfl rfl (c_isSide (by first | assumption | exact pI_rg _ | (unfold rg; omega))) ?_
  refine J_iload_n (M := mX8_appeal) dX8_appeal_70 rfl rfl ?_
  refine Z_iconst (M := mX8_appeal) dX8_appeal_71 ?_
  refine Z_iconst (M := mX8_appeal) dX8_appeal_72 ?_
  refine M_callS (M := mX8_appeal) (as := [_, _, _]) dX8_appeal_73 ca_X8_85 ⟨by decide, by decide⟩ rfl (Nat.le_of_ble_eq_true rfl) rfl rfl (c_in (by first | assumption | exact pI_rg _ | (unfold rg; omega)) (by first | assumption | exact pI_rg _ | (unfold rg; omega)) (by first | assumption | exact pI_rg _ | (unfold rg; omega))) ?_
  refine J_iload_n (M := mX8_appeal) dX8_appeal_76 rfl rfl ?_
  refine M_call (M := mX8_appeal) (as := [_, _, _]) dX8_appeal_77 ca_X8_101 ⟨by decide, by decide⟩ rfl (Nat.le_of_ble_eq_true rfl) rfl rfl (c_goes (by first | assumption | exact pI_rg _ | (unfold rg; omega)) (by first | assumption | exact pI_rg _ | (unfold rg; omega)) (by first | assumption | exact pI_rg _ | (unfold rg; omega))) (fun v_77 t_77 hv_77 => ?_)
  obtain ⟨rfl, e_77⟩ := hv_77
  rw [e_77]
  have W1 : WF (ts τ 33 0 (gl (pI (0 ≤ s ∧ s ≤ 1)) (pI (-1 ≤ d ∧ d ≤ 1)) (pI ((((¬ τ 17 0 = -1 ∧ τ 19 0 = 0) ∧ ¬ τ 20 0 = 0) ∧ 0 ≤ s ∧ s ≤ 1) ∧ τ 11 (2 * slo (τ 17 0) + s) < 2)))) := WF_ts W gl_rg
  first
    | refine Z_pt (M := mX8_appeal) (tgt := 85) dX8_appeal_80 (by decide) (fun c_80 => ?_) (fun c_80 => ?_)
    | refine Z_if_ne (M := mX8_appeal) (tgt := 85) (by first | assumption | exact pI_rg _ | (unfold rg; omega)) dX8_appeal_80 (by decide) (fun c_80 => ?_) (fun c_80 => ?_)
  · have hc := c_80
    simp only [pI_n0] at hc
    have hb1 := hq hc.2.2.1.1.1.1
    have hn1 := hf hc.2.2.1.1.1.1 hc.2.2.1.1.1.2 hc.2.2.1.1.2
    have hsl := slo_rg hb1
    have b10 := wf10 W (slo (τ 17 0))
    have b11 := wf11 W (2 * slo (τ 17 0) + s)
    rw [gl_0 c_80] at W1
    rw [gl_0 c_80]
    refine J_aload_n (M := mX8_appeal) dX8_appeal_85 rfl rfl ?_
    refine M_get (M := mX8_appeal) dX8_appeal_86 fi_X8_47 rfl ?_
    refine Z_eq (M := mX8_appeal) (b := τ 17 0) rfl ?_
    refine M_callS (M := mX8_appeal) (as := [_]) dX8_appeal_89 ca_X8_164 ⟨by decide, by decide⟩ rfl (Nat.le_of_ble_eq_true rfl) rfl rfl (c_slotOf (by first | assumption | exact pI_rg _ | (unfold rg; omega))) ?_
    refine J_istore (M := mX8_appeal) dX8_appeal_92 (by decide) ?_
    refine J_aload_n (M := mX8_appeal) dX8_appeal_94 rfl rfl ?_
    refine M_get (M := mX8_appeal) (v := vR (some (50, 0))) dX8_appeal_95 fi_X8_26 rfl ?_
    refine J_iload (M := mX8_appeal) dX8_appeal_98 rfl ?_
    refine M_iald (M := mX8_appeal) (kf := 10) (N := 82) dX8_appeal_100 rfl (by decide) (by omega) (by omega) ?_
    refine Z_eq (M := mX8_appeal) (b := τ 10 _) rfl ?_
    refine Z_iconst (M := mX8_appeal) dX8_appeal_101 ?_
    refine Z_isub (M := mX8_appeal) dX8_appeal_102 ?_
    refine J_istore (M := mX8_appeal) dX8_appeal_103 (by decide) ?_
    refine J_aload_n (M := mX8_appeal) dX8_appeal_105 rfl rfl ?_
    refine J_iload (M := mX8_appeal) dX8_appeal_106 rfl ?_
    refine J_iload (M := mX8_appeal) dX8_appeal_108 rfl ?_
    refine M_call (M := mX8_appeal) (as := [_, _]) dX8_appeal_110 ca_X8_138 ⟨by decide, by decide⟩ rfl (Nat.le_of_ble_eq_true rfl) rfl rfl (c_touched W1 (by omega) (by omega) (by omega) (by omega)) (fun v_110 t_110 hv_110 => ?_)
    obtain ⟨rfl, e_110⟩ := hv_110
    rw [e_110]
    refine J_istore (M := mX8_appeal) dX8_appeal_113 (by decide) ?_
    refine J_aload_n (M := mX8_appeal) dX8_appeal_115 rfl rfl ?_
    refine M_get (M := mX8_appeal) (v := vR (some (54, 0))) dX8_appeal_116 fi_X8_38 rfl ?_
    refine Z_bipush (M := mX8_appeal) dX8_appeal_119 rfl ?_
    refine J_iload (M := mX8_appeal) dX8_appeal_121 rfl ?_
    refine Z_imul (M := mX8_appeal) dX8_appeal_123 ?_
    refine J_iload (M := mX8_appeal) dX8_appeal_124 rfl ?_
    refine Z_iadd (M := mX8_appeal) dX8_appeal_126 ?_
    refine J_iload_n (M := mX8_appeal) dX8_appeal_127 rfl rfl ?_
    refine M_iast (M := mX8_appeal) (kf := 14) (N := 984) dX8_appeal_128 rfl rfl rfl rfl (by decide) (by decide) (by omega) (by omega) ?_
    have W2 : WF (ts (ts τ 33 0 0) 14 (12 * slo (τ 17 0) + (τ 10 (slo (τ 17 0)) - 1)) d) := WF_ts W1 (by show (-2 : Int) ≤ _ ∧ _ ≤ (1 : Int); omega)
    have bt1 := tch_rg (τ := (ts (ts τ 33 0 0) 14 (12 * slo (τ 17 0) + (τ 10 (slo (τ 17 0)) - 1)) d)) (slo (τ 17 0)) (τ 10 (slo (τ 17 0)) - 1)
    have bt0 := tch_rg (τ := (ts τ 33 0 0)) (slo (τ 17 0)) (τ 10 (slo (τ 17 0)) - 1)
    refine J_aload_n (M := mX8_appeal) dX8_appeal_129 rfl rfl ?_
    refine J_iload (M := mX8_appeal) dX8_appeal_130 rfl ?_
    refine J_iload (M := mX8_appeal) dX8_appeal_132 rfl ?_
    refine M_call (M := mX8_appeal) (as := [_, _]) dX8_appeal_134 ca_X8_138 ⟨by decide, by decide⟩ rfl (Nat.le_of_ble_eq_true rfl) rfl rfl (c_touched W2 (by omega) (by omega) (by omega) (by omega)) (fun v_134 t_134 hv_134 => ?_)
    obtain ⟨rfl, e_134⟩ := hv_134
    rw [e_134]
    refine J_istore (M := mX8_appeal) dX8_appeal_137 (by decide) ?_
    refine J_aload_n (M := mX8_appeal) dX8_appeal_139 rfl rfl ?_
    refine M_get (M := mX8_appeal) (v := vR (some (51, 0))) dX8_appeal_140 fi_X8_29 rfl ?_
    refine Z_iconst (M := mX8_appeal) dX8_appeal_143 ?_
    refine J_iload (M := mX8_appeal) dX8_appeal_144 rfl ?_
    refine Z_imul (M := mX8_appeal) dX8_appeal_146 ?_
    refine J_iload_n (M := mX8_appeal) dX8_appeal_147 rfl rfl ?_
    refine Z_iadd (M := mX8_appeal) dX8_appeal_148 ?_
    refine J_dup2 (M := mX8_appeal) dX8_appeal_149 rfl rfl ?_
    refine M_iald (M := mX8_appeal) (kf := 11) (N := 164) dX8_appeal_150 rfl (by decide) (by omega) (by omega) ?_
    refine Z_eq (M := mX8_appeal) (b := τ 11 _) rfl ?_
    refine Z_bj (M := mX8_appeal) (pcB := 163) (tch (ts (ts τ 33 0 0) 14 (12 * slo (τ 17 0) + (τ 10 (slo (τ 17 0)) - 1)) d) (slo (τ 17 0)) (τ 10 (slo (τ 17 0)) - 1) = tch (ts τ 33 0 0) (slo (τ 17 0)) (τ 10 (slo (τ 17 0)) - 1)) (fun hj_163 => ?_) ?_
    · refine J_iload (M := mX8_appeal) dX8_appeal_151 rfl ?_
      refine J_iload (M := mX8_appeal) dX8_appeal_153 rfl ?_
      refine Z_ic_ne (M := mX8_appeal) (tgt := 162) (by first | assumption | exact pI_rg _ | (unfold rg; omega)) (by first | assumption | exact pI_rg _ | (unfold rg; omega)) dX8_appeal_155 (by decide) (fun c_155 => ?_) (fun c_155 => ?_)
      · refine Z_iconst (M := mX8_appeal) dX8_appeal_162 ?_
        exact hj_163 _ (pI_f (by omega)).symm
      · refine Z_iconst (M := mX8_appeal) dX8_appeal_158 ?_
        refine J_goto (M := mX8_appeal) (tgt := 163) dX8_appeal_159 (by decide) ?_
        exact hj_163 _ (pI_t (by omega)).symm
    refine Z_iadd (M := mX8_appeal) dX8_appeal_163 ?_
    refine M_iast (M := mX8_appeal) (kf := 11) (N := 164) dX8_appeal_164 rfl rfl rfl rfl (by decide) (by decide) (by omega) (by omega) ?_
    have W3 : WF (ts (ts (ts τ 33 0 0) 14 (12 * slo (τ 17 0) + (τ 10 (slo (τ 17 0)) - 1)) d) 11 (2 * slo (τ 17 0) + s) (τ 11 (2 * slo (τ 17 0) + s) + pI (tch (ts (ts τ 33 0 0) 14 (12 * slo (τ 17 0) + (τ 10 (slo (τ 17 0)) - 1)) d) (slo (τ 17 0)) (τ 10 (slo (τ 17 0)) - 1) = tch (ts τ 33 0 0) (slo (τ 17 0)) (τ 10 (slo (τ 17 0)) - 1)))) := WF_ts W2 (by show (0 : Int) ≤ _ ∧ _ ≤ (2 : Int); have := pI_01 (tch (ts (ts τ 33 0 0) 14 (12 * slo (τ 17 0) + (τ 10 (slo (τ 17 0)) - 1)) d) (slo (τ 17 0)) (τ 10 (slo (τ 17 0)) - 1) = tch (ts τ 33 0 0) (slo (τ 17 0)) (τ 10 (slo (τ 17 0)) - 1)); omega)
    refine J_aload_n (M := mX8_appeal) dX8_appeal_165 rfl rfl ?_
    refine M_call (M := mX8_appeal) (as := []) dX8_appeal_166 ca_X8_115 ⟨by decide, by decide⟩ rfl (Nat.le_of_ble_eq_true rfl) rfl rfl (c_follows W3) (fun v_166 t_166 hv_166 => ?_)
    obtain ⟨rfl, e_166⟩ := hv_166
    rw [e_166]
    refine J_iload (M := mX8_appeal) dX8_appeal_169 rfl ?_
    refine M_iret (M := mX8_appeal) dX8_appeal_171 rfl ?_
    exact Or.inr (And.intro rfl (And.intro rfl rfl))
  · refine Z_iconst (M := mX8_appeal) dX8_appeal_83 ?_
    refine M_iret (M := mX8_appeal) dX8_appeal_84 rfl ?_
    exact Or.inl (And.intro (gl_n (by assumption)) (And.intro rfl rfl))

