/-! THE CLASS: drawTableau itself -/
set_option maxRecDepth 100000 in
set_option maxHeartbeats 4000000 in
theorem dtl {X : GX} {h : LH} {r u : TS} {k n : Nat} {Q : LO → LH → Prop} {z F : Int} (V : WK r) (e1 : r 1 0 = F) (e43 : r 43 0 = z) (hz : 0 ≤ z ∧ z ≤ 16) (hF : 0 ≤ F ∧ F ≤ 12) (h47 : r 47 0 = F) (h4 : ∀ f, 0 ≤ f → f < F → r 4 f = f) (h8 : ∀ f, 0 ≤ f → f < F → r 8 f = f) (hS : SU r u F) (hu : ∀ i, 0 ≤ u 29 i) (kk : J X mX7_drawTableau 109 [some (vR (some (1, 0))), none] [] (hk h (fs r 46 (gP (r 46) (r 45) z F u F))) k n Q) : ∀ (m : Nat) (p : Int), 0 ≤ p → p + m = F → J X mX7_drawTableau 80 [some (vR (some (1, 0))), some (vI (iI p))] [] (hk h (fs r 46 (gP (r 46) (r 45) z F u p))) k n Q := by
  intro m
  induction m with
  | zero =>
    intro p h0 hp
    have ep : F = p := by omega
    subst ep
    have hg : (fs r 46 (gP (r 46) (r 45) z F u F)) 1 0 = F := e1
    refine J_iload_n (M := mX7_drawTableau) dX7_drawTableau_80 rfl rfl ?_
    refine J_aload_n (M := mX7_drawTableau) dX7_drawTableau_81 rfl rfl ?_
    refine J_getf (M := mX7_drawTableau) dX7_drawTableau_82 fi_X7_52 (hk_1 (by first | exact rfl | assumption | exact Or.inl (by assumption) | exact Or.inr rfl | (show 0 ≤ _ ∧ _ < _; omega))) rfl ?_
    refine Z_eq (M := mX7_drawTableau) hg ?_
    refine Z_ic_ge (M := mX7_drawTableau) (tgt := 109) (by first | assumption | exact pI_rg _ | (unfold rg; omega)) (by first | assumption | exact pI_rg _ | (unfold rg; omega)) dX7_drawTableau_85 (by decide) (fun c_85 => ?_) (fun c_85 => ?_)
    · exact J_sub kk (And.intro rfl trivial)
    · omega
  | succ m ih =>
    intro p h0 hp
    have hg : (fs r 46 (gP (r 46) (r 45) z F u p)) 1 0 = F := e1
    have Vp : WK (fs r 46 (gP (r 46) (r 45) z F u p)) := WK_gP V hF
    have hc := kX7_fencerInPlace (X := X) (h := h) (ρ := (fs r 46 (gP (r 46) (r 45) z F u p))) (u := u) (p := p) Vp (by rw [hg]; exact hF) (by rw [hg]; exact h47) (by rw [hg]; exact h4) (by rw [hg]; exact h8) (by rw [hg]; exact hS) hu ⟨h0, by rw [hg]; omega⟩
    rw [hg] at hc
    have hd := kX4_seat (X := X) (h := h) (ρ := (fs r 46 (gP (r 46) (r 45) z F u p))) (z := z) (q := p + 1) (f := rkF u p F F.toNat) Vp e43 hz (by unfold rg; omega)
    have eg : fs (fs r 46 (gP (r 46) (r 45) z F u p)) 46 (stw ((fs r 46 (gP (r 46) (r 45) z F u p)) 46) ((fs r 46 (gP (r 46) (r 45) z F u p)) 45) z (p + 1) (rkF u p F F.toNat) z) = (fs r 46 (gP (r 46) (r 45) z F u (p + 1))) := by
      rw [show (fs r 46 (gP (r 46) (r 45) z F u p)) 45 = r 45 from rfl, show (fs r 46 (gP (r 46) (r 45) z F u p)) 46 = gP (r 46) (r 45) z F u p from fs_s, gP_s, fs_fs]
    have ih2 := ih (p + 1) (by omega) (by omega)
    rw [← eg] at ih2
    refine J_iload_n (M := mX7_drawTableau) dX7_drawTableau_80 rfl rfl ?_
    refine J_aload_n (M := mX7_drawTableau) dX7_drawTableau_81 rfl rfl ?_
    refine J_getf (M := mX7_drawTableau) dX7_drawTableau_82 fi_X7_52 (hk_1 (by first | exact rfl | assumption | exact Or.inl (by assumption) | exact Or.inr rfl | (show 0 ≤ _ ∧ _ < _; omega))) rfl ?_
    refine Z_eq (M := mX7_drawTableau) hg ?_
    refine Z_ic_ge (M := mX7_drawTableau) (tgt := 109) (by first | assumption | exact pI_rg _ | (unfold rg; omega)) (by first | assumption | exact pI_rg _ | (unfold rg; omega)) dX7_drawTableau_85 (by decide) (fun c_85 => ?_) (fun c_85 => ?_)
    · omega
    · refine J_aload_n (M := mX7_drawTableau) dX7_drawTableau_88 rfl rfl ?_
      refine J_getf (M := mX7_drawTableau) dX7_drawTableau_89 fi_X7_37 (hk_1 (by first | exact rfl | assumption | exact Or.inl (by assumption) | exact Or.inr rfl | (show 0 ≤ _ ∧ _ < _; omega))) rfl ?_
      refine J_iload_n (M := mX7_drawTableau) dX7_drawTableau_92 rfl rfl ?_
      refine Z_iconst (M := mX7_drawTableau) dX7_drawTableau_93 ?_
      refine Z_iadd (M := mX7_drawTableau) dX7_drawTableau_94 ?_
      refine J_aload_n (M := mX7_drawTableau) dX7_drawTableau_95 rfl rfl ?_
      refine J_iload_n (M := mX7_drawTableau) dX7_drawTableau_96 rfl rfl ?_
      refine J_callV (M := mX7_drawTableau) (as := [_]) dX7_drawTableau_97 ca_X7_298 ⟨by decide, by decide⟩ (hk_1 (by first | exact rfl | assumption | exact Or.inl (by assumption) | exact Or.inr rfl | (show 0 ≤ _ ∧ _ < _; omega))) rfl (Nat.le_of_ble_eq_true rfl) (k' := k) (n' := n) (Nat.le_refl _) (Nat.le_refl _) hc (fun v_97 h_97 hv_97 => ?_)
      obtain ⟨r_97, rfl, hv_97⟩ := hv_97
      obtain ⟨rfl, e_97⟩ := hv_97
      rw [e_97]
      refine J_callV (M := mX7_drawTableau) (as := [_, _]) dX7_drawTableau_100 ca_X7_317 ⟨by decide, by decide⟩ (hk_6 (by first | exact rfl | assumption | exact Or.inl (by assumption) | exact Or.inr rfl | (show 0 ≤ _ ∧ _ < _; omega))) rfl (Nat.le_of_ble_eq_true rfl) (k' := k) (n' := n) (Nat.le_refl _) (Nat.le_refl _) hd (fun v_100 h_100 hv_100 => ?_)
      obtain ⟨r_100, rfl, hv_100⟩ := hv_100
      obtain ⟨rfl, e_100⟩ := hv_100
      rw [e_100]
      refine Z_iinc (M := mX7_drawTableau) dX7_drawTableau_103 rfl (by decide) ?_
      refine J_goto (M := mX7_drawTableau) (tgt := 80) dX7_drawTableau_106 (by decide) ?_
      exact J_sub ih2 (And.intro rfl (And.intro rfl trivial))

set_option maxRecDepth 100000 in
set_option maxHeartbeats 4000000 in
theorem p_drawTableau {X : GX} {h : LH} {ρ τ : TS} {c : Int} (R : RR ρ τ c) : CX X mX7_drawTableau [vR (some (1, 0))] h ρ (PX (gl (pI (0 < τ 8 0 ∧ τ 21 0 = 0 ∧ τ 19 0 = 0 ∧ dcd τ (τ 9 0).toNat)) 1 1) (its (τ 1 0)) (fun r => ∀ w, WF w → SQ w τ → RR r (fol (dt4 w)) c)) (EM [0] (gl (pI (0 < τ 8 0 ∧ τ 21 0 = 0 ∧ τ 19 0 = 0 ∧ dcd τ (τ 9 0).toNat)) 1 1)) := by
  have W := R.1
  have V := R.2.1
  have w1 := wf1 W 0
  have w9 := wf9 W 0
  have w8 := wf8 W 0
  have w21 := wf21 W 0
  have a0 := R.2.2.1.1
  have b5 := R.2.2.1.2.2.2.2.2.1
  have e43 := R.2.2.2.1.1.1
  have hR := run_c R
  have hi := its_r (F := τ 1 0)
  refine CT_of (by decide +kernel) rfl (Nat.le_of_ble_eq_true rfl) ?_
  refine J_aload_n (M := mX7_drawTableau) dX7_drawTableau_0 rfl rfl ?_
  refine J_callV (M := mX7_drawTableau) (as := []) dX7_drawTableau_1 ca_X7_56 ⟨by decide, by decide⟩ (hk_1 (by first | exact rfl | assumption | exact Or.inl (by assumption) | exact Or.inr rfl | (show 0 ≤ _ ∧ _ < _; omega))) rfl (Nat.le_of_ble_eq_true rfl) (k' := 45) (n' := 345) (by decide) (by decide) (kX7_arePoolsDrawn V) (fun v_1 h_1 hv_1 => ?_)
  obtain ⟨r_1, rfl, hv_1⟩ := hv_1
  obtain ⟨rfl, e_1⟩ := hv_1
  rw [e_1]
  first
    | refine Z_pf (M := mX7_drawTableau) (tgt := 14) dX7_drawTableau_4 (by decide) (fun c_4 => ?_) (fun c_4 => ?_)
    | refine Z_if_eq (M := mX7_drawTableau) (tgt := 14) (by first | assumption | exact pI_rg _ | (unfold rg; omega)) dX7_drawTableau_4 (by decide) (fun c_4 => ?_) (fun c_4 => ?_)
  · refine K_thr (M := mX7_drawTableau) rfl rfl ti_60_304_64 (by decide) (by decide) (by decide) (by decide) (Or.inr ⟨dX7_drawTableau_14, dX7_drawTableau_17, dX7_drawTableau_18, dX7_drawTableau_21, dX7_drawTableau_24⟩) ?_
    refine EM_1 (pI_f (fun q => ?_)) rfl
    first
      | exact c_11 q.2.2.2
      | omega
  · refine J_aload_n (M := mX7_drawTableau) dX7_drawTableau_7 rfl rfl ?_
    refine J_callV (M := mX7_drawTableau) (as := []) dX7_drawTableau_8 ca_X7_301 ⟨by decide, by decide⟩ (hk_1 (by first | exact rfl | assumption | exact Or.inl (by assumption) | exact Or.inr rfl | (show 0 ≤ _ ∧ _ < _; omega))) rfl (Nat.le_of_ble_eq_true rfl) (k' := 45) (n' := 345) (by decide) (by decide) (kX7_isAPoolBoutOpen (RC_of R)) (fun v_8 h_8 hv_8 => ?_)
    obtain ⟨r_8, rfl, hv_8⟩ := hv_8
    obtain ⟨rfl, e_8⟩ := hv_8
    rw [e_8]
    first
      | refine Z_pf (M := mX7_drawTableau) (tgt := 25) dX7_drawTableau_11 (by decide) (fun c_11 => ?_) (fun c_11 => ?_)
      | refine Z_if_eq (M := mX7_drawTableau) (tgt := 25) (by first | assumption | exact pI_rg _ | (unfold rg; omega)) dX7_drawTableau_11 (by decide) (fun c_11 => ?_) (fun c_11 => ?_)
    · refine J_aload_n (M := mX7_drawTableau) dX7_drawTableau_25 rfl rfl ?_
      refine J_getf (M := mX7_drawTableau) dX7_drawTableau_26 fi_X7_37 (hk_1 (by first | exact rfl | assumption | exact Or.inl (by assumption) | exact Or.inr rfl | (show 0 ≤ _ ∧ _ < _; omega))) rfl ?_
      refine J_callV (M := mX7_drawTableau) (as := []) dX7_drawTableau_29 ca_X7_306 ⟨by decide, by decide⟩ (hk_6 (by first | exact rfl | assumption | exact Or.inl (by assumption) | exact Or.inr rfl | (show 0 ≤ _ ∧ _ < _; omega))) rfl (Nat.le_of_ble_eq_true rfl) (k' := 45) (n' := 345) (by decide) (by decide) (kX4_isDrawn V) (fun v_29 h_29 hv_29 => ?_)
      obtain ⟨r_29, rfl, hv_29⟩ := hv_29
      obtain ⟨rfl, e_29⟩ := hv_29
      rw [e_29]
      first
        | refine Z_pt (M := mX7_drawTableau) (tgt := 45) dX7_drawTableau_32 (by decide) (fun c_32 => ?_) (fun c_32 => ?_)
        | refine Z_if_ne (M := mX7_drawTableau) (tgt := 45) (by first | assumption | exact pI_rg _ | (unfold rg; omega)) dX7_drawTableau_32 (by decide) (fun c_32 => ?_) (fun c_32 => ?_)
      · refine K_thr (M := mX7_drawTableau) rfl rfl ti_60_309_64 (by decide) (by decide) (by decide) (by decide) (Or.inr ⟨dX7_drawTableau_45, dX7_drawTableau_48, dX7_drawTableau_49, dX7_drawTableau_52, dX7_drawTableau_55⟩) ?_
        refine EM_1 (pI_f (fun q => ?_)) rfl
        first
          | exact c_11 q.2.2.2
          | omega
      · refine J_aload_n (M := mX7_drawTableau) dX7_drawTableau_35 rfl rfl ?_
        refine J_getf (M := mX7_drawTableau) dX7_drawTableau_36 fi_X7_30 (hk_1 (by first | exact rfl | assumption | exact Or.inl (by assumption) | exact Or.inr rfl | (show 0 ≤ _ ∧ _ < _; omega))) rfl ?_
        refine J_getf (M := mX7_drawTableau) dX7_drawTableau_39 fi_X7_101 (hk_5 (by first | exact rfl | assumption | exact Or.inl (by assumption) | exact Or.inr rfl | (show 0 ≤ _ ∧ _ < _; omega))) rfl ?_
        refine Z_rwb (M := mX7_drawTableau) (g := ρ 41) (wk41 V) rfl (fun wb_41_23 => ?_)
        first | refine Z_some (M := mX7_drawTableau) (by omega) ?_ | skip
        first | refine Z_uns (M := mX7_drawTableau) (by omega) ?_ | skip
        refine K_ifnull (tgt := 56) dX7_drawTableau_42 (by decide) (fun c_42 => ?_) (fun c_42 => ?_)
        · have hd : dcd τ (τ 9 0).toNat := Classical.byContradiction (fun q => c_11 q)
          have h8 : 0 < τ 8 0 := by omega
          have h21 : τ 21 0 = 0 := by omega
          have h19 : τ 19 0 = 0 := by omega
          have V1 : WK (pst ρ (-1) (-1) (-1) (-1)) := WK_pst V
          have hfr : ∀ b, 66 < b → b < 82 → ¬ pst ρ (-1) (-1) (-1) (-1) 48 b = 1 := fun b x0 x1 => by
            rw [pst_k (by decide)]
            exact (R.2.2.2.2.2 b (by omega) x1 (fun y => by unfold LVb at y; omega)).2.2.2
          have hRC := RC_draw R h21
          refine J_aload_n (M := mX7_drawTableau) dX7_drawTableau_56 rfl rfl ?_
          refine J_getf (M := mX7_drawTableau) dX7_drawTableau_57 fi_X7_30 (hk_1 (by first | exact rfl | assumption | exact Or.inl (by assumption) | exact Or.inr rfl | (show 0 ≤ _ ∧ _ < _; omega))) rfl ?_
          refine J_callV (M := mX7_drawTableau) (as := []) dX7_drawTableau_60 ca_X7_311 ⟨by decide, by decide⟩ (hk_5 rfl) rfl (Nat.le_of_ble_eq_true rfl) (k' := 45) (n' := 345) (by decide) (by decide) kX3_empty (fun v_60 h_60 hv_60 => ?_)
          obtain ⟨r_60, rfl, hv_60⟩ := hv_60
          obtain ⟨rfl, e_60⟩ := hv_60
          rw [e_60]
          refine J_aload_n (M := mX7_drawTableau) dX7_drawTableau_63 rfl rfl ?_
          refine J_getf (M := mX7_drawTableau) dX7_drawTableau_64 fi_X7_37 (hk_1 (by first | exact rfl | assumption | exact Or.inl (by assumption) | exact Or.inr rfl | (show 0 ≤ _ ∧ _ < _; omega))) rfl ?_
          refine J_aload_n (M := mX7_drawTableau) dX7_drawTableau_67 rfl rfl ?_
          refine J_getf (M := mX7_drawTableau) dX7_drawTableau_68 fi_X7_52 (hk_1 (by first | exact rfl | assumption | exact Or.inl (by assumption) | exact Or.inr rfl | (show 0 ≤ _ ∧ _ < _; omega))) rfl ?_
          refine Z_eq (M := mX7_drawTableau) (show pst ρ (-1) (-1) (-1) (-1) 1 0 = τ 1 0 from a0.2.1) ?_
          refine J_callV (M := mX7_drawTableau) (as := [_]) dX7_drawTableau_71 ca_X7_314 ⟨by decide, by decide⟩ (hk_6 (by first | exact rfl | assumption | exact Or.inl (by assumption) | exact Or.inr rfl | (show 0 ≤ _ ∧ _ < _; omega))) rfl (Nat.le_of_ble_eq_true rfl) (k' := 0) (n' := 0) (by decide) (by decide) (kX4_lay w1 hfr) (fun v_71 h_71 hv_71 => ?_)
          obtain ⟨r_71, rfl, hv_71⟩ := hv_71
          obtain ⟨rfl, e_71⟩ := hv_71
          rw [e_71]
          refine J_aload_n (M := mX7_drawTableau) dX7_drawTableau_74 rfl rfl ?_
          refine J_callV (M := mX7_drawTableau) (as := []) dX7_drawTableau_75 ca_X7_287 ⟨by decide, by decide⟩ (hk_1 (by first | exact rfl | assumption | exact Or.inl (by assumption) | exact Or.inr rfl | (show 0 ≤ _ ∧ _ < _; omega))) rfl (Nat.le_of_ble_eq_true rfl) (k' := 0) (n' := 0) (by decide) (by decide) (kX7_countPools hRC) (fun v_75 h_75 hv_75 => ?_)
          obtain ⟨r_75, rfl, hv_75⟩ := hv_75
          obtain ⟨rfl, hFr, hSU⟩ := hv_75
          refine Z_iconst (M := mX7_drawTableau) dX7_drawTableau_78 ?_
          refine J_istore_n (M := mX7_drawTableau) dX7_drawTableau_79 rfl (by decide) ?_
          obtain ⟨y1, y2, y3, y4, y5, y6, y7, y8⟩ := Fr_HY hRC hFr hSU
          have x43 : r_75 43 0 = its (τ 1 0) := by rw [hFr.1 43 (by decide)]; exact ly_43
          have x45 : r_75 45 = sq0 (ρ 45) (itd (τ 1 0)) := by rw [hFr.1 45 (by decide), ly_45, pst_k (by decide)]
          have hSU3 : SU r_75 (sm (dt3 τ)) (τ 1 0) := fun f f0 f1 => by
            have q1 := hSU f f0 f1
            have q2 := SU_3 W f f0 (by omega)
            omega
          have hu3 : ∀ i, 0 ≤ sm (dt3 τ) 29 i := fun i => (wf29 (WF_sm (WF_d3 W)) i).1
          obtain ⟨hB1, hFR, hSR⟩ := SR_draw R h8 h21 h19 hFr
          have g0 : gP (r_75 46) (r_75 45) (its (τ 1 0)) (τ 1 0) (sm (dt3 τ)) 0 = r_75 46 := gP_0 (fun i i0 i1 => by rw [x45]; exact (sq_rg (s := ρ 45) (itd (τ 1 0)) i i0 i1).1)
          have hl := dtl (X := X) (h := h) (r := r_75) (u := sm (dt3 τ)) (k := 0) (n := 0) (Q := QE h ρ (PX (gl (pI (0 < τ 8 0 ∧ τ 21 0 = 0 ∧ τ 19 0 = 0 ∧ dcd τ (τ 9 0).toNat)) 1 1) (its (τ 1 0)) (fun r => ∀ w, WF w → SQ w τ → RR r (fol (dt4 w)) c)) (EM [0] (gl (pI (0 < τ 8 0 ∧ τ 21 0 = 0 ∧ τ 19 0 = 0 ∧ dcd τ (τ 9 0).toNat)) 1 1))) y1 y8 x43 (by omega) w1 (by omega) (by rw [← y8]; exact y4) (by rw [← y8]; exact y5) hSU3 hu3 ?_ (τ 1 0).toNat 0 (by omega) (by omega)
          · rw [g0, fs_id] at hl
            exact J_sub hl (And.intro rfl (And.intro rfl trivial))
          · have d21 : dt4 τ 21 0 = its (τ 1 0) := d4_21
            refine J_aload_n (M := mX7_drawTableau) dX7_drawTableau_109 rfl rfl ?_
            refine J_getf (M := mX7_drawTableau) dX7_drawTableau_110 fi_X7_37 (hk_1 (by first | exact rfl | assumption | exact Or.inl (by assumption) | exact Or.inr rfl | (show 0 ≤ _ ∧ _ < _; omega))) rfl ?_
            refine J_aload_n (M := mX7_drawTableau) dX7_drawTableau_113 rfl rfl ?_
            refine J_getf (M := mX7_drawTableau) dX7_drawTableau_114 fi_X7_30 (hk_1 (by first | exact rfl | assumption | exact Or.inl (by assumption) | exact Or.inr rfl | (show 0 ≤ _ ∧ _ < _; omega))) rfl ?_
            refine J_callV (M := mX7_drawTableau) (as := [_]) dX7_drawTableau_117 ca_X7_219 ⟨by decide, by decide⟩ (hk_6 (by first | exact rfl | assumption | exact Or.inl (by assumption) | exact Or.inr rfl | (show 0 ≤ _ ∧ _ < _; omega))) rfl (Nat.le_of_ble_eq_true rfl) (k' := 0) (n' := 0) (by decide) (by decide) (kX4_settle (τ := dt4 τ) (by rw [d21]; exact hSR)) (fun v_117 h_117 hv_117 => ?_)
            obtain ⟨r_117, rfl, hv_117⟩ := hv_117
            obtain ⟨rfl, hS, hFS⟩ := hv_117
            refine J_aload_n (M := mX7_drawTableau) dX7_drawTableau_120 rfl rfl ?_
            refine J_getf (M := mX7_drawTableau) dX7_drawTableau_121 fi_X7_37 (hk_1 (by first | exact rfl | assumption | exact Or.inl (by assumption) | exact Or.inr rfl | (show 0 ≤ _ ∧ _ < _; omega))) rfl ?_
            refine J_getf (M := mX7_drawTableau) dX7_drawTableau_124 fi_X7_320 (hk_6 (by first | exact rfl | assumption | exact Or.inl (by assumption) | exact Or.inr rfl | (show 0 ≤ _ ∧ _ < _; omega))) rfl ?_
            refine Z_eq (M := mX7_drawTableau) (show r_117 43 0 = its (τ 1 0) from by rw [hFS.1 43 (by decide)]; exact x43) ?_
            refine K_iretE dX7_drawTableau_127 rfl ?_
            have RF := RR_fol hB1 hFR (by rw [d4_k (by decide)]; exact h19) (WF_d4 W) hS hFS
            exact ⟨by rw [pI_t ⟨h8, h21, h19, hd⟩]; rfl, rfl, fun w Ww Sw => RR_SQ (fol_SQ (WF_d4 Ww) (WF_d4 W) (d4_SQ Ww W Sw)) (WF_fol (WF_d4 Ww)) RF⟩
        · refine K_thr (M := mX7_drawTableau) rfl rfl ti_60_309_64 (by decide) (by decide) (by decide) (by decide) (Or.inr ⟨dX7_drawTableau_45, dX7_drawTableau_48, dX7_drawTableau_49, dX7_drawTableau_52, dX7_drawTableau_55⟩) ?_
          refine EM_1 (pI_f (fun q => ?_)) rfl
          first
            | exact c_11 q.2.2.2
            | omega
    · refine K_thr (M := mX7_drawTableau) rfl rfl ti_60_304_64 (by decide) (by decide) (by decide) (by decide) (Or.inr ⟨dX7_drawTableau_14, dX7_drawTableau_17, dX7_drawTableau_18, dX7_drawTableau_21, dX7_drawTableau_24⟩) ?_
      refine EM_1 (pI_f (fun q => ?_)) rfl
      first
        | exact c_11 q.2.2.2
        | omega
