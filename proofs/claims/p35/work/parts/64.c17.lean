/-! THE CLASS: what counts of the pools, and ranks -/
/-- what counting rests on -/
def RC (ρ τ : TS) : Prop := WF τ ∧ WK ρ ∧ (ρ 1 0 = τ 1 0 ∧ ρ 47 0 = τ 1 0 ∧ ρ 3 0 = τ 9 0) ∧ (∀ i, 0 ≤ i → i < τ 1 0 → ρ 4 i = i ∧ ρ 8 i = i) ∧ (∀ s, 0 ≤ s → s < τ 9 0 → ρ 6 s = s ∧ ρ 18 s = τ 6 s ∧ ρ 19 s = τ 7 s ∧ τ 6 s < τ 1 0 ∧ τ 7 s < τ 1 0) ∧ ∀ b, 0 ≤ b → b < τ 9 0 → BB ρ τ b
theorem RC_of {ρ τ : TS} {c : Int} (R : RR ρ τ c) : RC ρ τ := ⟨R.1, R.2.1, ⟨R.2.2.1.1.2.1, R.2.2.1.1.2.2.1, R.2.2.1.1.2.2.2.2.2.1⟩, R.2.2.1.2.1, R.2.2.1.2.2.2.2.1, fun b b0 b1 => R.2.2.2.1.2.2.1 b (Or.inl ⟨b0, b1⟩)⟩
def Fr (ρ r : TS) : Prop := (∀ k, ¬ (9 ≤ k ∧ k ≤ 12) → r k = ρ k) ∧ WK r
/-- the fencers' sums are the reference's -/
def SU (r u : TS) (n : Int) : Prop := ∀ f, 0 ≤ f → f < n → r 9 f = u 29 f ∧ r 10 f = u 30 f ∧ r 11 f = u 31 f ∧ r 12 f = u 32 f
def adR (r : TS) (f x y b : Int) : TS := ts (ts (ts (ts r 9 f (r 9 f + 1)) 10 f (r 10 f + b)) 11 f (r 11 f + x)) 12 f (r 12 f + y)
theorem adR_at {r : TS} {f x y b j : Int} : adR r f x y b 9 j = (if j = f then r 9 f + 1 else r 9 j) ∧ adR r f x y b 10 j = (if j = f then r 10 f + b else r 10 j) ∧ adR r f x y b 11 j = (if j = f then r 11 f + x else r 11 j) ∧ adR r f x y b 12 j = (if j = f then r 12 f + y else r 12 j) := ⟨rfl, rfl, rfl, rfl⟩
theorem Fr_ad {ρ r : TS} {f x y b : Int} (F : Fr ρ r) (h9 : r 9 f ≤ 1000) (h10 : r 10 f ≤ 1000) (h11 : r 11 f ≤ 1900) (h12 : r 12 f ≤ 1900) (hx : 0 ≤ x ∧ x ≤ 12) (hy : 0 ≤ y ∧ y ≤ 12) (hb : 0 ≤ b ∧ b ≤ 1) : Fr ρ (adR r f x y b) := by
  have w9 := wk9 F.2 f
  have w10 := wk10 F.2 f
  have w11 := wk11 F.2 f
  have w12 := wk12 F.2 f
  refine ⟨fun k hk => ?_, WK_ts (WK_ts (WK_ts (WK_ts F.2 (show (0 : Int) ≤ _ ∧ _ ≤ (2000 : Int) by omega)) (show (0 : Int) ≤ _ ∧ _ ≤ (2000 : Int) by omega)) (show (0 : Int) ≤ _ ∧ _ ≤ (2000 : Int) by omega)) (show (0 : Int) ≤ _ ∧ _ ≤ (2000 : Int) by omega)⟩
  unfold adR
  rw [ts_n (by omega), ts_n (by omega), ts_n (by omega), ts_n (by omega)]
  exact F.1 k hk
theorem SU_ad {r u : TS} {n f x y b : Int} (h : SU r u n) (hf : 0 ≤ f ∧ f < n) : SU (adR r f x y b) (adF u f x y b) n := by
  intro j j0 j1
  obtain ⟨a1, a2, a3, a4⟩ := h j j0 j1
  obtain ⟨c1, c2, c3, c4⟩ := h f hf.1 hf.2
  obtain ⟨e1, e2, e3, e4⟩ := adR_at (r := r) (f := f) (x := x) (y := y) (b := b) (j := j)
  obtain ⟨g1, g2, g3, g4⟩ := ad_at (τ := u) (f := f) (x := x) (y := y) (b := b) (j := j)
  rw [e1, e2, e3, e4, g1, g2, g3, g4, a1, a2, a3, a4, c1, c2, c3, c4]
  exact ⟨rfl, rfl, rfl, rfl⟩
theorem RR_Fr {ρ r τ : TS} {c : Int} (R : RR ρ τ c) (F : Fr ρ r) : RR r τ c := by
  obtain ⟨W, V, B, S, Q, f⟩ := R
  have ek : ∀ k, ¬ (9 ≤ k ∧ k ≤ 12) → r k = ρ k := F.1
  have e47 := ek 47 (by decide)
  refine ⟨W, F.2, ?_, SN_same S W (fun k hk => ek k (by omega)) (by rw [e47]; omega) (by rw [e47]; omega) (fun _ _ => rfl) rfl rfl ?_, RN_same Q (fun k hk => ek k (by omega)) (by rw [e47]; omega) (by rw [e47]; omega) (fun _ _ => rfl), FRE_same f (ek 48 (by decide)) (fun _ _ => rfl)⟩
  · unfold B1
    rw [ek 0 (by decide), ek 1 (by decide), ek 2 (by decide), ek 3 (by decide), ek 4 (by decide), ek 5 (by decide), ek 6 (by decide), ek 8 (by decide), ek 13 (by decide), ek 14 (by decide), ek 18 (by decide), ek 19 (by decide), e47]
    exact B
  · unfold WR
    rw [e47, ek 15 (by decide), ek 16 (by decide)]
    exact S.2.2.2.2.2.2.2.2.2
theorem BB_Fr {ρ r τ : TS} {b : Int} (F : Fr ρ r) (B : BB ρ τ b) : BB r τ b := by
  obtain ⟨⟨g1, g2, g3, g4, g5, g6⟩, ⟨t1, t2⟩, t3, t4⟩ := B
  have ek := F.1
  unfold BB BR TL
  rw [ek 48 (by decide), ek 17 (by decide), ek 24 (by decide), ek 20 (by decide), ek 23 (by decide), ek 36 (by decide), ek 25 (by decide), ek 26 (by decide), ek 21 (by decide), ek 22 (by decide)]
  exact ⟨⟨g1, g2, g3, g4, g5, fun j j0 j1 => ⟨PH_k (g6 j j0 j1).1 (ek 47 (by decide)) (fun k hk => ek k (by omega)) (ek 49 (by decide)) rfl (fun _ _ => rfl), (g6 j j0 j1).2⟩⟩, ⟨t1, t2⟩, t3, t4⟩
set_option maxRecDepth 100000 in
set_option maxHeartbeats 4000000 in
theorem kX7_countSide {X : GX} {h : LH} {ρ τ : TS} (V : WK ρ) (W : WF τ) {b s : Int} (hs : 0 ≤ s ∧ s ≤ 1) (B : BB ρ τ b) {g : Int} (hg : g = (if s = 0 then ρ 18 b else ρ 19 b)) (hf : 0 ≤ g ∧ g < ρ 1 0) (h4 : ρ 4 g = g) (h47 : ρ 1 0 = ρ 47 0) : CK X mX7_countSide [vR (some (1, 0)), vR (some (13, b)), vI (iI s)] h ρ (fun v r => v = none ∧ r = adR ρ g (if s = 0 then (te τ b).1 else (te τ b).2.1) (if s = 0 then (te τ b).2.1 else (te τ b).1) (pI ((te τ b).2.2 = s))) := by
  obtain ⟨⟨g1, g2, g3, g4, g5, g6⟩, T, t3, t4⟩ := id B
  have e15 : CE ρ 15 b := Or.inl g2
  have b1 := te_rg W b
  have ha : (if 0 ≤ g ∧ g < ρ 1 0 then ρ 4 g else -1) = g := by rw [if_pos hf, h4]
  have w1 := wk1 V 0
  have ex : (if s = 0 then ρ 25 b else ρ 26 b) = (if s = 0 then (te τ b).1 else (te τ b).2.1) := by rw [T.1, T.2]
  have ey : (if 1 - s = 0 then ρ 25 b else ρ 26 b) = (if s = 0 then (te τ b).2.1 else (te τ b).1) := by
    rw [T.1, T.2]
    by_cases z : s = 0
    · rw [if_pos z, if_neg (by omega)]
    · rw [if_neg z, if_pos (by omega)]
  refine CT_of (by decide +kernel) rfl (Nat.le_of_ble_eq_true rfl) ?_
  refine J_aload_n (M := mX7_countSide) dX7_countSide_0 rfl rfl ?_
  refine J_aload_n (M := mX7_countSide) dX7_countSide_1 rfl rfl ?_
  first | refine Z_some (M := mX7_countSide) (by omega) ?_ | skip
  refine J_iload_n (M := mX7_countSide) dX7_countSide_2 rfl rfl ?_
  refine J_callV (M := mX7_countSide) (as := [_]) dX7_countSide_3 ca_X7_155 ⟨by decide, by decide⟩ (hk_13 (by first | exact rfl | assumption | exact Or.inl (by assumption) | exact Or.inr rfl | (show 0 ≤ _ ∧ _ < _; omega))) rfl (Nat.le_of_ble_eq_true rfl) (k' := 0) (n' := 0) (by decide) (by decide) (kX0_fencerAt (by unfold rg; omega) g2) (fun v_3 h_3 hv_3 => ?_)
  obtain ⟨r_3, rfl, hv_3⟩ := hv_3
  obtain ⟨rfl, e_3⟩ := hv_3
  rw [e_3]
  refine Z_eq (M := mX7_countSide) hg.symm ?_
  refine J_callV (M := mX7_countSide) (as := [_]) dX7_countSide_6 ca_X7_70 ⟨by decide, by decide⟩ (hk_1 (by first | exact rfl | assumption | exact Or.inl (by assumption) | exact Or.inr rfl | (show 0 ≤ _ ∧ _ < _; omega))) rfl (Nat.le_of_ble_eq_true rfl) (k' := 0) (n' := 0) (by decide) (by decide) (kX7_fencerAt V (by unfold rg; omega)) (fun v_6 h_6 hv_6 => ?_)
  obtain ⟨r_6, rfl, hv_6⟩ := hv_6
  obtain ⟨rfl, e_6⟩ := hv_6
  rw [e_6]
  refine Z_rfe (M := mX7_countSide) ha ?_
  refine J_astore_n (M := mX7_countSide) dX7_countSide_9 rfl (by decide) ?_
  refine J_aload_n (M := mX7_countSide) dX7_countSide_10 rfl rfl ?_
  first | refine Z_some (M := mX7_countSide) (by omega) ?_ | skip
  first | refine Z_uns (M := mX7_countSide) (by omega) ?_ | skip
  refine K_ifnull (tgt := 49) dX7_countSide_11 (by decide) (fun c_11 => ?_) (fun c_11 => ?_)
  · omega
  · refine J_aload_n (M := mX7_countSide) dX7_countSide_14 rfl rfl ?_
    first | refine Z_some (M := mX7_countSide) (by omega) ?_ | skip
    refine J_aload_n (M := mX7_countSide) dX7_countSide_15 rfl rfl ?_
    first | refine Z_some (M := mX7_countSide) (by omega) ?_ | skip
    refine J_getf (M := mX7_countSide) dX7_countSide_16 fi_X7_254 (hk_13 (by first | exact rfl | assumption | exact Or.inl (by assumption) | exact Or.inr rfl | (show 0 ≤ _ ∧ _ < _; omega))) rfl ?_
    refine J_iload_n (M := mX7_countSide) dX7_countSide_19 rfl rfl ?_
    refine J_callV (M := mX7_countSide) (as := [_]) dX7_countSide_20 ca_X7_257 ⟨by decide, by decide⟩ (hk_15 (by first | exact rfl | assumption | exact Or.inl (by assumption) | exact Or.inr rfl | (show 0 ≤ _ ∧ _ < _; omega))) rfl (Nat.le_of_ble_eq_true rfl) (k' := 0) (n' := 0) (by decide) (by decide) (kX5_of (by unfold rg; omega) e15) (fun v_20 h_20 hv_20 => ?_)
    obtain ⟨r_20, rfl, hv_20⟩ := hv_20
    obtain ⟨rfl, e_20⟩ := hv_20
    rw [e_20]
    refine Z_eq (M := mX7_countSide) ex ?_
    refine J_aload_n (M := mX7_countSide) dX7_countSide_23 rfl rfl ?_
    first | refine Z_some (M := mX7_countSide) (by omega) ?_ | skip
    refine J_getf (M := mX7_countSide) dX7_countSide_24 fi_X7_254 (hk_13 (by first | exact rfl | assumption | exact Or.inl (by assumption) | exact Or.inr rfl | (show 0 ≤ _ ∧ _ < _; omega))) rfl ?_
    refine Z_iconst (M := mX7_countSide) dX7_countSide_27 ?_
    refine J_iload_n (M := mX7_countSide) dX7_countSide_28 rfl rfl ?_
    refine Z_isub (M := mX7_countSide) dX7_countSide_29 ?_
    refine J_callV (M := mX7_countSide) (as := [_]) dX7_countSide_30 ca_X7_257 ⟨by decide, by decide⟩ (hk_15 (by first | exact rfl | assumption | exact Or.inl (by assumption) | exact Or.inr rfl | (show 0 ≤ _ ∧ _ < _; omega))) rfl (Nat.le_of_ble_eq_true rfl) (k' := 0) (n' := 0) (by decide) (by decide) (kX5_of (by unfold rg; omega) e15) (fun v_30 h_30 hv_30 => ?_)
    obtain ⟨r_30, rfl, hv_30⟩ := hv_30
    obtain ⟨rfl, e_30⟩ := hv_30
    rw [e_30]
    refine Z_eq (M := mX7_countSide) ey ?_
    refine Z_bj (M := mX7_countSide) (pcB := 46) ((te τ b).2.2 = s) (fun hj_46 => ?_) ?_
    · refine J_aload_n (M := mX7_countSide) dX7_countSide_33 rfl rfl ?_
      first | refine Z_some (M := mX7_countSide) (by omega) ?_ | skip
      refine J_callV (M := mX7_countSide) (as := []) dX7_countSide_34 ca_X7_349 ⟨by decide, by decide⟩ (hk_13 (by first | exact rfl | assumption | exact Or.inl (by assumption) | exact Or.inr rfl | (show 0 ≤ _ ∧ _ < _; omega))) rfl (Nat.le_of_ble_eq_true rfl) (k' := 0) (n' := 0) (by decide) (by decide) (kX0_winningSide V W g2 g4 g5 T) (fun v_34 h_34 hv_34 => ?_)
      obtain ⟨r_34, rfl, hv_34⟩ := hv_34
      obtain ⟨rfl, e_34⟩ := hv_34
      rw [e_34]
      refine J_iload_n (M := mX7_countSide) dX7_countSide_37 rfl rfl ?_
      refine Z_ic_ne (M := mX7_countSide) (tgt := 45) (by first | assumption | exact pI_rg _ | (unfold rg; omega)) (by first | assumption | exact pI_rg _ | (unfold rg; omega)) dX7_countSide_38 (by decide) (fun c_38 => ?_) (fun c_38 => ?_)
      · refine Z_iconst (M := mX7_countSide) dX7_countSide_45 ?_
        exact hj_46 _ (pI_f (by omega)).symm
      · refine Z_iconst (M := mX7_countSide) dX7_countSide_41 ?_
        refine J_goto (M := mX7_countSide) (tgt := 46) dX7_countSide_42 (by decide) ?_
        exact hj_46 _ (pI_t (by omega)).symm
    refine J_callV (M := mX7_countSide) (as := [_, _, _]) dX7_countSide_46 ca_X7_359 ⟨by decide, by decide⟩ (hk_11 (by first | exact rfl | assumption | exact Or.inl (by assumption) | exact Or.inr rfl | (show 0 ≤ _ ∧ _ < _; omega))) rfl (Nat.le_of_ble_eq_true rfl) (k' := 0) (n' := 0) (by decide) (by decide) (kX1_add (show 0 ≤ _ ∧ _ < _ by omega)) (fun v_46 h_46 hv_46 => ?_)
    obtain ⟨r_46, rfl, hv_46⟩ := hv_46
    obtain ⟨rfl, e_46⟩ := hv_46
    rw [e_46]
    refine K_vret dX7_countSide_49 rfl ?_
    exact And.intro rfl rfl

set_option maxRecDepth 100000 in
set_option maxHeartbeats 4000000 in
theorem cp_1 {X : GX} {h : LH} {ρ τ : TS} {k n : Nat} {Q : LO → LH → Prop} (R : RC ρ τ) (kk : ∀ r, Fr ρ r → (∀ f, 0 ≤ f → f < τ 1 0 → r 9 f = 0 ∧ r 10 f = 0 ∧ r 11 f = 0 ∧ r 12 f = 0) → J X mX7_countPools 30 [some (vR (some (1, 0))), none, none] [] (hk h r) k n Q) : ∀ (m : Nat) (i : Int) (r : TS), 0 ≤ i → i + m = τ 1 0 → Fr ρ r → (∀ f, 0 ≤ f → f < i → r 9 f = 0 ∧ r 10 f = 0 ∧ r 11 f = 0 ∧ r 12 f = 0) → J X mX7_countPools 2 [some (vR (some (1, 0))), some (vI (iI i)), none] [] (hk h r) k n Q := by
  intro m
  induction m with
  | zero =>
    intro i r h0 hi F hz
    have ei : i = τ 1 0 := by omega
    subst ei
    have V := F.2
    have e1 : r 1 0 = τ 1 0 := by rw [F.1 1 (by decide)]; exact R.2.2.1.1
    have e47 : r 47 0 = τ 1 0 := by rw [F.1 47 (by decide)]; exact R.2.2.1.2.1
    have w1 := wf1 R.1 0
    refine J_iload_n (M := mX7_countPools) dX7_countPools_2 rfl rfl ?_
    refine J_aload_n (M := mX7_countPools) dX7_countPools_3 rfl rfl ?_
    refine J_getf (M := mX7_countPools) dX7_countPools_4 fi_X7_52 (hk_1 (by first | exact rfl | assumption | exact Or.inl (by assumption) | exact Or.inr rfl | (show 0 ≤ _ ∧ _ < _; omega))) rfl ?_
    refine Z_wb (M := mX7_countPools) (g := r 1) (wk1 V) rfl (fun wb_1_3 => ?_)
    refine Z_ic_ge (M := mX7_countPools) (tgt := 30) (by first | assumption | exact pI_rg _ | (unfold rg; omega)) (by first | assumption | exact pI_rg _ | (unfold rg; omega)) dX7_countPools_7 (by decide) (fun c_7 => ?_) (fun c_7 => ?_)
    · exact J_sub (kk r F hz) (And.intro rfl trivial)
    · omega
  | succ m ih =>
    intro i r h0 hi F hz
    have V := F.2
    have e1 : r 1 0 = τ 1 0 := by rw [F.1 1 (by decide)]; exact R.2.2.1.1
    have e47 : r 47 0 = τ 1 0 := by rw [F.1 47 (by decide)]; exact R.2.2.1.2.1
    have w1 := wf1 R.1 0
    have ha : (if 0 ≤ i ∧ i < r 1 0 then r 4 i else -1) = i := by
      rw [if_pos (by omega), F.1 4 (by decide)]
      exact (R.2.2.2.1 i h0 (by omega)).1
    have F' : Fr ρ (ts (ts (ts (ts r 9 i 0) 10 i 0) 11 i 0) 12 i 0) := ⟨fun k hk => by rw [ts_n (by omega), ts_n (by omega), ts_n (by omega), ts_n (by omega)]; exact F.1 k hk, WK_ts (WK_ts (WK_ts (WK_ts V (by decide)) (by decide)) (by decide)) (by decide)⟩
    have hz' : ∀ f, 0 ≤ f → f < i + 1 → ts (ts (ts (ts r 9 i 0) 10 i 0) 11 i 0) 12 i 0 9 f = 0 ∧ ts (ts (ts (ts r 9 i 0) 10 i 0) 11 i 0) 12 i 0 10 f = 0 ∧ ts (ts (ts (ts r 9 i 0) 10 i 0) 11 i 0) 12 i 0 11 f = 0 ∧ ts (ts (ts (ts r 9 i 0) 10 i 0) 11 i 0) 12 i 0 12 f = 0 := fun f f0 f1 => by
      show (if f = i then (0 : Int) else r 9 f) = 0 ∧ (if f = i then (0 : Int) else r 10 f) = 0 ∧ (if f = i then (0 : Int) else r 11 f) = 0 ∧ (if f = i then (0 : Int) else r 12 f) = 0
      by_cases z : f = i
      · rw [if_pos z, if_pos z, if_pos z, if_pos z]; exact ⟨rfl, rfl, rfl, rfl⟩
      · rw [if_neg z, if_neg z, if_neg z, if_neg z]; exact hz f f0 (by omega)
    refine J_iload_n (M := mX7_countPools) dX7_countPools_2 rfl rfl ?_
    refine J_aload_n (M := mX7_countPools) dX7_countPools_3 rfl rfl ?_
    refine J_getf (M := mX7_countPools) dX7_countPools_4 fi_X7_52 (hk_1 (by first | exact rfl | assumption | exact Or.inl (by assumption) | exact Or.inr rfl | (show 0 ≤ _ ∧ _ < _; omega))) rfl ?_
    refine Z_wb (M := mX7_countPools) (g := r 1) (wk1 V) rfl (fun wb_1_3 => ?_)
    refine Z_ic_ge (M := mX7_countPools) (tgt := 30) (by first | assumption | exact pI_rg _ | (unfold rg; omega)) (by first | assumption | exact pI_rg _ | (unfold rg; omega)) dX7_countPools_7 (by decide) (fun c_7 => ?_) (fun c_7 => ?_)
    · omega
    · refine J_aload_n (M := mX7_countPools) dX7_countPools_10 rfl rfl ?_
      refine J_iload_n (M := mX7_countPools) dX7_countPools_11 rfl rfl ?_
      refine J_callV (M := mX7_countPools) (as := [_]) dX7_countPools_12 ca_X7_70 ⟨by decide, by decide⟩ (hk_1 (by first | exact rfl | assumption | exact Or.inl (by assumption) | exact Or.inr rfl | (show 0 ≤ _ ∧ _ < _; omega))) rfl (Nat.le_of_ble_eq_true rfl) (k' := k) (n' := n) (Nat.le_refl _) (Nat.le_refl _) (kX7_fencerAt V (by unfold rg; omega)) (fun v_12 h_12 hv_12 => ?_)
      obtain ⟨r_12, rfl, hv_12⟩ := hv_12
      obtain ⟨rfl, e_12⟩ := hv_12
      rw [e_12]
      refine Z_rfe (M := mX7_countPools) ha ?_
      refine J_astore_n (M := mX7_countPools) dX7_countPools_15 rfl (by decide) ?_
      refine J_aload_n (M := mX7_countPools) dX7_countPools_16 rfl rfl ?_
      first | refine Z_some (M := mX7_countPools) (by omega) ?_ | skip
      first | refine Z_uns (M := mX7_countPools) (by omega) ?_ | skip
      refine K_ifnull (tgt := 24) dX7_countPools_17 (by decide) (fun c_17 => ?_) (fun c_17 => ?_)
      · omega
      · refine J_aload_n (M := mX7_countPools) dX7_countPools_20 rfl rfl ?_
        first | refine Z_some (M := mX7_countPools) (by omega) ?_ | skip
        refine J_callV (M := mX7_countPools) (as := []) dX7_countPools_21 ca_X7_352 ⟨by decide, by decide⟩ (hk_11 (by first | exact rfl | assumption | exact Or.inl (by assumption) | exact Or.inr rfl | (show 0 ≤ _ ∧ _ < _; omega))) rfl (Nat.le_of_ble_eq_true rfl) (k' := k) (n' := n) (Nat.le_refl _) (Nat.le_refl _) (kX1_clear (show 0 ≤ _ ∧ _ < _ by omega)) (fun v_21 h_21 hv_21 => ?_)
        obtain ⟨r_21, rfl, hv_21⟩ := hv_21
        obtain ⟨rfl, e_21⟩ := hv_21
        rw [e_21]
        refine Z_iinc (M := mX7_countPools) dX7_countPools_24 rfl (by decide) ?_
        refine J_goto (M := mX7_countPools) (tgt := 2) dX7_countPools_27 (by decide) ?_
        exact J_sub (ih (i + 1) _ (by omega) (by omega) F' hz') (And.intro rfl (And.intro rfl trivial))

set_option maxRecDepth 100000 in
set_option maxHeartbeats 4000000 in
theorem cp_2 {X : GX} {h : LH} {ρ τ : TS} {k n : Nat} {Q : LO → LH → Prop} (R : RC ρ τ) (kk : ∀ r, Fr ρ r → SU r (sm τ) (τ 1 0) → J X mX7_countPools 77 [some (vR (some (1, 0))), none, none] [] (hk h r) k n Q) : ∀ (m i : Nat) (r : TS), (i : Int) + m = τ 9 0 → Fr ρ r → SU r (smF τ i) (τ 1 0) → J X mX7_countPools 32 [some (vR (some (1, 0))), some (vI (iI i)), none] [] (hk h r) k n Q := by
  intro m
  induction m with
  | zero =>
    intro i r hi F hz
    have ei : i = (τ 9 0).toNat := by omega
    subst ei
    have e3 : r 3 0 = τ 9 0 := by rw [F.1 3 (by decide)]; exact R.2.2.1.2.2
    have V := F.2
    have e1 : r 1 0 = τ 1 0 := by rw [F.1 1 (by decide)]; exact R.2.2.1.1
    have e47 : r 47 0 = τ 1 0 := by rw [F.1 47 (by decide)]; exact R.2.2.1.2.1
    have w1 := wf1 R.1 0
    refine J_iload_n (M := mX7_countPools) dX7_countPools_32 rfl rfl ?_
    refine J_aload_n (M := mX7_countPools) dX7_countPools_33 rfl rfl ?_
    refine J_getf (M := mX7_countPools) dX7_countPools_34 fi_X7_284 (hk_1 (by first | exact rfl | assumption | exact Or.inl (by assumption) | exact Or.inr rfl | (show 0 ≤ _ ∧ _ < _; omega))) rfl ?_
    refine Z_wb (M := mX7_countPools) (g := r 3) (wk3 V) rfl (fun wb_3_3 => ?_)
    refine Z_ic_ge (M := mX7_countPools) (tgt := 77) (by first | assumption | exact pI_rg _ | (unfold rg; omega)) (by first | assumption | exact pI_rg _ | (unfold rg; omega)) dX7_countPools_37 (by decide) (fun c_37 => ?_) (fun c_37 => ?_)
    · exact J_sub (kk r F hz) (And.intro rfl trivial)
    · omega
  | succ m ih =>
    intro i r hi F hz
    have e3 : r 3 0 = τ 9 0 := by rw [F.1 3 (by decide)]; exact R.2.2.1.2.2
    have V := F.2
    have e1 : r 1 0 = τ 1 0 := by rw [F.1 1 (by decide)]; exact R.2.2.1.1
    have e47 : r 47 0 = τ 1 0 := by rw [F.1 47 (by decide)]; exact R.2.2.1.2.1
    have w1 := wf1 R.1 0
    have W := R.1
    have w9 := wf9 W 0
    have hb := R.2.2.2.2.1 i (by omega) (by omega)
    have B0 := R.2.2.2.2.2 i (by omega) (by omega)
    have B := BB_Fr F B0
    have b1 := te_rg W i
    have w6 := wf6 W i
    have w7 := wf7 W i
    have e6 : r 6 i = i := by rw [F.1 6 (by decide)]; exact hb.1
    have e18 : r 18 i = τ 6 i := by rw [F.1 18 (by decide)]; exact hb.2.1
    have e19 : r 19 i = τ 7 i := by rw [F.1 19 (by decide)]; exact hb.2.2.1
    obtain ⟨S1, S2⟩ := smF_B W i (by omega)
    have hs1 : smF τ (i + 1) = sm1 τ (smF τ i) i := rfl
    have h4 : ∀ f, 0 ≤ f → f < τ 1 0 → r 4 f = f := fun f f0 f1 => by rw [F.1 4 (by decide)]; exact (R.2.2.2.1 f f0 f1).1
    have g2 : CE r 13 i := B.1.2.1
    have hbd : ∀ f, 0 ≤ f → f < τ 1 0 → r 9 f ≤ 140 ∧ r 10 f ≤ 140 ∧ r 11 f ≤ 1700 ∧ r 12 f ≤ 1700 := fun f f0 f1 => by
      obtain ⟨a1, a2, a3, a4⟩ := hz f f0 f1
      have := S2 f f0 (by omega)
      omega
    have p0 := pI_01 ((te τ i).2.2 = 0)
    have p1 := pI_01 ((te τ i).2.2 = 1)
    have d6 := hbd (τ 6 i) (by omega) (by omega)
    have d7 := hbd (τ 7 i) (by omega) (by omega)
    have F1 : Fr ρ (adR r (τ 6 i) (te τ i).1 (te τ i).2.1 (pI ((te τ i).2.2 = 0))) := Fr_ad F (by omega) (by omega) (by omega) (by omega) (by omega) (by omega) (by omega)
    have Z1 := SU_ad (x := (te τ i).1) (y := (te τ i).2.1) (b := pI ((te τ i).2.2 = 0)) hz (f := τ 6 i) (by omega)
    obtain ⟨q1, q2, q3, q4⟩ := adR_at (r := r) (f := τ 6 i) (x := (te τ i).1) (y := (te τ i).2.1) (b := pI ((te τ i).2.2 = 0)) (j := τ 7 i)
    have F2 : Fr ρ (adR (adR r (τ 6 i) (te τ i).1 (te τ i).2.1 (pI ((te τ i).2.2 = 0))) (τ 7 i) (te τ i).2.1 (te τ i).1 (pI ((te τ i).2.2 = 1))) := Fr_ad F1 (by rw [q1]; split <;> omega) (by rw [q2]; split <;> omega) (by rw [q3]; split <;> omega) (by rw [q4]; split <;> omega) (by omega) (by omega) (by omega)
    have Z2 := SU_ad (x := (te τ i).2.1) (y := (te τ i).1) (b := pI ((te τ i).2.2 = 1)) Z1 (f := τ 7 i) (by omega)
    have ZA : (te τ i).2.2 = -1 → SU r (smF τ (i + 1)) (τ 1 0) := fun z => by
      rw [hs1]
      unfold sm1
      rw [if_pos z]
      exact hz
    have ZB : ¬ (te τ i).2.2 = -1 → SU (adR (adR r (τ 6 i) (te τ i).1 (te τ i).2.1 (pI ((te τ i).2.2 = 0))) (τ 7 i) (te τ i).2.1 (te τ i).1 (pI ((te τ i).2.2 = 1))) (smF τ (i + 1)) (τ 1 0) := fun z => by
      rw [hs1]
      unfold sm1
      rw [if_neg z]
      exact Z2
    have B1' := BB_Fr F1 B0
    have V1 := F1.2
    have c0 : adR r (τ 6 i) (te τ i).1 (te τ i).2.1 (pI ((te τ i).2.2 = 0)) 1 0 = τ 1 0 := e1
    have c1 : adR r (τ 6 i) (te τ i).1 (te τ i).2.1 (pI ((te τ i).2.2 = 0)) 47 0 = τ 1 0 := e47
    have c4 : adR r (τ 6 i) (te τ i).1 (te τ i).2.1 (pI ((te τ i).2.2 = 0)) 4 (τ 7 i) = τ 7 i := h4 _ (by omega) (by omega)
    clear hbd d6 d7 q1 q2 q3 q4 S2 hz Z1 Z2
    refine J_iload_n (M := mX7_countPools) dX7_countPools_32 rfl rfl ?_
    refine J_aload_n (M := mX7_countPools) dX7_countPools_33 rfl rfl ?_
    refine J_getf (M := mX7_countPools) dX7_countPools_34 fi_X7_284 (hk_1 (by first | exact rfl | assumption | exact Or.inl (by assumption) | exact Or.inr rfl | (show 0 ≤ _ ∧ _ < _; omega))) rfl ?_
    refine Z_wb (M := mX7_countPools) (g := r 3) (wk3 V) rfl (fun wb_3_3 => ?_)
    refine Z_ic_ge (M := mX7_countPools) (tgt := 77) (by first | assumption | exact pI_rg _ | (unfold rg; omega)) (by first | assumption | exact pI_rg _ | (unfold rg; omega)) dX7_countPools_37 (by decide) (fun c_37 => ?_) (fun c_37 => ?_)
    · omega
    · refine J_aload_n (M := mX7_countPools) dX7_countPools_40 rfl rfl ?_
      refine J_getf (M := mX7_countPools) dX7_countPools_41 fi_X7_23 (hk_1 (by first | exact rfl | assumption | exact Or.inl (by assumption) | exact Or.inr rfl | (show 0 ≤ _ ∧ _ < _; omega))) rfl ?_
      refine J_iload_n (M := mX7_countPools) dX7_countPools_44 rfl rfl ?_
      refine Z_aald (M := mX7_countPools) dX7_countPools_45 (by decide) rfl (hk_4 (by first | exact rfl | assumption | exact Or.inl (by assumption) | exact Or.inr rfl | (show 0 ≤ _ ∧ _ < _; omega))) (by decide) (by omega) (by omega) ?_
      refine Z_req (M := mX7_countPools) (rar_at (by omega)) ?_
      refine Z_rfe (M := mX7_countPools) (sub_at ⟨by omega, by omega⟩) ?_
      refine Z_rwb (M := mX7_countPools) (g := r 6) (wk6 V) (congrArg (r 6) (z0 _ _)) (fun wb_6_11 => ?_)
      first | refine Z_some (M := mX7_countPools) (by omega) ?_ | skip
      refine Z_req (M := mX7_countPools) (congrArg (fun z => some (13, z)) e6) ?_
      refine J_astore_n (M := mX7_countPools) dX7_countPools_46 rfl (by decide) ?_
      refine J_aload_n (M := mX7_countPools) dX7_countPools_47 rfl rfl ?_
      first | refine Z_some (M := mX7_countPools) (by omega) ?_ | skip
      first | refine Z_uns (M := mX7_countPools) (by omega) ?_ | skip
      refine K_ifnull (tgt := 71) dX7_countPools_48 (by decide) (fun c_48 => ?_) (fun c_48 => ?_)
      · omega
      · refine J_aload_n (M := mX7_countPools) dX7_countPools_51 rfl rfl ?_
        first | refine Z_some (M := mX7_countPools) (by omega) ?_ | skip
        refine J_callV (M := mX7_countPools) (as := []) dX7_countPools_52 ca_X7_349 ⟨by decide, by decide⟩ (hk_13 (by first | exact rfl | assumption | exact Or.inl (by assumption) | exact Or.inr rfl | (show 0 ≤ _ ∧ _ < _; omega))) rfl (Nat.le_of_ble_eq_true rfl) (k' := k) (n' := n) (Nat.le_refl _) (Nat.le_refl _) (kX0_winningSide V W g2 B.1.2.2.2.1 B.1.2.2.2.2.1 B.2.1) (fun v_52 h_52 hv_52 => ?_)
        obtain ⟨r_52, rfl, hv_52⟩ := hv_52
        obtain ⟨rfl, e_52⟩ := hv_52
        rw [e_52]
        refine Z_iconst (M := mX7_countPools) dX7_countPools_55 ?_
        refine Z_ic_eq (M := mX7_countPools) (tgt := 71) (by first | assumption | exact pI_rg _ | (unfold rg; omega)) (by first | assumption | exact pI_rg _ | (unfold rg; omega)) dX7_countPools_56 (by decide) (fun c_56 => ?_) (fun c_56 => ?_)
        · refine Z_iinc (M := mX7_countPools) dX7_countPools_71 rfl (by decide) ?_
          refine J_goto (M := mX7_countPools) (tgt := 32) dX7_countPools_74 (by decide) ?_
          first
            | exact J_sub (ih (i + 1) _ (by omega) F (ZA (by assumption))) (And.intro rfl (And.intro (vz (by push_cast; omega)) trivial))
            | exact J_sub (ih (i + 1) _ (by omega) F2 (ZB (by assumption))) (And.intro rfl (And.intro (vz (by push_cast; omega)) trivial))
        · refine J_aload_n (M := mX7_countPools) dX7_countPools_59 rfl rfl ?_
          refine J_aload_n (M := mX7_countPools) dX7_countPools_60 rfl rfl ?_
          first | refine Z_some (M := mX7_countPools) (by omega) ?_ | skip
          refine Z_iconst (M := mX7_countPools) dX7_countPools_61 ?_
          refine J_callV (M := mX7_countPools) (as := [_, _]) dX7_countPools_62 ca_X7_355 ⟨by decide, by decide⟩ (hk_1 (by first | exact rfl | assumption | exact Or.inl (by assumption) | exact Or.inr rfl | (show 0 ≤ _ ∧ _ < _; omega))) rfl (Nat.le_of_ble_eq_true rfl) (k' := k) (n' := n) (Nat.le_refl _) (Nat.le_refl _) (kX7_countSide (g := τ 6 i) V W (by decide) B (by rw [if_pos rfl, e18]) (by omega) (h4 _ (by omega) (by omega)) (by omega)) (fun v_62 h_62 hv_62 => ?_)
          obtain ⟨r_62, rfl, hv_62⟩ := hv_62
          obtain ⟨rfl, e_62⟩ := hv_62
          rw [e_62]
          rw [if_pos rfl, if_pos rfl]
          refine J_aload_n (M := mX7_countPools) dX7_countPools_65 rfl rfl ?_
          refine J_aload_n (M := mX7_countPools) dX7_countPools_66 rfl rfl ?_
          first | refine Z_some (M := mX7_countPools) (by omega) ?_ | skip
          refine Z_iconst (M := mX7_countPools) dX7_countPools_67 ?_
          refine J_callV (M := mX7_countPools) (as := [_, _]) dX7_countPools_68 ca_X7_355 ⟨by decide, by decide⟩ (hk_1 (by first | exact rfl | assumption | exact Or.inl (by assumption) | exact Or.inr rfl | (show 0 ≤ _ ∧ _ < _; omega))) rfl (Nat.le_of_ble_eq_true rfl) (k' := k) (n' := n) (Nat.le_refl _) (Nat.le_refl _) (kX7_countSide (g := τ 7 i) V1 W (by decide) B1' (by rw [if_neg (by decide)]; exact e19.symm) (by omega) c4 (by omega)) (fun v_68 h_68 hv_68 => ?_)
          obtain ⟨r_68, rfl, hv_68⟩ := hv_68
          obtain ⟨rfl, e_68⟩ := hv_68
          rw [e_68]
          rw [if_neg (by decide), if_neg (by decide)]
          refine Z_iinc (M := mX7_countPools) dX7_countPools_71 rfl (by decide) ?_
          refine J_goto (M := mX7_countPools) (tgt := 32) dX7_countPools_74 (by decide) ?_
          first
            | exact J_sub (ih (i + 1) _ (by omega) F (ZA (by assumption))) (And.intro rfl (And.intro (vz (by push_cast; omega)) trivial))
            | exact J_sub (ih (i + 1) _ (by omega) F2 (ZB (by assumption))) (And.intro rfl (And.intro (vz (by push_cast; omega)) trivial))

set_option maxRecDepth 100000 in
set_option maxHeartbeats 4000000 in
theorem kX7_countPools {X : GX} {h : LH} {ρ τ : TS} (R : RC ρ τ) : CK X mX7_countPools [vR (some (1, 0))] h ρ (fun v r => v = none ∧ Fr ρ r ∧ SU r (sm τ) (τ 1 0)) := by
  have V := R.2.1
  have F0 : Fr ρ ρ := ⟨fun _ _ => rfl, V⟩
  have w1 := wf1 R.1 0
  have w9 := wf9 R.1 0
  refine CT_of (by decide +kernel) rfl (Nat.le_of_ble_eq_true rfl) ?_
  refine Z_iconst (M := mX7_countPools) dX7_countPools_0 ?_
  refine J_istore_n (M := mX7_countPools) dX7_countPools_1 rfl (by decide) ?_
  refine cp_1 R (fun r F hz => ?_) (τ 1 0).toNat 0 ρ (by omega) (by show 0 + _ = τ 1 0; omega) F0 (fun f a b => by omega)
  have V := F.2
  refine Z_iconst (M := mX7_countPools) dX7_countPools_30 ?_
  refine J_istore_n (M := mX7_countPools) dX7_countPools_31 rfl (by decide) ?_
  have hz0 : SU r (smF τ 0) (τ 1 0) := fun f f0 f1 => by
    have e : ∀ k, 29 ≤ k ∧ k ≤ 32 → smF τ 0 k f = 0 := fun k hk => by
      show zr τ 12 k f = 0
      unfold zr
      rw [if_pos hk]
      exact if_pos (by omega)
    rw [e 29 (by decide), e 30 (by decide), e 31 (by decide), e 32 (by decide)]
    exact hz f f0 f1
  refine cp_2 R (fun r2 F2 hz2 => ?_) (τ 9 0).toNat 0 r (by omega) F hz0
  refine K_vret dX7_countPools_77 rfl ?_
  exact ⟨rfl, F2, hz2⟩
