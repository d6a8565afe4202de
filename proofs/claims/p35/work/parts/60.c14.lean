/-! THE CLASS: test and fail -/
theorem RR_mark {ρ τ : TS} {c w : Int} (R : RR ρ τ c) (hw : 0 ≤ w ∧ w ≤ τ 5 0 - 1) (h3 : ¬ τ 3 w = 2) : RR (ts ρ 15 w 1) (ts τ 3 w 1) c := by
  obtain ⟨W, V, ⟨⟨a1, a2, a3, a4, a5, a6, a7, a8⟩, b1, b2, b3, b4, b5, b6⟩, S, Q, F⟩ := R
  have ek : ∀ k, ¬ k = 15 → ts ρ 15 w 1 k = ρ k := fun k hk => ts_n hk
  have et : ∀ k, ¬ k = 3 → ts τ 3 w 1 k = τ k := fun k hk => ts_n hk
  have W' : WF (ts τ 3 w 1) := WF_ts W (by decide)
  have V' : WK (ts ρ 15 w 1) := WK_ts V (by decide)
  have ht : tch (ts τ 3 w 1) = tch τ := by
    have key : ∀ u s, stk (ts τ 3 w 1) u s ↔ stk τ u s := fun u s => by
      have e : ts τ 3 w 1 3 u = if u = w then 1 else τ 3 u := by rw [ts_s]; rfl
      unfold stk
      rw [e, et 4 (by decide)]
      by_cases z : u = w
      · rw [if_pos z, z]
        constructor
        · intro y; exact absurd y.1 (by decide)
        · intro y; exact absurd y.1 h3
      · rw [if_neg z]
    funext s n
    unfold tch
    rw [jd_k2 (et 0 (by decide)) (fun k hk => et k (by omega)), et 13 (by decide)]
    congr 1
    · congr 1
      by_cases z : stk τ (τ 13 (2 * (12 * s + n))) s
      · rw [if_pos z, if_pos ((key _ _).mpr z)]
      · rw [if_neg z, if_neg (fun y => z ((key _ _).mp y))]
    · by_cases z : stk τ (τ 13 (2 * (12 * s + n) + 1)) s
      · rw [if_pos z, if_pos ((key _ _).mpr z)]
      · rw [if_neg z, if_neg (fun y => z ((key _ _).mp y))]
  have hte : te (ts τ 3 w 1) = te τ := by
    funext s
    exact te_eq ht (by rw [et 10 (by decide)])
  refine ⟨W', V', ⟨?_, ?_, ?_, ?_, ?_, ?_, ?_⟩, ?_, ?_, ?_⟩
  · exact ⟨a1, a2, a3, a4, a5, a6, a7, a8⟩
  · exact b1
  · exact b2
  · exact b3
  · exact b4
  · exact b5
  · exact b6
  · obtain ⟨s3, s4, s5, s6, s7, s8, s9, s10, s11, s13⟩ := S
    have hf : fwin (ts τ 3 w 1) = fwin τ := by funext k; unfold fwin; rw [hte, et 22 (by decide)]
    unfold SN LVb
    rw [et 21 (by decide), et 9 (by decide), et 22 (by decide), et 24 (by decide), et 10 (by decide), et 17 (by decide), ek 43 (by decide), ek 44 (by decide), ek 7 (by decide), ek 46 (by decide), ek 18 (by decide), ek 19 (by decide), hf]
    refine ⟨s3, s4, fun b hb => ?_, s6, s7, s8, s9, s10, s11, ?_⟩
    · obtain ⟨⟨g1, g2, g3, g4, g5, g6⟩, ⟨x1, x2⟩, x3, x4⟩ := s5 b hb
      unfold BB BR TL
      rw [hte, ek 48 (by decide), ek 17 (by decide), ek 24 (by decide), ek 20 (by decide), ek 23 (by decide), ek 36 (by decide), ek 25 (by decide), ek 26 (by decide), ek 21 (by decide), ek 22 (by decide), et 10 (by decide), et 11 (by decide), jd_k2 (et 0 (by decide)) (fun k hk => et k (by omega))]
      exact ⟨⟨g1, g2, g3, g4, g5, fun j j0 j1 => ⟨PH_k (g6 j j0 j1).1 rfl (fun k hk => ek k (by omega)) rfl (et 0 (by decide)) (fun k hk => et k (by omega)), (g6 j j0 j1).2⟩⟩, ⟨x1, x2⟩, x3, x4⟩
    · intro u u0 u1
      have q := s13 u u0 u1
      have e1 : ts ρ 15 w 1 15 u = if u = w then 1 else ρ 15 u := by rw [ts_s]; rfl
      have e2 : ts τ 3 w 1 3 u = if u = w then 1 else τ 3 u := by rw [ts_s]; rfl
      rw [e1, e2, ek 16 (by decide), et 4 (by decide)]
      by_cases z : u = w
      · rw [if_pos z, if_pos z]
        refine ⟨rfl, q.2.1, fun y => absurd (q.2.2 y) (by rw [z]; exact h3)⟩
      · rw [if_neg z, if_neg z]
        exact q
  · refine ⟨fun q => ?_, fun q => ?_⟩
    · exact Q.1 q
    · obtain ⟨q1, q2, q3, q4, q5, q6, q7⟩ := Q.2 q
      exact ⟨q1, q2, q3, q4, q5, PH_k q6 rfl (fun k hk => ek k (by omega)) rfl (et 0 (by decide)) (fun k hk => et k (by omega)), q7⟩
  · exact F
theorem SR_fail {ρ τ : TS} {c w q : Int} (R : RR ρ τ c) (hoff : τ 19 0 = 0) (hw : 0 ≤ w ∧ w ≤ τ 5 0 - 1) (hq : q = 0 ∨ q = 1) :
    WF (ts (ts τ 3 w 2) 4 w q) ∧ WK (ts (ts ρ 15 w 2) 16 w q) ∧ WR (ts (ts ρ 15 w 2) 16 w q) (ts (ts τ 3 w 2) 4 w q) ∧ (∀ b, LVb τ b → BR (ts (ts ρ 15 w 2) 16 w q) (ts (ts τ 3 w 2) 4 w q) b) ∧
    B1 (rct (rct (ts (ts ρ 15 w 2) 16 w q) (ts (ts τ 3 w 2) 4 w q) 0 (τ 9 0)) (ts (ts τ 3 w 2) 4 w q) 67 (66 + τ 21 0)) (ts (ts τ 3 w 2) 4 w q) c ∧
    FRE (rct (rct (ts (ts ρ 15 w 2) 16 w q) (ts (ts τ 3 w 2) 4 w q) 0 (τ 9 0)) (ts (ts τ 3 w 2) 4 w q) 67 (66 + τ 21 0)) (ts (ts τ 3 w 2) 4 w q) ∧
    SR (rct (rct (ts (ts ρ 15 w 2) 16 w q) (ts (ts τ 3 w 2) 4 w q) 0 (τ 9 0)) (ts (ts τ 3 w 2) 4 w q) 67 (66 + τ 21 0)) (ts (ts τ 3 w 2) 4 w q) (τ 21 0 - 1) 0 := by
  obtain ⟨W, V, ⟨⟨a1, a2, a3, a4, a5, a6, a7, a8⟩, b1, b2, b3, b4, b5, b6⟩, S, Q, F⟩ := R
  obtain ⟨s3, s4, s5, s6, s7, s8, s9, s10, s11, s13⟩ := S
  have w9 := wf9 W 0
  obtain ⟨t, ht⟩ : ∃ t, t = ts (ts τ 3 w 2) 4 w q := ⟨_, rfl⟩
  obtain ⟨u, hu⟩ : ∃ u, u = ts (ts ρ 15 w 2) 16 w q := ⟨_, rfl⟩
  rw [← ht, ← hu]
  have W' : WF t := by rw [ht]; exact WF_ts (WF_ts W (by decide)) (show (0 : Int) ≤ _ ∧ _ ≤ (1 : Int) by omega)
  have V' : WK u := by rw [hu]; exact WK_ts (WK_ts V (by decide)) (show (0 : Int) ≤ _ ∧ _ ≤ (1 : Int) by omega)
  have et : ∀ k, ¬ k = 3 ∧ ¬ k = 4 → t k = τ k := fun k hk => by rw [ht, ts_n (by omega), ts_n (by omega)]
  have ek : ∀ k, ¬ k = 15 ∧ ¬ k = 16 → u k = ρ k := fun k hk => by rw [hu, ts_n (by omega), ts_n (by omega)]
  have t3 : ∀ i, t 3 i = if i = w then 2 else τ 3 i := fun i => by rw [ht, tsN (by decide), ts_s]; rfl
  have t4 : ∀ i, t 4 i = if i = w then q else τ 4 i := fun i => by rw [ht, ts_s]; rfl
  have u15 : ∀ i, u 15 i = if i = w then 2 else ρ 15 i := fun i => by rw [hu, tsN (by decide), ts_s]; rfl
  have u16 : ∀ i, u 16 i = if i = w then q else ρ 16 i := fun i => by rw [hu, ts_s]; rfl
  have hWR : WR u t := by
    intro i i0 i1
    rw [ek 47 (by decide)] at i1
    have z := s13 i i0 i1
    rw [u15, u16, t3, t4]
    by_cases y : i = w
    · rw [if_pos y, if_pos y, if_pos y, if_pos y]
      exact ⟨rfl, rfl, fun _ => rfl⟩
    · rw [if_neg y, if_neg y, if_neg y, if_neg y]
      exact z
  have hj : jd t = jd τ := jd_k2 (et 0 (by decide)) (fun k hk => et k (by omega))
  have hP : ∀ p f, PH ρ τ p f → PH u t p f := fun p f P => PH_k P (ek 47 (by decide)) (fun k hk => ek k (by omega)) (ek 49 (by decide)) (et 0 (by decide)) (fun k hk => et k (by omega))
  have hBR : ∀ b, LVb τ b → BR u t b := fun b hb => by
    obtain ⟨⟨g1, g2, g3, g4, g5, g6⟩, -⟩ := s5 b hb
    unfold BR
    rw [hj, ek 48 (by decide), ek 17 (by decide), ek 24 (by decide), ek 20 (by decide), ek 23 (by decide), ek 36 (by decide), et 10 (by decide)]
    exact ⟨g1, g2, g3, g4, g5, fun j j0 j1 => ⟨hP _ _ (g6 j j0 j1).1, (g6 j j0 j1).2⟩⟩
  obtain ⟨r, hr⟩ : ∃ r, r = rct (rct u t 0 (τ 9 0)) t 67 (66 + τ 21 0) := ⟨_, rfl⟩
  have rk : ∀ k, ¬ k = 25 ∧ ¬ k = 26 → r k = u k := fun k hk => by
    rw [hr]
    unfold rct
    rw [fs_n (by omega), fs_n (by omega), fs_n (by omega), fs_n (by omega)]
  have rk2 : ∀ k, ¬ k = 25 ∧ ¬ k = 26 ∧ ¬ k = 15 ∧ ¬ k = 16 → r k = ρ k := fun k hk => (rk k (by omega)).trans (ek k (by omega))
  have Vr : WK r := by rw [hr]; exact WK_rct (WK_rct V' W') W'
  have hTL : ∀ b, LVb τ b → TL r t b := fun b hb => by
    have e25 : r 25 b = wg (wg (u 25) (fun z => (te t z).1) 0 (τ 9 0)) (fun z => (te t z).1) 67 (66 + τ 21 0) b := by
      rw [hr]
      unfold rct
      rw [fs_n (by decide), fs_s, fs_n (by decide), fs_s]
    have e26 : r 26 b = wg (wg (u 26) (fun z => (te t z).2.1) 0 (τ 9 0)) (fun z => (te t z).2.1) 67 (66 + τ 21 0) b := by
      rw [hr]
      unfold rct
      rw [fs_s, fs_s]
    unfold TL
    rw [e25, e26]
    unfold wg
    unfold LVb at hb
    by_cases y : 67 ≤ b ∧ b < 66 + τ 21 0
    · rw [if_pos y, if_pos y]; exact ⟨rfl, rfl⟩
    · rw [if_neg y, if_neg y, if_pos (by omega), if_pos (by omega)]; exact ⟨rfl, rfl⟩
  rw [← hr]
  refine ⟨W', V', hWR, hBR, ?_, ?_, ?_⟩
  · unfold B1
    rw [rk2 0 (by decide), rk2 1 (by decide), rk2 2 (by decide), rk2 3 (by decide), rk2 4 (by decide), rk2 5 (by decide), rk2 6 (by decide), rk2 8 (by decide), rk2 13 (by decide), rk2 14 (by decide), rk2 18 (by decide), rk2 19 (by decide), rk2 47 (by decide), et 0 (by decide), et 1 (by decide), et 2 (by decide), et 5 (by decide), et 6 (by decide), et 7 (by decide), et 8 (by decide), et 9 (by decide), et 21 (by decide)]
    refine ⟨⟨a1, a2, a3, a4, a5, a6, a7, a8⟩, b1, b2, fun i hi => ?_, b4, b5, b6⟩
    rw [t4, if_neg (by omega)]
    exact b3 i hi
  · unfold FRE LVb
    rw [rk2 48 (by decide), et 9 (by decide), et 10 (by decide), et 11 (by decide), et 21 (by decide)]
    exact F
  · unfold SR LVb
    rw [rk2 43 (by decide), rk2 44 (by decide), rk2 7 (by decide), rk2 46 (by decide), rk2 18 (by decide), rk2 19 (by decide), et 9 (by decide), et 21 (by decide), et 22 (by decide), et 24 (by decide), et 17 (by decide), et 10 (by decide)]
    refine ⟨W', Vr, s3, s4, fun b hb => ?_, s6, fun k k1 k2 k3 => by omega, s8, s9, fun k k1 k2 _ => s10 k k1 k2, fun k k1 k2 _ => s11 k k1 k2, ?_, ?_⟩
    · obtain ⟨-, -, x3, x4⟩ := s5 b hb
      refine ⟨?_, hTL b hb, ?_, ?_⟩
      · obtain ⟨g1, g2, g3, g4, g5, g6⟩ := hBR b hb
        unfold BR
        rw [rk 48 (by decide), rk 17 (by decide), rk 24 (by decide), rk 20 (by decide), rk 23 (by decide), rk 36 (by decide)]
        exact ⟨g1, g2, g3, g4, g5, fun j j0 j1 => ⟨PH_k (g6 j j0 j1).1 (rk 47 (by decide)) (fun k hk => rk k (by omega)) (rk 49 (by decide)) rfl (fun _ _ => rfl), (g6 j j0 j1).2⟩⟩
      · rw [rk2 21 (by decide), et 11 (by decide)]; exact x3
      · rw [rk2 22 (by decide), et 11 (by decide)]; exact x4
    · unfold PO VB
      rw [rk2 41 (by decide), rk2 37 (by decide), rk2 38 (by decide), rk2 39 (by decide), rk2 40 (by decide), rk2 42 (by decide), rk2 47 (by decide), et 9 (by decide), et 21 (by decide), et 17 (by decide), et 18 (by decide), et 20 (by decide), et 10 (by decide)]
      exact Q.1 hoff
    · unfold WR
      rw [rk 47 (by decide), rk 15 (by decide), rk 16 (by decide)]
      exact hWR
set_option maxRecDepth 100000 in
set_option maxHeartbeats 4000000 in
theorem fl_p {X : GX} {h : LH} {ρ τ : TS} {k n : Nat} {Q : LO → LH → Prop} {w : Int} (W : WF τ) (V : WK ρ) (R : WR ρ τ) (h3 : ρ 3 0 = τ 9 0) (hb : ∀ i, 0 ≤ i → i < τ 9 0 → ρ 6 i = i ∧ BR ρ τ i) : ∀ (m : Nat) (i : Int), 0 ≤ i → i + m = τ 9 0 → J X mX7_fail 55 [some (vR (some (1, 0))), some (vR (some (12, w))), some (vI (iI (τ 9 0))), none] [] (hk h (rct ρ τ 0 (τ 9 0))) k n Q → J X mX7_fail 26 [some (vR (some (1, 0))), some (vR (some (12, w))), some (vI (iI i)), none] [] (hk h (rct ρ τ 0 i)) k n Q := by
  have w9 := wf9 W 0
  intro m
  induction m with
  | zero =>
    intro i h1 hi kk
    have ei : i = τ 9 0 := by omega
    subst ei
    refine J_iload_n (M := mX7_fail) dX7_fail_26 rfl rfl ?_
    refine J_aload_n (M := mX7_fail) dX7_fail_27 rfl rfl ?_
    refine J_getf (M := mX7_fail) dX7_fail_28 fi_X7_284 (hk_1 (by first | exact rfl | assumption | exact Or.inl (by assumption) | exact Or.inr rfl | (show 0 ≤ _ ∧ _ < _; omega))) rfl ?_
    refine Z_wb (M := mX7_fail) (g := ρ 3) (wk3 V) rfl (fun wb_3_3 => ?_)
    refine Z_ic_ge (M := mX7_fail) (tgt := 55) (by first | assumption | exact pI_rg _ | (unfold rg; omega)) (by first | assumption | exact pI_rg _ | (unfold rg; omega)) dX7_fail_31 (by decide) (fun c_31 => ?_) (fun c_31 => ?_)
    · exact J_sub kk (And.intro rfl (And.intro rfl (And.intro rfl trivial)))
    · omega
  | succ m ih =>
    intro i h1 hi kk
    obtain ⟨e6, B⟩ := hb i h1 (by omega)
    have V' : WK (rct ρ τ 0 i) := WK_rct V W
    have B' : BR (rct ρ τ 0 i) τ i := B
    have R' : WR (rct ρ τ 0 i) τ := R
    have e13 : CE (rct ρ τ 0 i) 13 i := B.2.1
    have hs := rct_s (ρ := ρ) (τ := τ) (a := 0) (i := i) (by omega)
    refine J_iload_n (M := mX7_fail) dX7_fail_26 rfl rfl ?_
    refine J_aload_n (M := mX7_fail) dX7_fail_27 rfl rfl ?_
    refine J_getf (M := mX7_fail) dX7_fail_28 fi_X7_284 (hk_1 (by first | exact rfl | assumption | exact Or.inl (by assumption) | exact Or.inr rfl | (show 0 ≤ _ ∧ _ < _; omega))) rfl ?_
    refine Z_wb (M := mX7_fail) (g := ρ 3) (wk3 V) rfl (fun wb_3_3 => ?_)
    refine Z_ic_ge (M := mX7_fail) (tgt := 55) (by first | assumption | exact pI_rg _ | (unfold rg; omega)) (by first | assumption | exact pI_rg _ | (unfold rg; omega)) dX7_fail_31 (by decide) (fun c_31 => ?_) (fun c_31 => ?_)
    · omega
    · refine J_aload_n (M := mX7_fail) dX7_fail_34 rfl rfl ?_
      refine J_getf (M := mX7_fail) dX7_fail_35 fi_X7_23 (hk_1 (by first | exact rfl | assumption | exact Or.inl (by assumption) | exact Or.inr rfl | (show 0 ≤ _ ∧ _ < _; omega))) rfl ?_
      refine J_iload_n (M := mX7_fail) dX7_fail_38 rfl rfl ?_
      refine Z_aald (M := mX7_fail) dX7_fail_39 (by decide) rfl (hk_4 (by first | exact rfl | assumption | exact Or.inl (by assumption) | exact Or.inr rfl | (show 0 ≤ _ ∧ _ < _; omega))) (by decide) (by omega) (by omega) ?_
      refine Z_req (M := mX7_fail) (rar_at (by omega)) ?_
      refine Z_rfe (M := mX7_fail) (sub_at ⟨by omega, by omega⟩) ?_
      refine Z_rwb (M := mX7_fail) (g := ρ 6) (wk6 V) (congrArg (ρ 6) (z0 _ _)) (fun wb_6_11 => ?_)
      first | refine Z_some (M := mX7_fail) (by omega) ?_ | skip
      refine Z_req (M := mX7_fail) (congrArg (fun z => some (13, z)) e6) ?_
      refine J_astore_n (M := mX7_fail) dX7_fail_40 rfl (by decide) ?_
      refine J_aload_n (M := mX7_fail) dX7_fail_41 rfl rfl ?_
      first | refine Z_some (M := mX7_fail) (by omega) ?_ | skip
      first | refine Z_uns (M := mX7_fail) (by omega) ?_ | skip
      refine K_ifnull (tgt := 49) dX7_fail_42 (by decide) (fun c_42 => ?_) (fun c_42 => ?_)
      · omega
      · refine J_aload_n (M := mX7_fail) dX7_fail_45 rfl rfl ?_
        first | refine Z_some (M := mX7_fail) (by omega) ?_ | skip
        refine J_callV (M := mX7_fail) (as := []) dX7_fail_46 ca_X7_246 ⟨by decide, by decide⟩ (hk_13 (by first | exact rfl | assumption | exact Or.inl (by assumption) | exact Or.inr rfl | (show 0 ≤ _ ∧ _ < _; omega))) rfl (Nat.le_of_ble_eq_true rfl) (k' := k) (n' := n) (Nat.le_refl _) (Nat.le_refl _) (kX0_recount W V' R' B') (fun v_46 h_46 hv_46 => ?_)
        obtain ⟨r_46, rfl, hv_46⟩ := hv_46
        obtain ⟨rfl, e_46⟩ := hv_46
        rw [e_46]
        rw [hs]
        refine Z_iinc (M := mX7_fail) dX7_fail_49 rfl (by decide) ?_
        refine J_goto (M := mX7_fail) (tgt := 26) dX7_fail_52 (by decide) ?_
        exact J_sub (ih (i + 1) (by omega) (by omega) kk) (And.intro rfl (And.intro rfl (And.intro rfl trivial)))

set_option maxRecDepth 100000 in
set_option maxHeartbeats 4000000 in
theorem kX7_fail {X : GX} {h : LH} {ρ τ : TS} {c w : Int} (R : RR ρ τ c) (hoff : τ 19 0 = 0) (hw : 0 ≤ w ∧ w ≤ τ 5 0 - 1) : CK X mX7_fail [vR (some (1, 0)), vR (some (12, w))] h ρ (fun v r => v = none ∧ RR r (fol (ts (ts τ 3 w 2) 4 w (pI (τ 21 0 = 0)))) c) := by
  have W := R.1
  have V := R.2.1
  have a0 := R.2.2.1.1
  have s3 := R.2.2.2.1.1
  have w21 := wf21 W 0
  have w9 := wf9 W 0
  have ew : CE ρ 12 w := ⟨hw.1, by omega⟩
  have V1 : WK (ts ρ 15 w 2) := WK_ts V (by decide)
  obtain ⟨W', V', hWR, hBR, hB1, hFR, hSR⟩ := SR_fail R hoff hw (pI_01 (τ 21 0 = 0))
  have hL : (τ 21 0 = 0 ↔ ¬ 0 < ts ρ 15 w 2 43 0) := by
    show τ 21 0 = 0 ↔ ¬ 0 < ρ 43 0
    omega
  have hb : ∀ i, 0 ≤ i → i < τ 9 0 → ts (ts ρ 15 w 2) 16 w (pI (τ 21 0 = 0)) 6 i = i ∧ BR (ts (ts ρ 15 w 2) 16 w (pI (τ 21 0 = 0))) (ts (ts τ 3 w 2) 4 w (pI (τ 21 0 = 0))) i := fun i i0 i1 => ⟨(R.2.2.1.2.2.2.2.1 i i0 i1).1, hBR i (Or.inl ⟨i0, i1⟩)⟩
  have hn : ∀ i, 1 ≤ i → i < ρ 43 0 → ρ 7 i = 66 + i ∧ BR (ts (ts ρ 15 w 2) 16 w (pI (τ 21 0 = 0))) (ts (ts τ 3 w 2) 4 w (pI (τ 21 0 = 0))) (66 + i) := fun i i0 i1 => ⟨R.2.2.2.1.2.1 i i0 (by omega), hBR _ (Or.inr (by omega))⟩
  have hl := fl_p (X := X) (h := h) (w := w) (k := (mR mX7_fail).cells) (n := (mR mX7_fail).slots) (Q := QK h (fun v r => v = none ∧ RR r (fol (ts (ts τ 3 w 2) 4 w (pI (τ 21 0 = 0)))) c)) W' V' hWR a0.2.2.2.2.2.1 hb (τ 9 0).toNat 0 (by omega) (by show 0 + _ = τ 9 0; omega)
  rw [rct_0 (Int.le_refl 0)] at hl
  refine CT_of (by decide +kernel) rfl (Nat.le_of_ble_eq_true rfl) ?_
  refine J_aload_n (M := mX7_fail) dX7_fail_0 rfl rfl ?_
  first | refine Z_some (M := mX7_fail) (by omega) ?_ | skip
  refine Z_iconst (M := mX7_fail) dX7_fail_1 ?_
  refine J_putI (M := mX7_fail) dX7_fail_2 fi_X7_98 (hk_12 (by first | exact rfl | assumption | exact Or.inl (by assumption) | exact Or.inr rfl | (show 0 ≤ _ ∧ _ < _; omega))) (Nat.le_of_ble_eq_true rfl) ?_
  refine Z_h (M := mX7_fail) (hkp_15 (by first | exact rfl | assumption | exact Or.inl (by assumption) | exact Or.inr rfl | (show 0 ≤ _ ∧ _ < _; omega))) ?_
  refine J_aload_n (M := mX7_fail) dX7_fail_5 rfl rfl ?_
  first | refine Z_some (M := mX7_fail) (by omega) ?_ | skip
  refine Z_bj (M := mX7_fail) (pcB := 21) (τ 21 0 = 0) (fun hj_21 => ?_) ?_
  · refine J_aload_n (M := mX7_fail) dX7_fail_6 rfl rfl ?_
    refine J_getf (M := mX7_fail) dX7_fail_7 fi_X7_37 (hk_1 (by first | exact rfl | assumption | exact Or.inl (by assumption) | exact Or.inr rfl | (show 0 ≤ _ ∧ _ < _; omega))) rfl ?_
    refine J_callV (M := mX7_fail) (as := []) dX7_fail_10 ca_X7_306 ⟨by decide, by decide⟩ (hk_6 (by first | exact rfl | assumption | exact Or.inl (by assumption) | exact Or.inr rfl | (show 0 ≤ _ ∧ _ < _; omega))) rfl (Nat.le_of_ble_eq_true rfl) (k' := 0) (n' := 0) (by decide) (by decide) (kX4_isDrawn V1) (fun v_10 h_10 hv_10 => ?_)
    obtain ⟨r_10, rfl, hv_10⟩ := hv_10
    obtain ⟨rfl, e_10⟩ := hv_10
    rw [e_10]
    first
      | refine Z_pt (M := mX7_fail) (tgt := 20) dX7_fail_13 (by decide) (fun c_13 => ?_) (fun c_13 => ?_)
      | refine Z_if_ne (M := mX7_fail) (tgt := 20) (by first | assumption | exact pI_rg _ | (unfold rg; omega)) dX7_fail_13 (by decide) (fun c_13 => ?_) (fun c_13 => ?_)
    · refine Z_iconst (M := mX7_fail) dX7_fail_20 ?_
      exact hj_21 _ (pI_f (by first | exact hL.mpr (by assumption) | exact fun z => (hL.mp z) (by assumption))).symm
    · refine Z_iconst (M := mX7_fail) dX7_fail_16 ?_
      refine J_goto (M := mX7_fail) (tgt := 21) dX7_fail_17 (by decide) ?_
      exact hj_21 _ (pI_t (by first | exact hL.mpr (by assumption) | exact fun z => (hL.mp z) (by assumption))).symm
  refine J_putZ (M := mX7_fail) dX7_fail_21 fi_X7_335 (by first | exact pI_zb _ | exact zb_of (Or.inl rfl) | exact zb_of (Or.inr rfl) | exact zb_of (by omega)) (hk_12 (by first | exact rfl | assumption | exact Or.inl (by assumption) | exact Or.inr rfl | (show 0 ≤ _ ∧ _ < _; omega))) (Nat.le_of_ble_eq_true rfl) ?_
  refine Z_h (M := mX7_fail) (hkp_16 (by first | exact rfl | assumption | exact Or.inl (by assumption) | exact Or.inr rfl | (show 0 ≤ _ ∧ _ < _; omega))) ?_
  refine Z_iconst (M := mX7_fail) dX7_fail_24 ?_
  refine J_istore_n (M := mX7_fail) dX7_fail_25 rfl (by decide) ?_
  refine J_sub (M := mX7_fail) (hl ?_) (And.intro rfl (And.intro rfl (And.intro rfl trivial)))
  refine J_aload_n (M := mX7_fail) dX7_fail_55 rfl rfl ?_
  refine J_getf (M := mX7_fail) dX7_fail_56 fi_X7_37 (hk_1 (by first | exact rfl | assumption | exact Or.inl (by assumption) | exact Or.inr rfl | (show 0 ≤ _ ∧ _ < _; omega))) rfl ?_
  refine J_callV (M := mX7_fail) (as := []) dX7_fail_59 ca_X7_338 ⟨by decide, by decide⟩ (hk_6 (by first | exact rfl | assumption | exact Or.inl (by assumption) | exact Or.inr rfl | (show 0 ≤ _ ∧ _ < _; omega))) rfl (Nat.le_of_ble_eq_true rfl) (k' := 0) (n' := 0) (by decide) (by decide) (kX4_recount W' (WK_rct V' W') hWR hn) (fun v_59 h_59 hv_59 => ?_)
  obtain ⟨r_59, rfl, hv_59⟩ := hv_59
  obtain ⟨rfl, e_59⟩ := hv_59
  rw [e_59]
  rw [show rct (ts (ts ρ 15 w 2) 16 w (pI (τ 21 0 = 0))) (ts (ts τ 3 w 2) 4 w (pI (τ 21 0 = 0))) 0 (ts (ts τ 3 w 2) 4 w (pI (τ 21 0 = 0)) 9 0) 43 0 = τ 21 0 from s3.1]
  refine J_aload_n (M := mX7_fail) dX7_fail_62 rfl rfl ?_
  refine J_getf (M := mX7_fail) dX7_fail_63 fi_X7_37 (hk_1 (by first | exact rfl | assumption | exact Or.inl (by assumption) | exact Or.inr rfl | (show 0 ≤ _ ∧ _ < _; omega))) rfl ?_
  refine J_aload_n (M := mX7_fail) dX7_fail_66 rfl rfl ?_
  refine J_getf (M := mX7_fail) dX7_fail_67 fi_X7_30 (hk_1 (by first | exact rfl | assumption | exact Or.inl (by assumption) | exact Or.inr rfl | (show 0 ≤ _ ∧ _ < _; omega))) rfl ?_
  refine J_callV (M := mX7_fail) (as := [_]) dX7_fail_70 ca_X7_219 ⟨by decide, by decide⟩ (hk_6 (by first | exact rfl | assumption | exact Or.inl (by assumption) | exact Or.inr rfl | (show 0 ≤ _ ∧ _ < _; omega))) rfl (Nat.le_of_ble_eq_true rfl) (k' := 0) (n' := 0) (by decide) (by decide) (kX4_settle (τ := (ts (ts τ 3 w 2) 4 w (pI (τ 21 0 = 0)))) hSR) (fun v_70 h_70 hv_70 => ?_)
  obtain ⟨r_70, rfl, hv_70⟩ := hv_70
  obtain ⟨rfl, hS, hFr⟩ := hv_70
  refine K_vret dX7_fail_73 rfl ?_
  exact And.intro rfl (RR_fol hB1 hFR hoff W' hS hFr)

set_option maxRecDepth 100000 in
set_option maxHeartbeats 4000000 in
theorem p_test {X : GX} {h : LH} {ρ τ : TS} {c : Int} (R : RR ρ τ c) {w f m : Int} (hw : rg w) (hf : rg f) (hm : rg m) : CX X mX7_test [vR (some (1, 0)), vI (iI w), vI (iI f), vI (iI m)] h ρ (PX (gl (pI (0 ≤ w ∧ w ≤ τ 5 0 - 1)) (pI ((0 ≤ f ∧ f ≤ 2000) ∧ 0 ≤ m ∧ m ≤ 100)) (pI ((0 ≤ w ∧ w ≤ τ 5 0 - 1) ∧ ¬ τ 3 w = 2 ∧ τ 19 0 = 0))) (pI ((500 ≤ f ∧ f ≤ 770) ∧ m ≤ 15)) (fun r => RR r (fol (ts (ts τ 3 w (if ((500 ≤ f ∧ f ≤ 770) ∧ m ≤ 15) then 1 else 2)) 4 w (pI (¬ ((500 ≤ f ∧ f ≤ 770) ∧ m ≤ 15) ∧ τ 21 0 = 0)))) c)) (EM [2, 1, 0] (gl (pI (0 ≤ w ∧ w ≤ τ 5 0 - 1)) (pI ((0 ≤ f ∧ f ≤ 2000) ∧ 0 ≤ m ∧ m ≤ 100)) (pI ((0 ≤ w ∧ w ≤ τ 5 0 - 1) ∧ ¬ τ 3 w = 2 ∧ τ 19 0 = 0)))) := by
  have W := R.1
  have V := R.2.1
  have hR := run_c R
  have w3 := wf3 W w
  refine CT_of (by decide +kernel) rfl (Nat.le_of_ble_eq_true rfl) ?_
  rcases wAt_c (n := w) R with ⟨i1, i2, i3, i4, i5, i6, i7⟩ | ⟨i1, i2⟩
  · have hwr := R.2.2.2.1.2.2.2.2.2.2.2.2.2 w i1.1 i3.2
    refine J_aload_n (M := mX7_test) dX7_test_0 rfl rfl ?_
    refine J_iload_n (M := mX7_test) dX7_test_1 rfl rfl ?_
    refine J_callV (M := mX7_test) (as := [_]) dX7_test_2 ca_X7_87 ⟨by decide, by decide⟩ (hk_1 (by first | exact rfl | assumption | exact Or.inl (by assumption) | exact Or.inr rfl | (show 0 ≤ _ ∧ _ < _; omega))) rfl (Nat.le_of_ble_eq_true rfl) (k' := 1) (n' := 6) (by decide) (by decide) (kX7_weaponAt V hw) (fun v_2 h_2 hv_2 => ?_)
    obtain ⟨r_2, rfl, hv_2⟩ := hv_2
    obtain ⟨rfl, e_2⟩ := hv_2
    rw [e_2]
    refine Z_rfe (M := mX7_test) ((wAt_e R).trans i2) ?_
    refine J_astore (M := mX7_test) dX7_test_5 (by decide) ?_
    refine J_aload (M := mX7_test) dX7_test_7 rfl ?_
    first | refine Z_some (M := mX7_test) (by omega) ?_ | skip
    first | refine Z_uns (M := mX7_test) (by omega) ?_ | skip
    refine K_ifnonnull (tgt := 22) dX7_test_9 (by decide) (fun c_9 => ?_) (fun c_9 => ?_)
    · refine J_iload_n (M := mX7_test) dX7_test_22 rfl rfl ?_
      refine Z_if_lt (M := mX7_test) (tgt := 43) (by first | assumption | exact pI_rg _ | (unfold rg; omega)) dX7_test_23 (by decide) (fun c_23 => ?_) (fun c_23 => ?_)
      · refine K_thr (M := mX7_test) rfl rfl ti_93_95_97 (by decide) (by decide) (by decide) (by decide) (Or.inl ⟨dX7_test_43, dX7_test_46, dX7_test_47, dX7_test_49, dX7_test_52⟩) ?_
        first
          | exact EM_1 (pI_f (by omega)) rfl
          | exact EM_2 (pI_n0.mpr (by omega)) (pI_f (by omega)) rfl
          | exact EM_3 (pI_n0.mpr (by omega)) (pI_n0.mpr (by omega)) (pI_f (by omega)) rfl
      · refine J_iload_n (M := mX7_test) dX7_test_26 rfl rfl ?_
        refine Z_sipush (M := mX7_test) dX7_test_27 rfl ?_
        refine Z_ic_gt (M := mX7_test) (tgt := 43) (by first | assumption | exact pI_rg _ | (unfold rg; omega)) (by first | assumption | exact pI_rg _ | (unfold rg; omega)) dX7_test_30 (by decide) (fun c_30 => ?_) (fun c_30 => ?_)
        · refine K_thr (M := mX7_test) rfl rfl ti_93_95_97 (by decide) (by decide) (by decide) (by decide) (Or.inl ⟨dX7_test_43, dX7_test_46, dX7_test_47, dX7_test_49, dX7_test_52⟩) ?_
          first
            | exact EM_1 (pI_f (by omega)) rfl
            | exact EM_2 (pI_n0.mpr (by omega)) (pI_f (by omega)) rfl
            | exact EM_3 (pI_n0.mpr (by omega)) (pI_n0.mpr (by omega)) (pI_f (by omega)) rfl
        · refine J_iload_n (M := mX7_test) dX7_test_33 rfl rfl ?_
          refine Z_if_lt (M := mX7_test) (tgt := 43) (by first | assumption | exact pI_rg _ | (unfold rg; omega)) dX7_test_34 (by decide) (fun c_34 => ?_) (fun c_34 => ?_)
          · refine K_thr (M := mX7_test) rfl rfl ti_93_95_97 (by decide) (by decide) (by decide) (by decide) (Or.inl ⟨dX7_test_43, dX7_test_46, dX7_test_47, dX7_test_49, dX7_test_52⟩) ?_
            first
              | exact EM_1 (pI_f (by omega)) rfl
              | exact EM_2 (pI_n0.mpr (by omega)) (pI_f (by omega)) rfl
              | exact EM_3 (pI_n0.mpr (by omega)) (pI_n0.mpr (by omega)) (pI_f (by omega)) rfl
          · refine J_iload_n (M := mX7_test) dX7_test_37 rfl rfl ?_
            refine Z_bipush (M := mX7_test) dX7_test_38 rfl ?_
            refine Z_ic_le (M := mX7_test) (tgt := 53) (by first | assumption | exact pI_rg _ | (unfold rg; omega)) (by first | assumption | exact pI_rg _ | (unfold rg; omega)) dX7_test_40 (by decide) (fun c_40 => ?_) (fun c_40 => ?_)
            · refine J_aload (M := mX7_test) dX7_test_53 rfl ?_
              first | refine Z_some (M := mX7_test) (by omega) ?_ | skip
              refine J_getf (M := mX7_test) dX7_test_55 fi_X7_98 (hk_12 (by first | exact rfl | assumption | exact Or.inl (by assumption) | exact Or.inr rfl | (show 0 ≤ _ ∧ _ < _; omega))) rfl ?_
              refine Z_wb (M := mX7_test) (g := ρ 15) (wk15 V) rfl (fun wb_15_29 => ?_)
              refine Z_iconst (M := mX7_test) dX7_test_58 ?_
              refine Z_ic_eq (M := mX7_test) (tgt := 72) (by first | assumption | exact pI_rg _ | (unfold rg; omega)) (by first | assumption | exact pI_rg _ | (unfold rg; omega)) dX7_test_59 (by decide) (fun c_59 => ?_) (fun c_59 => ?_)
              · refine K_thr (M := mX7_test) rfl rfl ti_60_105_64 (by decide) (by decide) (by decide) (by decide) (Or.inl ⟨dX7_test_72, dX7_test_75, dX7_test_76, dX7_test_78, dX7_test_81⟩) ?_
                first
                  | exact EM_1 (pI_f (by omega)) rfl
                  | exact EM_2 (pI_n0.mpr (by omega)) (pI_f (by omega)) rfl
                  | exact EM_3 (pI_n0.mpr (by omega)) (pI_n0.mpr (by omega)) (pI_f (by omega)) rfl
              · refine J_aload_n (M := mX7_test) dX7_test_62 rfl rfl ?_
                refine J_getf (M := mX7_test) dX7_test_63 fi_X7_30 (hk_1 (by first | exact rfl | assumption | exact Or.inl (by assumption) | exact Or.inr rfl | (show 0 ≤ _ ∧ _ < _; omega))) rfl ?_
                refine J_getf (M := mX7_test) dX7_test_66 fi_X7_101 (hk_5 (by first | exact rfl | assumption | exact Or.inl (by assumption) | exact Or.inr rfl | (show 0 ≤ _ ∧ _ < _; omega))) rfl ?_
                refine Z_rwb (M := mX7_test) (g := ρ 41) (wk41 V) rfl (fun wb_41_37 => ?_)
                first | refine Z_some (M := mX7_test) (by omega) ?_ | skip
                first | refine Z_uns (M := mX7_test) (by omega) ?_ | skip
                refine K_ifnull (tgt := 82) dX7_test_69 (by decide) (fun c_69 => ?_) (fun c_69 => ?_)
                · refine Z_bj (M := mX7_test) (pcB := 107) (((500 ≤ f ∧ f ≤ 770) ∧ m ≤ 15)) (fun hj_107 => ?_) ?_
                  · refine J_iload_n (M := mX7_test) dX7_test_82 rfl rfl ?_
                    refine Z_sipush (M := mX7_test) dX7_test_83 rfl ?_
                    refine Z_ic_lt (M := mX7_test) (tgt := 106) (by first | assumption | exact pI_rg _ | (unfold rg; omega)) (by first | assumption | exact pI_rg _ | (unfold rg; omega)) dX7_test_86 (by decide) (fun c_86 => ?_) (fun c_86 => ?_)
                    · refine Z_iconst (M := mX7_test) dX7_test_106 ?_
                      exact hj_107 _ (pI_f (by omega)).symm
                    · refine J_iload_n (M := mX7_test) dX7_test_89 rfl rfl ?_
                      refine Z_sipush (M := mX7_test) dX7_test_90 rfl ?_
                      refine Z_ic_gt (M := mX7_test) (tgt := 106) (by first | assumption | exact pI_rg _ | (unfold rg; omega)) (by first | assumption | exact pI_rg _ | (unfold rg; omega)) dX7_test_93 (by decide) (fun c_93 => ?_) (fun c_93 => ?_)
                      · refine Z_iconst (M := mX7_test) dX7_test_106 ?_
                        exact hj_107 _ (pI_f (by omega)).symm
                      · refine J_iload_n (M := mX7_test) dX7_test_96 rfl rfl ?_
                        refine Z_bipush (M := mX7_test) dX7_test_97 rfl ?_
                        refine Z_ic_gt (M := mX7_test) (tgt := 106) (by first | assumption | exact pI_rg _ | (unfold rg; omega)) (by first | assumption | exact pI_rg _ | (unfold rg; omega)) dX7_test_99 (by decide) (fun c_99 => ?_) (fun c_99 => ?_)
                        · refine Z_iconst (M := mX7_test) dX7_test_106 ?_
                          exact hj_107 _ (pI_f (by omega)).symm
                        · refine Z_iconst (M := mX7_test) dX7_test_102 ?_
                          refine J_goto (M := mX7_test) (tgt := 107) dX7_test_103 (by decide) ?_
                          exact hj_107 _ (pI_t (by omega)).symm
                  refine J_istore (M := mX7_test) dX7_test_107 (by decide) ?_
                  refine J_iload (M := mX7_test) dX7_test_109 rfl ?_
                  first
                    | refine Z_pf (M := mX7_test) (tgt := 123) dX7_test_111 (by decide) (fun c_111 => ?_) (fun c_111 => ?_)
                    | refine Z_if_eq (M := mX7_test) (tgt := 123) (by first | assumption | exact pI_rg _ | (unfold rg; omega)) dX7_test_111 (by decide) (fun c_111 => ?_) (fun c_111 => ?_)
                  · refine J_aload_n (M := mX7_test) dX7_test_123 rfl rfl ?_
                    refine J_aload (M := mX7_test) dX7_test_124 rfl ?_
                    first | refine Z_some (M := mX7_test) (by omega) ?_ | skip
                    refine J_callV (M := mX7_test) (as := [_]) dX7_test_126 ca_X7_107 ⟨by decide, by decide⟩ (hk_1 (by first | exact rfl | assumption | exact Or.inl (by assumption) | exact Or.inr rfl | (show 0 ≤ _ ∧ _ < _; omega))) rfl (Nat.le_of_ble_eq_true rfl) (k' := 1) (n' := 6) (by decide) (by decide) (kX7_fail R (by omega) i1) (fun v_126 h_126 hv_126 => ?_)
                    obtain ⟨r_126, rfl, hv_126⟩ := hv_126
                    obtain ⟨rfl, hRR⟩ := hv_126
                    refine J_iload (M := mX7_test) dX7_test_129 rfl ?_
                    refine K_zretE dX7_test_131 rfl (by first | exact pI_01 _ | exact Or.inl rfl | exact Or.inr rfl | omega) ?_
                    have ho : τ 19 0 = 0 := by omega
                    have hn2 : ¬ τ 3 w = 2 := by omega
                    first
                      | (have z := pI_t c_111
                         have h4 : τ 4 w = 0 := Classical.byContradiction (fun y => hn2 (hwr.2.2 y))
                         have e1 : ts (ts τ 3 w (if ((500 ≤ f ∧ f ≤ 770) ∧ m ≤ 15) then 1 else 2)) 4 w (pI (¬ ((500 ≤ f ∧ f ≤ 770) ∧ m ≤ 15) ∧ τ 21 0 = 0)) = ts τ 3 w 1 := by
                           rw [if_pos c_111, pI_f (fun y => y.1 c_111)]
                           have e2 : ts τ 3 w 1 4 w = 0 := h4
                           rw [← e2]
                           exact ts_id
                         have hM := RR_mark R i1 hn2
                         exact ⟨(gl_0 ⟨(by first | exact n10 | exact pI_n0.mpr (by omega)), (by first | exact n10 | exact pI_n0.mpr (by omega)), (by first | exact n10 | exact pI_n0.mpr (by omega))⟩), rfl, by rw [e1]; exact RR_SQ (fol_id hM) (WF_fol hM.1) hM⟩)
                      | (have e1 : ts (ts τ 3 w (if ((500 ≤ f ∧ f ≤ 770) ∧ m ≤ 15) then 1 else 2)) 4 w (pI (¬ ((500 ≤ f ∧ f ≤ 770) ∧ m ≤ 15) ∧ τ 21 0 = 0)) = ts (ts τ 3 w 2) 4 w (pI (τ 21 0 = 0)) := by
                           rw [if_neg c_111, pI_c (show (¬ ((500 ≤ f ∧ f ≤ 770) ∧ m ≤ 15) ∧ τ 21 0 = 0) ↔ τ 21 0 = 0 from ⟨fun y => y.2, fun y => ⟨c_111, y⟩⟩)]
                         exact ⟨(gl_0 ⟨(by first | exact n10 | exact pI_n0.mpr (by omega)), (by first | exact n10 | exact pI_n0.mpr (by omega)), (by first | exact n10 | exact pI_n0.mpr (by omega))⟩), rfl, by rw [e1]; exact hRR⟩)
                  · refine J_aload (M := mX7_test) dX7_test_114 rfl ?_
                    first | refine Z_some (M := mX7_test) (by omega) ?_ | skip
                    refine Z_iconst (M := mX7_test) dX7_test_116 ?_
                    refine J_putI (M := mX7_test) dX7_test_117 fi_X7_98 (hk_12 (by first | exact rfl | assumption | exact Or.inl (by assumption) | exact Or.inr rfl | (show 0 ≤ _ ∧ _ < _; omega))) (Nat.le_of_ble_eq_true rfl) ?_
                    refine Z_h (M := mX7_test) (hkp_15 (by first | exact rfl | assumption | exact Or.inl (by assumption) | exact Or.inr rfl | (show 0 ≤ _ ∧ _ < _; omega))) ?_
                    refine J_goto (M := mX7_test) (tgt := 129) dX7_test_120 (by decide) ?_
                    refine J_iload (M := mX7_test) dX7_test_129 rfl ?_
                    refine K_zretE dX7_test_131 rfl (by first | exact pI_01 _ | exact Or.inl rfl | exact Or.inr rfl | omega) ?_
                    have ho : τ 19 0 = 0 := by omega
                    have hn2 : ¬ τ 3 w = 2 := by omega
                    first
                      | (have z := pI_t c_111
                         have h4 : τ 4 w = 0 := Classical.byContradiction (fun y => hn2 (hwr.2.2 y))
                         have e1 : ts (ts τ 3 w (if ((500 ≤ f ∧ f ≤ 770) ∧ m ≤ 15) then 1 else 2)) 4 w (pI (¬ ((500 ≤ f ∧ f ≤ 770) ∧ m ≤ 15) ∧ τ 21 0 = 0)) = ts τ 3 w 1 := by
                           rw [if_pos c_111, pI_f (fun y => y.1 c_111)]
                           have e2 : ts τ 3 w 1 4 w = 0 := h4
                           rw [← e2]
                           exact ts_id
                         have hM := RR_mark R i1 hn2
                         exact ⟨(gl_0 ⟨(by first | exact n10 | exact pI_n0.mpr (by omega)), (by first | exact n10 | exact pI_n0.mpr (by omega)), (by first | exact n10 | exact pI_n0.mpr (by omega))⟩), rfl, by rw [e1]; exact RR_SQ (fol_id hM) (WF_fol hM.1) hM⟩)
                      | (have e1 : ts (ts τ 3 w (if ((500 ≤ f ∧ f ≤ 770) ∧ m ≤ 15) then 1 else 2)) 4 w (pI (¬ ((500 ≤ f ∧ f ≤ 770) ∧ m ≤ 15) ∧ τ 21 0 = 0)) = ts (ts τ 3 w 2) 4 w (pI (τ 21 0 = 0)) := by
                           rw [if_neg c_111, pI_c (show (¬ ((500 ≤ f ∧ f ≤ 770) ∧ m ≤ 15) ∧ τ 21 0 = 0) ↔ τ 21 0 = 0 from ⟨fun y => y.2, fun y => ⟨c_111, y⟩⟩)]
                         exact ⟨(gl_0 ⟨(by first | exact n10 | exact pI_n0.mpr (by omega)), (by first | exact n10 | exact pI_n0.mpr (by omega)), (by first | exact n10 | exact pI_n0.mpr (by omega))⟩), rfl, by rw [e1]; exact hRR⟩)
                · refine K_thr (M := mX7_test) rfl rfl ti_60_105_64 (by decide) (by decide) (by decide) (by decide) (Or.inl ⟨dX7_test_72, dX7_test_75, dX7_test_76, dX7_test_78, dX7_test_81⟩) ?_
                  first
                    | exact EM_1 (pI_f (by omega)) rfl
                    | exact EM_2 (pI_n0.mpr (by omega)) (pI_f (by omega)) rfl
                    | exact EM_3 (pI_n0.mpr (by omega)) (pI_n0.mpr (by omega)) (pI_f (by omega)) rfl
            · refine K_thr (M := mX7_test) rfl rfl ti_93_95_97 (by decide) (by decide) (by decide) (by decide) (Or.inl ⟨dX7_test_43, dX7_test_46, dX7_test_47, dX7_test_49, dX7_test_52⟩) ?_
              first
                | exact EM_1 (pI_f (by omega)) rfl
                | exact EM_2 (pI_n0.mpr (by omega)) (pI_f (by omega)) rfl
                | exact EM_3 (pI_n0.mpr (by omega)) (pI_n0.mpr (by omega)) (pI_f (by omega)) rfl
    · omega
  · refine J_aload_n (M := mX7_test) dX7_test_0 rfl rfl ?_
    refine J_iload_n (M := mX7_test) dX7_test_1 rfl rfl ?_
    refine J_callV (M := mX7_test) (as := [_]) dX7_test_2 ca_X7_87 ⟨by decide, by decide⟩ (hk_1 (by first | exact rfl | assumption | exact Or.inl (by assumption) | exact Or.inr rfl | (show 0 ≤ _ ∧ _ < _; omega))) rfl (Nat.le_of_ble_eq_true rfl) (k' := 1) (n' := 6) (by decide) (by decide) (kX7_weaponAt V hw) (fun v_2 h_2 hv_2 => ?_)
    obtain ⟨r_2, rfl, hv_2⟩ := hv_2
    obtain ⟨rfl, e_2⟩ := hv_2
    rw [e_2]
    refine Z_rfe (M := mX7_test) ((wAt_e R).trans i2) ?_
    refine J_astore (M := mX7_test) dX7_test_5 (by decide) ?_
    refine J_aload (M := mX7_test) dX7_test_7 rfl ?_
    first | refine Z_some (M := mX7_test) (by omega) ?_ | skip
    first | refine Z_uns (M := mX7_test) (by omega) ?_ | skip
    refine K_ifnonnull (tgt := 22) dX7_test_9 (by decide) (fun c_9 => ?_) (fun c_9 => ?_)
    · omega
    · refine K_thr (M := mX7_test) rfl rfl ti_74_91_78 (by decide) (by decide) (by decide) (by decide) (Or.inl ⟨dX7_test_12, dX7_test_15, dX7_test_16, dX7_test_18, dX7_test_21⟩) ?_
      first
        | exact EM_1 (pI_f (by omega)) rfl
        | exact EM_2 (pI_n0.mpr (by omega)) (pI_f (by omega)) rfl
        | exact EM_3 (pI_n0.mpr (by omega)) (pI_n0.mpr (by omega)) (pI_f (by omega)) rfl
