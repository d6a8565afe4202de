/-! THE CLASS: halt and appeal -/
/-- what a halt makes, ahead of settling -/
theorem SR_halt {ρ τ : TS} {c : Int} (R : RR ρ τ c) (hc : c ≤ 90000) (hon : ¬ τ 19 0 = 0) : WF (ts (ts (ts τ 10 (slo (τ 17 0)) (τ 10 (slo (τ 17 0)) + 1)) 19 0 0) 20 0 1) ∧ WK (ts ρ 36 (ρ 41 0) (jd τ (la τ))) ∧ WR (kpt (ts ρ 36 (ρ 41 0) (jd τ (la τ))) (slo (τ 17 0)) (ρ 41 0)) (ts (ts (ts τ 10 (slo (τ 17 0)) (τ 10 (slo (τ 17 0)) + 1)) 19 0 0) 20 0 1) ∧ BR (kpt (ts ρ 36 (ρ 41 0) (jd τ (la τ))) (slo (τ 17 0)) (ρ 41 0)) (ts (ts (ts τ 10 (slo (τ 17 0)) (τ 10 (slo (τ 17 0)) + 1)) 19 0 0) 20 0 1) (slo (τ 17 0)) ∧ B1 (ts (ts (ts (ts (kpt (ts ρ 36 (ρ 41 0) (jd τ (la τ))) (slo (τ 17 0)) (ρ 41 0)) 25 (slo (τ 17 0)) (te (ts (ts (ts τ 10 (slo (τ 17 0)) (τ 10 (slo (τ 17 0)) + 1)) 19 0 0) 20 0 1) (slo (τ 17 0))).1) 26 (slo (τ 17 0)) (te (ts (ts (ts τ 10 (slo (τ 17 0)) (τ 10 (slo (τ 17 0)) + 1)) 19 0 0) 20 0 1) (slo (τ 17 0))).2.1) 41 0 (-1)) 42 0 1) (ts (ts (ts τ 10 (slo (τ 17 0)) (τ 10 (slo (τ 17 0)) + 1)) 19 0 0) 20 0 1) c ∧ FRE (ts (ts (ts (ts (kpt (ts ρ 36 (ρ 41 0) (jd τ (la τ))) (slo (τ 17 0)) (ρ 41 0)) 25 (slo (τ 17 0)) (te (ts (ts (ts τ 10 (slo (τ 17 0)) (τ 10 (slo (τ 17 0)) + 1)) 19 0 0) 20 0 1) (slo (τ 17 0))).1) 26 (slo (τ 17 0)) (te (ts (ts (ts τ 10 (slo (τ 17 0)) (τ 10 (slo (τ 17 0)) + 1)) 19 0 0) 20 0 1) (slo (τ 17 0))).2.1) 41 0 (-1)) 42 0 1) (ts (ts (ts τ 10 (slo (τ 17 0)) (τ 10 (slo (τ 17 0)) + 1)) 19 0 0) 20 0 1) ∧ SR (ts (ts (ts (ts (kpt (ts ρ 36 (ρ 41 0) (jd τ (la τ))) (slo (τ 17 0)) (ρ 41 0)) 25 (slo (τ 17 0)) (te (ts (ts (ts τ 10 (slo (τ 17 0)) (τ 10 (slo (τ 17 0)) + 1)) 19 0 0) 20 0 1) (slo (τ 17 0))).1) 26 (slo (τ 17 0)) (te (ts (ts (ts τ 10 (slo (τ 17 0)) (τ 10 (slo (τ 17 0)) + 1)) 19 0 0) 20 0 1) (slo (τ 17 0))).2.1) 41 0 (-1)) 42 0 1) (ts (ts (ts τ 10 (slo (τ 17 0)) (τ 10 (slo (τ 17 0)) + 1)) 19 0 0) 20 0 1) (τ 21 0 - 1) 0 := by
  have hno := run_no R hon
  have hid := ((pst_c R).resolve_left (fun z => hon z.2.1)).resolve_left (fun z => hon z.2.1)
  obtain ⟨i1, -, i3, i4, i5, i6, i7, i8, i9⟩ := hid
  obtain ⟨W, V, ⟨⟨a1, a2, a3, a4, a5, a6, a7, a8⟩, b1, b2, b3, b4, b5, b6⟩, S, Q, F⟩ := R
  have hQ := Q.2 hon
  obtain ⟨s3, s4, s5, s6, s7, s8, s9, s10, s11, s13⟩ := S
  have hS := SN_live W i3
  have w10 := wf10 W (slo (τ 17 0))
  have w21 := wf21 W 0
  have w9 := wf9 W 0
  have hla : la τ = 12 * slo (τ 17 0) + τ 10 (slo (τ 17 0)) := rfl
  have hjr := jd_rg W (ph := la τ) (by omega)
  have p0 := i8.1
  have g20 : ρ 20 (slo (τ 17 0)) = τ 10 (slo (τ 17 0)) := i6.1.2.2.2.2.1
  obtain ⟨t, ht⟩ : ∃ t, t = (ts (ts (ts τ 10 (slo (τ 17 0)) (τ 10 (slo (τ 17 0)) + 1)) 19 0 0) 20 0 1) := ⟨_, rfl⟩
  obtain ⟨u, hu⟩ : ∃ u, u = (kpt (ts ρ 36 (ρ 41 0) (jd τ (la τ))) (slo (τ 17 0)) (ρ 41 0)) := ⟨_, rfl⟩
  rw [← ht, ← hu]
  have W' : WF t := by rw [ht]; exact WF_ts (WF_ts (WF_ts W (show (0 : Int) ≤ _ ∧ _ ≤ (12 : Int) by omega)) (by decide)) (by decide)
  have V1 : WK (ts ρ 36 (ρ 41 0) (jd τ (la τ))) := WK_ts V hjr
  have Vu : WK u := by rw [hu]; exact WK_kpt V1 (by omega) (show ρ 20 (slo (τ 17 0)) < 12 by omega)
  have et : ∀ k, ¬ k = 10 ∧ ¬ k = 19 ∧ ¬ k = 20 → t k = τ k := fun k hk => by rw [ht, ts_n (by omega), ts_n (by omega), ts_n (by omega)]
  have t10 : ∀ b, t 10 b = if b = slo (τ 17 0) then τ 10 (slo (τ 17 0)) + 1 else τ 10 b := fun b => by rw [ht, tsN (by decide), tsN (by decide), ts_s]; rfl
  have t19 : t 19 0 = 0 := by rw [ht, tsN (by decide), ts_self]
  have t20 : t 20 0 = 1 := by rw [ht]; exact ts_self
  have ek : ∀ k, ¬ k = 20 ∧ ¬ k = 23 ∧ ¬ k = 36 → u k = ρ k := fun k hk => by rw [hu]; unfold kpt; rw [ts_n (by omega), ts_n (by omega), ts_n (by omega)]
  have u20 : ∀ b, u 20 b = if b = slo (τ 17 0) then τ 10 (slo (τ 17 0)) + 1 else ρ 20 b := fun b => by
    rw [hu]
    unfold kpt
    rw [ts_s]
    unfold upZ
    rw [tsN (by decide), g20]
    by_cases z : b = slo (τ 17 0)
    · rw [if_pos z, if_pos z]
    · rw [if_neg z, if_neg z, tsN (by decide), tsN (by decide)]
  have u23 : ∀ z, u 23 z = if z = la τ then ρ 41 0 else ρ 23 z := fun z => by
    rw [hu]
    unfold kpt
    rw [tsN (by decide), ts_s]
    unfold upZ
    rw [show ts ρ 36 (ρ 41 0) (jd τ (la τ)) 20 (slo (τ 17 0)) = ρ 20 (slo (τ 17 0)) from rfl, g20, ← hla]
    rfl
  have u36 : ∀ p, u 36 p = if p = ρ 41 0 then jd τ (la τ) else ρ 36 p := fun p => by
    rw [hu]
    unfold kpt
    rw [tsN (by decide), tsN (by decide), ts_s]
    rfl
  have hj : jd t = jd τ := jd_k2 (et 0 (by decide)) (fun k hk => et k (by omega))
  have hP : ∀ p f, PH ρ τ p f → PH u t p f := fun p f P => PH_same P (fun k hk => ek k (by omega)) (by rw [ek 47 (by decide)]; omega) (by rw [ek 47 (by decide)]; omega) (fun k hk => et k (by omega))
  have htc : tch t = tch τ := tch_k (et 0 (by decide)) (fun k hk => et k (by omega)) (et 3 (by decide)) (et 4 (by decide))
  have hWR : WR u t := by
    unfold WR
    rw [ek 47 (by decide), ek 15 (by decide), ek 16 (by decide), et 3 (by decide), et 4 (by decide)]
    exact s13
  have hBR : ∀ b, LVb τ b → BR u t b := fun b hb => by
    obtain ⟨⟨g1, g2, g3, g4, g5, g6⟩, -⟩ := s5 b hb
    have w10b := wf10 W b
    refine ⟨g1, by rw [ek 48 (by decide)]; exact g2, by rw [ek 17 (by decide)]; exact g3, by rw [ek 24 (by decide)]; exact g4, ?_, fun j j0 j1 => ?_⟩
    · rw [u20, t10]
      by_cases z : b = slo (τ 17 0)
      · rw [if_pos z, if_pos z]
      · rw [if_neg z, if_neg z]; exact g5
    · rw [t10] at j1
      rw [u23, hj]
      by_cases z : 12 * b + j = la τ
      · rw [if_pos z, u36, if_pos rfl, z]
        exact ⟨hP _ _ i8, rfl⟩
      · have hj1 : j < τ 10 b := by
          by_cases y : b = slo (τ 17 0)
          · rw [if_pos y] at j1
            rw [y] at z ⊢
            omega
          · rw [if_neg y] at j1; exact j1
        obtain ⟨n1, n2⟩ := hno b hb j j0 hj1
        rw [if_neg z, u36, if_neg n2]
        exact ⟨hP _ _ (g6 j j0 hj1).1, (g6 j j0 hj1).2⟩
  have hte : ∀ b, ¬ b = slo (τ 17 0) → te t b = te τ b := fun b hb => te_eq htc (by rw [t10, if_neg hb])
  obtain ⟨r, hr⟩ : ∃ r, r = ts (ts (ts (ts u 25 (slo (τ 17 0)) (te t (slo (τ 17 0))).1) 26 (slo (τ 17 0)) (te t (slo (τ 17 0))).2.1) 41 0 (-1)) 42 0 1 := ⟨_, rfl⟩
  rw [← hr]
  have rk : ∀ k, ¬ k = 25 ∧ ¬ k = 26 ∧ ¬ k = 41 ∧ ¬ k = 42 → r k = u k := fun k hk => by rw [hr, ts_n (by omega), ts_n (by omega), ts_n (by omega), ts_n (by omega)]
  have rk2 : ∀ k, ¬ k = 25 ∧ ¬ k = 26 ∧ ¬ k = 41 ∧ ¬ k = 42 ∧ ¬ k = 20 ∧ ¬ k = 23 ∧ ¬ k = 36 → r k = ρ k := fun k hk => (rk k (by omega)).trans (ek k (by omega))
  have r25 : ∀ b, r 25 b = if b = slo (τ 17 0) then (te t (slo (τ 17 0))).1 else ρ 25 b := fun b => by
    rw [hr, tsN (by decide), tsN (by decide), tsN (by decide), ts_s, ek 25 (by decide)]; rfl
  have r26 : ∀ b, r 26 b = if b = slo (τ 17 0) then (te t (slo (τ 17 0))).2.1 else ρ 26 b := fun b => by
    rw [hr, tsN (by decide), tsN (by decide), ts_s, ts_n (by decide), ek 26 (by decide)]; rfl
  have r41 : r 41 0 = -1 := by rw [hr, tsN (by decide), ts_self]
  have r42 : r 42 0 = 1 := by rw [hr]; exact ts_self
  have hteR := te_rg W' (slo (τ 17 0))
  have Vr : WK r := by
    rw [hr]
    exact WK_ts (WK_ts (WK_ts (WK_ts Vu ⟨hteR.1, hteR.2.1⟩) ⟨hteR.2.2.1, hteR.2.2.2.1⟩) (by decide)) (by decide)
  refine ⟨W', V1, hWR, hBR _ hS.1, ?_, ?_, ?_⟩
  · unfold B1
    rw [rk2 0 (by decide), rk2 1 (by decide), rk2 2 (by decide), rk2 3 (by decide), rk2 4 (by decide), rk2 5 (by decide), rk2 6 (by decide), rk2 8 (by decide), rk2 13 (by decide), rk2 14 (by decide), rk2 18 (by decide), rk2 19 (by decide), rk2 47 (by decide), et 0 (by decide), et 1 (by decide), et 2 (by decide), et 4 (by decide), et 5 (by decide), et 6 (by decide), et 7 (by decide), et 8 (by decide), et 9 (by decide), et 21 (by decide)]
    exact ⟨⟨a1, a2, a3, a4, a5, a6, a7, a8⟩, b1, b2, b3, b4, b5, b6⟩
  · intro b x0 x1 hb
    unfold LVb at hb
    rw [et 9 (by decide), et 21 (by decide)] at hb
    have f := F b x0 x1 hb
    rw [rk2 48 (by decide), et 11 (by decide), t10, if_neg (fun z => hb (by rw [z]; exact hS.1))]
    exact f
  · unfold SR LVb
    rw [rk2 43 (by decide), rk2 44 (by decide), rk2 7 (by decide), rk2 46 (by decide), rk2 18 (by decide), rk2 19 (by decide), et 9 (by decide), et 21 (by decide), et 22 (by decide), et 24 (by decide), et 17 (by decide)]
    refine ⟨W', Vr, s3, s4, fun b hb => ?_, s6, fun k k1 k2 k3 => by omega, s8, s9, fun k k1 k2 _ q => ?_, fun k k1 k2 _ => s11 k k1 k2, ?_, ?_⟩
    · obtain ⟨-, ⟨y1, y2⟩, x3, x4⟩ := s5 b hb
      refine ⟨?_, ⟨?_, ?_⟩, ?_, ?_⟩
      · obtain ⟨g1, g2, g3, g4, g5, g6⟩ := hBR b hb
        unfold BR
        rw [rk 48 (by decide), rk 17 (by decide), rk 24 (by decide), rk 20 (by decide), rk 23 (by decide), rk 36 (by decide)]
        exact ⟨g1, g2, g3, g4, g5, fun j j0 j1 => ⟨PH_k (g6 j j0 j1).1 (rk 47 (by decide)) (fun k hk => rk k (by omega)) (rk 49 (by decide)) rfl (fun _ _ => rfl), (g6 j j0 j1).2⟩⟩
      · rw [r25]
        by_cases z : b = slo (τ 17 0)
        · rw [if_pos z, z]
        · rw [if_neg z, hte b z]; exact y1
      · rw [r26]
        by_cases z : b = slo (τ 17 0)
        · rw [if_pos z, z]
        · rw [if_neg z, hte b z]; exact y2
      · rw [rk2 21 (by decide), et 11 (by decide)]; exact x3
      · rw [rk2 22 (by decide), et 11 (by decide)]; exact x4
    · have hne : ¬ 66 + k = slo (τ 17 0) := fun z => by
        have e17 : τ 17 0 = 100 + k := by
          rcases i3 with y | y
          · have : slo (τ 17 0) = τ 17 0 := by unfold slo; rw [if_neg (by omega)]
            omega
          · have : slo (τ 17 0) = 66 + τ 17 0 - 100 := by unfold slo; rw [if_pos (by omega)]
            omega
        have := s11 k k1 k2 e17
        omega
      rw [t10, if_neg hne]
      exact s10 k k1 k2 q
    · unfold PO VB
      rw [r41, r42, rk2 37 (by decide), rk2 38 (by decide), rk2 39 (by decide), rk2 40 (by decide), rk2 47 (by decide), et 9 (by decide), et 21 (by decide), et 17 (by decide), et 18 (by decide), t20, t10, if_pos rfl]
      exact ⟨rfl, hQ.2.2.1, fun z => absurd z i1, fun _ => ⟨(VB_B W).mpr i3, i4, i5.1, i5.2.1, i5.2.2.1, i5.2.2.2, rfl, fun _ => by omega⟩⟩
    · unfold WR
      rw [rk 47 (by decide), rk 15 (by decide), rk 16 (by decide)]
      exact hWR
/-- the touches left of a phrase, behind settling -/
theorem tch_set {ρ r τ : TS} {m : Nat} (S : SR r (cfd m τ) 0 0) (F : FrS ρ r) {p f : Int} (P : PH ρ τ p f) : PH r (cfd m τ) p f ∧ tch (cfd m τ) = tch τ ∧ jd (cfd m τ) = jd τ := by
  have ck : ∀ k, ¬ (k = 10 ∨ k = 11 ∨ k = 17 ∨ k = 22 ∨ k = 24) → cfd m τ k = τ k := fun k hk => cfd_k hk _ _
  refine ⟨PH_k P (F.1 47 (by decide)) (fun k hk => F.1 k (by omega)) (F.1 49 (by decide)) (ck 0 (by decide)) (fun k hk => ck k (by omega)), tch_k (ck 0 (by decide)) (fun k hk => ck k (by omega)) (ck 3 (by decide)) (ck 4 (by decide)), jd_k2 (ck 0 (by decide)) (fun k hk => ck k (by omega))⟩
set_option maxRecDepth 100000 in
set_option maxHeartbeats 4000000 in
theorem p_halt {X : GX} {h : LH} {ρ τ : TS} {c : Int} (R : RR ρ τ c) (hc : c ≤ 90000) : CX X mX7_halt [vR (some (1, 0))] h ρ (PX (gl (τ 19 0) 1 1) (tch (ts (ts (ts τ 10 (slo (τ 17 0)) (τ 10 (slo (τ 17 0)) + 1)) 19 0 0) 20 0 1) (slo (τ 17 0)) (τ 10 (slo (τ 17 0)))) (fun r => RR r (fol (ts (ts (ts τ 10 (slo (τ 17 0)) (τ 10 (slo (τ 17 0)) + 1)) 19 0 0) 20 0 1)) c)) (EM [0] (gl (τ 19 0) 1 1)) := by
  have W := R.1
  have V := R.2.1
  refine CT_of (by decide +kernel) rfl (Nat.le_of_ble_eq_true rfl) ?_
  rcases pst_c R with ⟨h1, h2, h3, h4, h5, h6, h7⟩ | ⟨h1, h2, h3, h4, h5, h6, h7, h8, h9, h10⟩ | ⟨h1, h2, h3, h4, h5, h6, h7, h8, h9⟩
  · refine J_aload_n (M := mX7_halt) dX7_halt_0 rfl rfl ?_
    refine J_getf (M := mX7_halt) dX7_halt_1 fi_X7_30 (hk_1 (by first | exact rfl | assumption | exact Or.inl (by assumption) | exact Or.inr rfl | (show 0 ≤ _ ∧ _ < _; omega))) rfl ?_
    refine J_getf (M := mX7_halt) dX7_halt_4 fi_X7_149 (hk_5 (by first | exact rfl | assumption | exact Or.inl (by assumption) | exact Or.inr rfl | (show 0 ≤ _ ∧ _ < _; omega))) rfl ?_
    refine Z_rwb (M := mX7_halt) (g := ρ 38) (wk38 V) rfl (fun wb_38_3 => ?_)
    first | refine Z_some (M := mX7_halt) (by omega) ?_ | skip
    refine J_astore_n (M := mX7_halt) dX7_halt_7 rfl (by decide) ?_
    refine J_aload_n (M := mX7_halt) dX7_halt_8 rfl rfl ?_
    refine J_getf (M := mX7_halt) dX7_halt_9 fi_X7_30 (hk_1 (by first | exact rfl | assumption | exact Or.inl (by assumption) | exact Or.inr rfl | (show 0 ≤ _ ∧ _ < _; omega))) rfl ?_
    refine J_getf (M := mX7_halt) dX7_halt_12 fi_X7_101 (hk_5 (by first | exact rfl | assumption | exact Or.inl (by assumption) | exact Or.inr rfl | (show 0 ≤ _ ∧ _ < _; omega))) rfl ?_
    refine Z_rwb (M := mX7_halt) (g := ρ 41) (wk41 V) rfl (fun wb_41_9 => ?_)
    first | refine Z_some (M := mX7_halt) (by omega) ?_ | skip
    refine J_astore_n (M := mX7_halt) dX7_halt_15 rfl (by decide) ?_
    refine J_aload_n (M := mX7_halt) dX7_halt_16 rfl rfl ?_
    first | refine Z_some (M := mX7_halt) (by omega) ?_ | skip
    first | refine Z_uns (M := mX7_halt) (by omega) ?_ | skip
    refine K_ifnull (tgt := 24) dX7_halt_17 (by decide) (fun c_17 => ?_) (fun c_17 => ?_)
    · refine K_thr (M := mX7_halt) rfl rfl ti_60_203_64 (by decide) (by decide) (by decide) (by decide) (Or.inl ⟨dX7_halt_24, dX7_halt_27, dX7_halt_28, dX7_halt_30, dX7_halt_33⟩) ?_
      first
        | exact EM_1 (by assumption) rfl
        | exact EM_2 (pI_n0.mpr (by omega)) (pI_f (by omega)) rfl
        | exact EM_3 (pI_n0.mpr (by omega)) (pI_n0.mpr (by omega)) (pI_f (by omega)) rfl
    · omega
  · have hlv := (SN_live W h3).2.2
    clear h3
    refine J_aload_n (M := mX7_halt) dX7_halt_0 rfl rfl ?_
    refine J_getf (M := mX7_halt) dX7_halt_1 fi_X7_30 (hk_1 (by first | exact rfl | assumption | exact Or.inl (by assumption) | exact Or.inr rfl | (show 0 ≤ _ ∧ _ < _; omega))) rfl ?_
    refine J_getf (M := mX7_halt) dX7_halt_4 fi_X7_149 (hk_5 (by first | exact rfl | assumption | exact Or.inl (by assumption) | exact Or.inr rfl | (show 0 ≤ _ ∧ _ < _; omega))) rfl ?_
    refine Z_rwb (M := mX7_halt) (g := ρ 38) (wk38 V) rfl (fun wb_38_3 => ?_)
    first | refine Z_some (M := mX7_halt) (by omega) ?_ | skip
    refine J_astore_n (M := mX7_halt) dX7_halt_7 rfl (by decide) ?_
    refine J_aload_n (M := mX7_halt) dX7_halt_8 rfl rfl ?_
    refine J_getf (M := mX7_halt) dX7_halt_9 fi_X7_30 (hk_1 (by first | exact rfl | assumption | exact Or.inl (by assumption) | exact Or.inr rfl | (show 0 ≤ _ ∧ _ < _; omega))) rfl ?_
    refine J_getf (M := mX7_halt) dX7_halt_12 fi_X7_101 (hk_5 (by first | exact rfl | assumption | exact Or.inl (by assumption) | exact Or.inr rfl | (show 0 ≤ _ ∧ _ < _; omega))) rfl ?_
    refine Z_rwb (M := mX7_halt) (g := ρ 41) (wk41 V) rfl (fun wb_41_9 => ?_)
    first | refine Z_some (M := mX7_halt) (by omega) ?_ | skip
    refine J_astore_n (M := mX7_halt) dX7_halt_15 rfl (by decide) ?_
    refine J_aload_n (M := mX7_halt) dX7_halt_16 rfl rfl ?_
    first | refine Z_some (M := mX7_halt) (by omega) ?_ | skip
    first | refine Z_uns (M := mX7_halt) (by omega) ?_ | skip
    refine K_ifnull (tgt := 24) dX7_halt_17 (by decide) (fun c_17 => ?_) (fun c_17 => ?_)
    · omega
    · refine J_aload_n (M := mX7_halt) dX7_halt_20 rfl rfl ?_
      first | refine Z_some (M := mX7_halt) (by omega) ?_ | skip
      first | refine Z_uns (M := mX7_halt) (by omega) ?_ | skip
      refine K_ifnonnull (tgt := 34) dX7_halt_21 (by decide) (fun c_21 => ?_) (fun c_21 => ?_)
      · omega
      · refine K_thr (M := mX7_halt) rfl rfl ti_60_203_64 (by decide) (by decide) (by decide) (by decide) (Or.inl ⟨dX7_halt_24, dX7_halt_27, dX7_halt_28, dX7_halt_30, dX7_halt_33⟩) ?_
        first
          | exact EM_1 (by assumption) rfl
          | exact EM_2 (pI_n0.mpr (by omega)) (pI_f (by omega)) rfl
          | exact EM_3 (pI_n0.mpr (by omega)) (pI_n0.mpr (by omega)) (pI_f (by omega)) rfl
  · have hlv := (SN_live W h3).2.2
    have e13 : CE ρ 13 (slo (τ 17 0)) := h6.1.2.1
    have p0 := h8.1
    have w10 := wf10 W (slo (τ 17 0))
    have hla : 0 ≤ la τ := by unfold la; omega
    have a8 := R.2.2.1.1.2.2.2.2.2.2.2
    have g20 : ρ 20 (slo (τ 17 0)) = τ 10 (slo (τ 17 0)) := h6.1.2.2.2.2.1
    have hn2 : (ts ρ 36 (ρ 41 0) (jd τ (la τ))) 20 (slo (τ 17 0)) < 12 := by show ρ 20 (slo (τ 17 0)) < 12; omega
    obtain ⟨W', V1, hWR, hBR, hB1, hFR, hSR⟩ := SR_halt R hc h2
    clear h3
    refine J_aload_n (M := mX7_halt) dX7_halt_0 rfl rfl ?_
    refine J_getf (M := mX7_halt) dX7_halt_1 fi_X7_30 (hk_1 (by first | exact rfl | assumption | exact Or.inl (by assumption) | exact Or.inr rfl | (show 0 ≤ _ ∧ _ < _; omega))) rfl ?_
    refine J_getf (M := mX7_halt) dX7_halt_4 fi_X7_149 (hk_5 (by first | exact rfl | assumption | exact Or.inl (by assumption) | exact Or.inr rfl | (show 0 ≤ _ ∧ _ < _; omega))) rfl ?_
    refine Z_rwb (M := mX7_halt) (g := ρ 38) (wk38 V) rfl (fun wb_38_3 => ?_)
    first | refine Z_some (M := mX7_halt) (by omega) ?_ | skip
    refine Z_req (M := mX7_halt) (congrArg (fun z => some (13, z)) h4) ?_
    refine J_astore_n (M := mX7_halt) dX7_halt_7 rfl (by decide) ?_
    refine J_aload_n (M := mX7_halt) dX7_halt_8 rfl rfl ?_
    refine J_getf (M := mX7_halt) dX7_halt_9 fi_X7_30 (hk_1 (by first | exact rfl | assumption | exact Or.inl (by assumption) | exact Or.inr rfl | (show 0 ≤ _ ∧ _ < _; omega))) rfl ?_
    refine J_getf (M := mX7_halt) dX7_halt_12 fi_X7_101 (hk_5 (by first | exact rfl | assumption | exact Or.inl (by assumption) | exact Or.inr rfl | (show 0 ≤ _ ∧ _ < _; omega))) rfl ?_
    refine Z_rwb (M := mX7_halt) (g := ρ 41) (wk41 V) rfl (fun wb_41_10 => ?_)
    first | refine Z_some (M := mX7_halt) (by omega) ?_ | skip
    refine J_astore_n (M := mX7_halt) dX7_halt_15 rfl (by decide) ?_
    refine J_aload_n (M := mX7_halt) dX7_halt_16 rfl rfl ?_
    first | refine Z_some (M := mX7_halt) (by omega) ?_ | skip
    first | refine Z_uns (M := mX7_halt) (by omega) ?_ | skip
    refine K_ifnull (tgt := 24) dX7_halt_17 (by decide) (fun c_17 => ?_) (fun c_17 => ?_)
    · omega
    · refine J_aload_n (M := mX7_halt) dX7_halt_20 rfl rfl ?_
      first | refine Z_some (M := mX7_halt) (by omega) ?_ | skip
      first | refine Z_uns (M := mX7_halt) (by omega) ?_ | skip
      refine K_ifnonnull (tgt := 34) dX7_halt_21 (by decide) (fun c_21 => ?_) (fun c_21 => ?_)
      · refine J_aload_n (M := mX7_halt) dX7_halt_34 rfl rfl ?_
        first | refine Z_some (M := mX7_halt) (by omega) ?_ | skip
        refine J_aload_n (M := mX7_halt) dX7_halt_35 rfl rfl ?_
        first | refine Z_some (M := mX7_halt) (by omega) ?_ | skip
        refine J_callV (M := mX7_halt) (as := []) dX7_halt_36 ca_X7_205 ⟨by decide, by decide⟩ (hk_16 (by first | exact rfl | assumption | exact Or.inl (by assumption) | exact Or.inr rfl | (show 0 ≤ _ ∧ _ < _; omega))) rfl (Nat.le_of_ble_eq_true rfl) (k' := 1) (n' := 6) (by decide) (by decide) (kX2_judge W V h8 hla) (fun v_36 h_36 hv_36 => ?_)
        obtain ⟨r_36, rfl, hv_36⟩ := hv_36
        obtain ⟨rfl, e_36⟩ := hv_36
        rw [e_36]
        refine J_putI (M := mX7_halt) dX7_halt_39 fi_X7_209 (hk_16 (by first | exact rfl | assumption | exact Or.inl (by assumption) | exact Or.inr rfl | (show 0 ≤ _ ∧ _ < _; omega))) (Nat.le_of_ble_eq_true rfl) ?_
        refine Z_h (M := mX7_halt) (hkp_36 (by first | exact rfl | assumption | exact Or.inl (by assumption) | exact Or.inr rfl | (show 0 ≤ _ ∧ _ < _; omega))) ?_
        refine J_aload_n (M := mX7_halt) dX7_halt_42 rfl rfl ?_
        first | refine Z_some (M := mX7_halt) (by omega) ?_ | skip
        refine J_aload_n (M := mX7_halt) dX7_halt_43 rfl rfl ?_
        first | refine Z_some (M := mX7_halt) (by omega) ?_ | skip
        refine J_callV (M := mX7_halt) (as := [_]) dX7_halt_44 ca_X7_212 ⟨by decide, by decide⟩ (hk_13 (by first | exact rfl | assumption | exact Or.inl (by assumption) | exact Or.inr rfl | (show 0 ≤ _ ∧ _ < _; omega))) rfl (Nat.le_of_ble_eq_true rfl) (k' := 1) (n' := 6) (by decide) (by decide) (kX0_keep V1 W' e13 p0 (by omega) hn2 hWR hBR) (fun v_44 h_44 hv_44 => ?_)
        obtain ⟨r_44, rfl, hv_44⟩ := hv_44
        obtain ⟨rfl, e_44⟩ := hv_44
        rw [e_44]
        refine J_aload_n (M := mX7_halt) dX7_halt_47 rfl rfl ?_
        refine J_getf (M := mX7_halt) dX7_halt_48 fi_X7_30 (hk_1 (by first | exact rfl | assumption | exact Or.inl (by assumption) | exact Or.inr rfl | (show 0 ≤ _ ∧ _ < _; omega))) rfl ?_
        refine J_null (M := mX7_halt) dX7_halt_51 ?_
        first | refine Z_uns (M := mX7_halt) (by omega) ?_ | refine Z_unn (M := mX7_halt) 16 ?_ | skip
        refine J_putR (M := mX7_halt) dX7_halt_52 fi_X7_101 rfl (hk_5 (by first | exact rfl | assumption | exact Or.inl (by assumption) | exact Or.inr rfl | (show 0 ≤ _ ∧ _ < _; omega))) (Nat.le_of_ble_eq_true rfl) ?_
        refine Z_h (M := mX7_halt) (hkp_41 (by first | exact rfl | assumption | exact Or.inl (by assumption) | exact Or.inr rfl | (show 0 ≤ _ ∧ _ < _; omega))) ?_
        refine J_aload_n (M := mX7_halt) dX7_halt_55 rfl rfl ?_
        refine J_getf (M := mX7_halt) dX7_halt_56 fi_X7_30 (hk_1 (by first | exact rfl | assumption | exact Or.inl (by assumption) | exact Or.inr rfl | (show 0 ≤ _ ∧ _ < _; omega))) rfl ?_
        refine Z_iconst (M := mX7_halt) dX7_halt_59 ?_
        refine J_putZ (M := mX7_halt) dX7_halt_60 fi_X7_216 (by first | exact pI_zb _ | exact zb_of (Or.inl rfl) | exact zb_of (Or.inr rfl) | exact zb_of (by omega)) (hk_5 (by first | exact rfl | assumption | exact Or.inl (by assumption) | exact Or.inr rfl | (show 0 ≤ _ ∧ _ < _; omega))) (Nat.le_of_ble_eq_true rfl) ?_
        refine Z_h (M := mX7_halt) (hkp_42 (by first | exact rfl | assumption | exact Or.inl (by assumption) | exact Or.inr rfl | (show 0 ≤ _ ∧ _ < _; omega))) ?_
        refine J_aload_n (M := mX7_halt) dX7_halt_63 rfl rfl ?_
        refine J_getf (M := mX7_halt) dX7_halt_64 fi_X7_37 (hk_1 (by first | exact rfl | assumption | exact Or.inl (by assumption) | exact Or.inr rfl | (show 0 ≤ _ ∧ _ < _; omega))) rfl ?_
        refine J_aload_n (M := mX7_halt) dX7_halt_67 rfl rfl ?_
        refine J_getf (M := mX7_halt) dX7_halt_68 fi_X7_30 (hk_1 (by first | exact rfl | assumption | exact Or.inl (by assumption) | exact Or.inr rfl | (show 0 ≤ _ ∧ _ < _; omega))) rfl ?_
        refine J_callV (M := mX7_halt) (as := [_]) dX7_halt_71 ca_X7_219 ⟨by decide, by decide⟩ (hk_6 (by first | exact rfl | assumption | exact Or.inl (by assumption) | exact Or.inr rfl | (show 0 ≤ _ ∧ _ < _; omega))) rfl (Nat.le_of_ble_eq_true rfl) (k' := 1) (n' := 6) (by decide) (by decide) (kX4_settle (τ := (ts (ts (ts τ 10 (slo (τ 17 0)) (τ 10 (slo (τ 17 0)) + 1)) 19 0 0) 20 0 1)) hSR) (fun v_71 h_71 hv_71 => ?_)
        obtain ⟨r_71, rfl, hv_71⟩ := hv_71
        obtain ⟨rfl, hS, hFr⟩ := hv_71
        obtain ⟨P2, x1, x2⟩ := tch_set hS hFr (show PH (ts (ts (ts (ts (kpt (ts ρ 36 (ρ 41 0) (jd τ (la τ))) (slo (τ 17 0)) (ρ 41 0)) 25 (slo (τ 17 0)) (te (ts (ts (ts τ 10 (slo (τ 17 0)) (τ 10 (slo (τ 17 0)) + 1)) 19 0 0) 20 0 1) (slo (τ 17 0))).1) 26 (slo (τ 17 0)) (te (ts (ts (ts τ 10 (slo (τ 17 0)) (τ 10 (slo (τ 17 0)) + 1)) 19 0 0) 20 0 1) (slo (τ 17 0))).2.1) 41 0 (-1)) 42 0 1) (ts (ts (ts τ 10 (slo (τ 17 0)) (τ 10 (slo (τ 17 0)) + 1)) 19 0 0) 20 0 1) (ρ 41 0) (la τ) from h8)
        have g36 : r_71 36 (ρ 41 0) = jd (cfd ((ts (ts (ts τ 10 (slo (τ 17 0)) (τ 10 (slo (τ 17 0)) + 1)) 19 0 0) 20 0 1) 21 0 - 1).toNat (ts (ts (ts τ 10 (slo (τ 17 0)) (τ 10 (slo (τ 17 0)) + 1)) 19 0 0) 20 0 1)) (12 * slo (τ 17 0) + τ 10 (slo (τ 17 0))) := by
          have e36 : (ts (ts (ts (ts (kpt (ts ρ 36 (ρ 41 0) (jd τ (la τ))) (slo (τ 17 0)) (ρ 41 0)) 25 (slo (τ 17 0)) (te (ts (ts (ts τ 10 (slo (τ 17 0)) (τ 10 (slo (τ 17 0)) + 1)) 19 0 0) 20 0 1) (slo (τ 17 0))).1) 26 (slo (τ 17 0)) (te (ts (ts (ts τ 10 (slo (τ 17 0)) (τ 10 (slo (τ 17 0)) + 1)) 19 0 0) 20 0 1) (slo (τ 17 0))).2.1) 41 0 (-1)) 42 0 1) 36 (ρ 41 0) = jd τ (la τ) := by
            rw [tsN (by decide), tsN (by decide), tsN (by decide), tsN (by decide)]
            unfold kpt
            rw [tsN (by decide), tsN (by decide), ts_self]
          rw [hFr.1 36 (by decide), x2, e36]
          rfl
        have g17 : r_71 17 (slo (τ 17 0)) = if slo (τ 17 0) < 66 then 1 else 0 := by rw [hFr.1 17 (by decide)]; exact h6.1.2.2.1
        have e13' : CE r_71 13 (slo (τ 17 0)) := by show r_71 48 (slo (τ 17 0)) = 1; rw [hFr.1 48 (by decide)]; exact e13
        refine J_aload_n (M := mX7_halt) dX7_halt_74 rfl rfl ?_
        first | refine Z_some (M := mX7_halt) (by omega) ?_ | skip
        refine J_aload_n (M := mX7_halt) dX7_halt_75 rfl rfl ?_
        first | refine Z_some (M := mX7_halt) (by omega) ?_ | skip
        refine J_callV (M := mX7_halt) (as := [_]) dX7_halt_76 ca_X7_223 ⟨by decide, by decide⟩ (hk_13 (by first | exact rfl | assumption | exact Or.inl (by assumption) | exact Or.inr rfl | (show 0 ≤ _ ∧ _ < _; omega))) rfl (Nat.le_of_ble_eq_true rfl) (k' := 1) (n' := 6) (by decide) (by decide) (kX0_touchesLeft (j := τ 10 (slo (τ 17 0))) hS.2.1 hS.2.2.2.2.2.2.2.2.2.2.2.2 hS.1 e13' g17 (by omega) P2 g36) (fun v_76 h_76 hv_76 => ?_)
        obtain ⟨r_76, rfl, hv_76⟩ := hv_76
        obtain ⟨rfl, e_76⟩ := hv_76
        rw [e_76]
        rw [x1]
        refine K_iretE dX7_halt_79 rfl ?_
        exact ⟨gl_0 ⟨h2, n10, n10⟩, rfl, RR_fol hB1 hFR rfl W' hS hFr⟩
      · omega
