/-! THE CLASS: allez -/
theorem la_ne {τ : TS} (W : WF τ) {b j : Int} (hs : τ 10 (slo (τ 17 0)) < 12) (j0 : 0 ≤ j) (j1 : j < τ 10 b) : ¬ 12 * b + j = la τ := by
  have w10 := wf10 W b
  have w10s := wf10 W (slo (τ 17 0))
  intro e
  unfold la at e
  have : b = slo (τ 17 0) := by omega
  subst this
  omega
/-- both sides of the bout on the piste are known -/
theorem fa_p {ρ τ : TS} {c : Int} (R : RR ρ τ c) (h1 : ¬ τ 17 0 = -1) (hB : isB τ (τ 17 0)) : 0 ≤ fa τ (τ 17 0) 0 ∧ 0 ≤ fa τ (τ 17 0) 1 := by
  have W := R.1
  have w21 := wf21 W 0
  by_cases q : 100 ≤ τ 17 0
  · have w9 := wf9 W 0
    have e := R.2.2.2.1.2.2.2.2.2.2.2.2.1 (τ 17 0 - 100) (by omega) (by omega) (by omega)
    unfold fa
    rw [if_pos q, if_pos q, Int.add_zero]
    exact e
  · unfold fa
    rw [if_neg q, if_neg q, if_pos rfl, if_neg (by decide)]
    exact ⟨(wf6 W _).1, (wf7 W _).1⟩
theorem RR_allez {ρ τ : TS} {c : Int} (R : RR ρ τ c) (hc : c ≤ 90000) (h1 : ¬ τ 17 0 = -1) (h2 : τ 19 0 = 0) (hwo : wo τ (τ 17 0) = -1) : RR (ts (ts (nph ρ (ρ 0 0) (τ 18 0) (τ 18 1)) 41 0 (ρ 47 2)) 49 (ρ 47 2) (la τ)) (ts (ts (ts (ts (ts (ts τ 12 (la τ) 0) 13 (2 * (la τ)) (τ 18 0)) 13 (2 * (la τ) + 1) (τ 18 1)) 14 (la τ) (-2)) 19 0 1) 20 0 0) (c + 1) := by
  have hpc := pst_c R
  have hid := (hpc.resolve_left (fun z => h1 z.1)).resolve_right (fun z => z.2.1 h2)
  obtain ⟨-, -, i3, i4, i5, i6, i7, i8, i9, i10⟩ := hid
  have hfa := fa_p R h1 i3
  have hcb := (cbf R i3).mpr ⟨hfa.1, hfa.2, hwo⟩
  obtain ⟨W, V, ⟨⟨a1, a2, a3, a4, a5, a6, a7, a8⟩, b1, b2, b3, b4, b5, b6⟩, S, Q, F⟩ := R
  have w10 := wf10 W (slo (τ 17 0))
  have w18 := wf18 W 0
  have w18b := wf18 W 1
  have w0 := wf0 W 0
  have hen : τ 10 (slo (τ 17 0)) < 12 := by
    have e := (te_r W (slo (τ 17 0))).2.2.2.2.2
    rw [hcb.2.2] at e
    by_cases z : 12 ≤ τ 10 (slo (τ 17 0))
    · rw [if_pos (Or.inr (Or.inr z))] at e
      split at e <;> omega
    · omega
  have hS := SN_live W i3
  have hla : 0 ≤ la τ := by unfold la; omega
  obtain ⟨r, hr⟩ : ∃ r, r = (ts (ts (nph ρ (ρ 0 0) (τ 18 0) (τ 18 1)) 41 0 (ρ 47 2)) 49 (ρ 47 2) (la τ)) := ⟨_, rfl⟩
  obtain ⟨t, ht⟩ : ∃ t, t = (ts (ts (ts (ts (ts (ts τ 12 (la τ) 0) 13 (2 * (la τ)) (τ 18 0)) 13 (2 * (la τ) + 1) (τ 18 1)) 14 (la τ) (-2)) 19 0 1) 20 0 0) := ⟨_, rfl⟩
  rw [← hr, ← ht]
  have ek : ∀ k, ¬ (27 ≤ k ∧ k ≤ 36) ∧ ¬ k = 41 ∧ ¬ k = 47 ∧ ¬ k = 49 → r k = ρ k := fun k hk => by rw [hr, ts_n (by omega), ts_n (by omega), nph_k (by omega)]
  have e47 : r 47 = upZ (ρ 47) 2 (ρ 47 2 + 1) := by
    rw [hr, ts_n (by decide), ts_n (by decide)]
    unfold nph
    rw [ts_s, ts_n (by decide), ts_n (by decide), ts_n (by decide), ts_n (by decide), ts_n (by decide), ts_n (by decide), ts_n (by decide), fs_n (by decide), fs_n (by decide), fs_n (by decide)]
  have e49 : r 49 = upZ (ρ 49) (ρ 47 2) (la τ) := by rw [hr, ts_s, ts_n (by decide), nph_k (by decide)]
  have en : ∀ k, 27 ≤ k ∧ k ≤ 36 → r k = nph ρ (ρ 0 0) (τ 18 0) (τ 18 1) k := fun k hk => by rw [hr, ts_n (by omega), ts_n (by omega)]
  have e41 : r 41 0 = ρ 47 2 := by rw [hr, tsN (by decide), ts_self]
  have et : ∀ k, ¬ (12 ≤ k ∧ k ≤ 14) ∧ ¬ k = 19 ∧ ¬ k = 20 → t k = τ k := fun k hk => by rw [ht, ts_n (by omega), ts_n (by omega), ts_n (by omega), ts_n (by omega), ts_n (by omega), ts_n (by omega)]
  have t12 : t 12 = upZ (τ 12) (la τ) 0 := by rw [ht, ts_n (by decide), ts_n (by decide), ts_n (by decide), ts_n (by decide), ts_n (by decide), ts_s]
  have t13 : t 13 = upZ (upZ (τ 13) (2 * la τ) (τ 18 0)) (2 * la τ + 1) (τ 18 1) := by rw [ht, ts_n (by decide), ts_n (by decide), ts_n (by decide), ts_s, ts_s, ts_n (by decide)]
  have t14 : t 14 = upZ (τ 14) (la τ) (-2) := by rw [ht, ts_n (by decide), ts_n (by decide), ts_s, ts_n (by decide), ts_n (by decide), ts_n (by decide)]
  have t19 : t 19 0 = 1 := by rw [ht, tsN (by decide), ts_self]
  have tla : la t = la τ := by unfold la; rw [et 17 (by decide), et 10 (by decide)]
  have u1 : upZ (ρ 47) 2 (ρ 47 2 + 1) 1 = ρ 47 1 := upZ_ne (by decide)
  have u2 : upZ (ρ 47) 2 (ρ 47 2 + 1) 2 = ρ 47 2 + 1 := upZ_at
  have u0 : upZ (ρ 47) 2 (ρ 47 2 + 1) 0 = ρ 47 0 := upZ_ne (by decide)
  have W' : WF t := by rw [ht]; exact WF_ts (WF_ts (WF_ts (WF_ts (WF_ts (WF_ts W (by decide)) w18) w18b) (by decide)) (by decide)) (by decide)
  have V' : WK r := by
    have z8 : ∀ k, (k = 30 ∨ k = 31 ∨ k = 32) → ∀ i, (bK k).1 ≤ zr8 (ρ k) (ρ 47 2) i ∧ zr8 (ρ k) (ρ 47 2) i ≤ (bK k).2 := fun k hk i => by
      have e := V k i (by omega) (by omega)
      unfold zr8
      rcases hk with rfl | rfl | rfl <;> (split; decide; exact e)
    have V1 : WK (nph ρ (ρ 0 0) (τ 18 0) (τ 18 1)) := by
      intro k j k1 k2
      unfold nph
      rw [ts_n (by omega)]
      exact WK_ts (WK_ts (WK_ts (WK_ts (WK_ts (WK_ts (WK_ts (WK_fs (WK_fs (WK_fs V (z8 30 (by decide))) (z8 31 (by decide))) (z8 32 (by decide))) (show (0 : Int) ≤ _ ∧ _ ≤ (1 : Int) by omega)) w18) w18b) (by decide)) (by decide)) (by decide)) (by decide) k j k1 k2
    rw [hr]
    intro k j k1 k2
    rw [ts_n (by omega)]
    exact WK_ts V1 (show (-1 : Int) ≤ _ ∧ _ ≤ (100000 : Int) by omega) k j k1 k2
  have E : EQP t τ (la τ) := by
    refine ⟨et 0 (by decide), et 3 (by decide), et 4 (by decide), fun f hf => ⟨?_, ?_⟩, fun z hz => ?_, fun z _ => ⟨by rw [et 15 (by decide)], by rw [et 16 (by decide)]⟩⟩
    · rw [t12, upZ_ne hf]
    · rw [t14, upZ_ne hf]
    · rw [t13, upZ_ne (by omega), upZ_ne (by omega)]
  have D : EQR r ρ (ρ 47 2) := by
    refine ⟨by rw [e47, u1]; omega, by rw [e47, u2]; omega, fun q hq => ⟨?_, ?_, ?_, ?_, ?_, ?_, ?_, ?_⟩, fun z hz => ⟨?_, ?_, ?_⟩⟩
    · rw [en 27 (by decide), nph_27, upZ_ne hq]
    · rw [en 28 (by decide), nph_28, upZ_ne hq]
    · rw [en 29 (by decide), nph_29, upZ_ne hq]
    · rw [en 33 (by decide), nph_33, upZ_ne hq]
    · rw [en 34 (by decide), nph_34, upZ_ne hq]
    · rw [en 35 (by decide), nph_35, upZ_ne hq]
    · rw [en 36 (by decide), nph_36, upZ_ne hq]
    · rw [e49, upZ_ne hq]
    · rw [en 30 (by decide), nph_30.1]; unfold zr8; rw [if_neg (by omega)]
    · rw [en 31 (by decide), nph_30.2.1]; unfold zr8; rw [if_neg (by omega)]
    · rw [en 32 (by decide), nph_30.2.2]; unfold zr8; rw [if_neg (by omega)]
  refine ⟨W', V', ⟨?_, ?_, ?_, ?_, ?_, ?_, ?_⟩, ?_, ⟨fun q => ?_, fun _ => ?_⟩, ?_⟩
  · rw [ek 0 (by decide), ek 1 (by decide), ek 2 (by decide), ek 3 (by decide), e47, u0, u1, u2, et 0 (by decide), et 1 (by decide), et 5 (by decide), et 9 (by decide)]
    exact ⟨a1, a2, a3, a4, a5, a6, by omega, by omega⟩
  · rw [et 1 (by decide), ek 4 (by decide), ek 8 (by decide)]; exact b1
  · rw [et 5 (by decide), et 2 (by decide), ek 5 (by decide), ek 13 (by decide), ek 14 (by decide)]; exact b2
  · rw [et 5 (by decide), et 4 (by decide)]; exact b3
  · rw [ek 6 (by decide), ek 18 (by decide), ek 19 (by decide), et 9 (by decide), et 6 (by decide), et 7 (by decide), et 1 (by decide)]; exact b4
  · rw [et 8 (by decide), et 9 (by decide)]; exact b5
  · rw [et 21 (by decide), et 9 (by decide)]; exact b6
  · refine SN_E (p := ρ 47 2) (f0 := la τ) S E D W (fun k hk => ek k (by omega)) (fun k hk => et k (by omega)) (fun b hb j j0 j1 => ⟨la_ne W hen j0 j1, ?_⟩) ?_
    · have p := ((S.2.2.1 b hb).1.2.2.2.2.2 j j0 j1).1.1
      omega
    · unfold WR
      rw [e47, u1, ek 15 (by decide), ek 16 (by decide), et 3 (by decide), et 4 (by decide)]
      exact S.2.2.2.2.2.2.2.2.2
  · rw [t19] at q
    exact absurd q (by decide)
  · unfold PN VB
    rw [tla, et 17 (by decide), et 18 (by decide), et 10 (by decide), et 9 (by decide), et 21 (by decide), ek 37 (by decide), ek 38 (by decide), ek 39 (by decide), ek 40 (by decide), e41, e47, u1]
    refine ⟨h1, (VB_B W).mpr i3, (Q.1 h2).2.1, i4, i5, ?_, hen⟩
    unfold PH
    rw [e47, u1, u2, en 27 (by decide), en 28 (by decide), en 29 (by decide), en 33 (by decide), en 34 (by decide), en 35 (by decide), nph_27, nph_28, nph_29, nph_33, nph_34, nph_35, e49, t12, t13, t14, et 0 (by decide), upZ_at, upZ_at, upZ_at, upZ_at, upZ_at, upZ_at, upZ_at, upZ_at, upZ_at, upZ_at, upZ_ne (show ¬ 2 * la τ = 2 * la τ + 1 by omega), upZ_at]
    exact ⟨⟨a7, by omega⟩, ⟨a1, rfl⟩, ⟨rfl, i5.2.2.1⟩, ⟨rfl, i5.2.2.2⟩, rfl, ⟨fun _ => rfl, fun _ => rfl⟩, fun z => absurd rfl z, fun e e0 e1 => by omega, fun e e' x0 x1 x2 => by omega⟩
  · unfold FRE LVb
    rw [ek 48 (by decide), et 9 (by decide), et 10 (by decide), et 11 (by decide), et 21 (by decide)]
    exact F
set_option maxRecDepth 100000 in
set_option maxHeartbeats 4000000 in
theorem p_allez {X : GX} {h : LH} {ρ τ : TS} {c : Int} (R : RR ρ τ c) (hc : c ≤ 90000) : CX X mX7_allez [vR (some (1, 0))] h ρ (PX (gl (pI ((¬ τ 17 0 = -1 ∧ τ 19 0 = 0 ∧ τ 3 (τ 18 0) = 1 ∧ τ 3 (τ 18 1) = 1) ∧ wo τ (τ 17 0) = -1)) 1 1) (τ 10 (slo (τ 17 0))) (fun r => RR r (ts (ts (ts (ts (ts (ts τ 12 (la τ) 0) 13 (2 * (la τ)) (τ 18 0)) 13 (2 * (la τ) + 1) (τ 18 1)) 14 (la τ) (-2)) 19 0 1) 20 0 0) (c + 1))) (EM [0] (gl (pI ((¬ τ 17 0 = -1 ∧ τ 19 0 = 0 ∧ τ 3 (τ 18 0) = 1 ∧ τ 3 (τ 18 1) = 1) ∧ wo τ (τ 17 0) = -1)) 1 1)) := by
  have W := R.1
  have V := R.2.1
  have w18 := wf18 W 0
  have w18b := wf18 W 1
  have a7 := R.2.2.1.1.2.2.2.2.2.2.1
  have w0 := wf0 W 0
  have b00 : ρ 0 0 = 0 ∨ ρ 0 0 = 1 := by have := R.2.2.1.1.1; omega
  have f16 : ¬ CE ρ 16 (ρ 47 2) := fun z => by have := z.2; omega
  refine CT_of (by decide +kernel) rfl (Nat.le_of_ble_eq_true rfl) ?_
  rcases pst_c R with ⟨h1, h2, h3, h4, h5, h6, h7⟩ | ⟨h1, h2, h3, h4, h5, h6, h7, h8, h9, h10⟩ | ⟨h1, h2, h3, h4, h5, h6, h7, h8, h9⟩
  · refine J_aload_n (M := mX7_allez) dX7_allez_0 rfl rfl ?_
    refine J_getf (M := mX7_allez) dX7_allez_1 fi_X7_30 (hk_1 (by first | exact rfl | assumption | exact Or.inl (by assumption) | exact Or.inr rfl | (show 0 ≤ _ ∧ _ < _; omega))) rfl ?_
    refine J_getf (M := mX7_allez) dX7_allez_4 fi_X7_149 (hk_5 (by first | exact rfl | assumption | exact Or.inl (by assumption) | exact Or.inr rfl | (show 0 ≤ _ ∧ _ < _; omega))) rfl ?_
    refine Z_rwb (M := mX7_allez) (g := ρ 38) (wk38 V) rfl (fun wb_38_3 => ?_)
    first | refine Z_some (M := mX7_allez) (by omega) ?_ | skip
    refine J_astore_n (M := mX7_allez) dX7_allez_7 rfl (by decide) ?_
    refine J_aload_n (M := mX7_allez) dX7_allez_8 rfl rfl ?_
    refine J_getf (M := mX7_allez) dX7_allez_9 fi_X7_30 (hk_1 (by first | exact rfl | assumption | exact Or.inl (by assumption) | exact Or.inr rfl | (show 0 ≤ _ ∧ _ < _; omega))) rfl ?_
    refine J_getf (M := mX7_allez) dX7_allez_12 fi_X7_167 (hk_5 (by first | exact rfl | assumption | exact Or.inl (by assumption) | exact Or.inr rfl | (show 0 ≤ _ ∧ _ < _; omega))) rfl ?_
    refine Z_rwb (M := mX7_allez) (g := ρ 39) (wk39 V) rfl (fun wb_39_9 => ?_)
    first | refine Z_some (M := mX7_allez) (by omega) ?_ | skip
    refine J_astore_n (M := mX7_allez) dX7_allez_15 rfl (by decide) ?_
    refine J_aload_n (M := mX7_allez) dX7_allez_16 rfl rfl ?_
    refine J_getf (M := mX7_allez) dX7_allez_17 fi_X7_30 (hk_1 (by first | exact rfl | assumption | exact Or.inl (by assumption) | exact Or.inr rfl | (show 0 ≤ _ ∧ _ < _; omega))) rfl ?_
    refine J_getf (M := mX7_allez) dX7_allez_20 fi_X7_170 (hk_5 (by first | exact rfl | assumption | exact Or.inl (by assumption) | exact Or.inr rfl | (show 0 ≤ _ ∧ _ < _; omega))) rfl ?_
    refine Z_rwb (M := mX7_allez) (g := ρ 40) (wk40 V) rfl (fun wb_40_15 => ?_)
    first | refine Z_some (M := mX7_allez) (by omega) ?_ | skip
    refine J_astore_n (M := mX7_allez) dX7_allez_23 rfl (by decide) ?_
    refine J_aload_n (M := mX7_allez) dX7_allez_24 rfl rfl ?_
    first | refine Z_some (M := mX7_allez) (by omega) ?_ | skip
    first | refine Z_uns (M := mX7_allez) (by omega) ?_ | skip
    refine K_ifnull (tgt := 46) dX7_allez_25 (by decide) (fun c_25 => ?_) (fun c_25 => ?_)
    · refine K_thr (M := mX7_allez) rfl rfl ti_60_153_64 (by decide) (by decide) (by decide) (by decide) (Or.inl ⟨dX7_allez_46, dX7_allez_49, dX7_allez_50, dX7_allez_52, dX7_allez_55⟩) ?_
      first
        | exact EM_1 (pI_f (by omega)) rfl
        | exact EM_2 (pI_n0.mpr (by omega)) (pI_f (by omega)) rfl
        | exact EM_3 (pI_n0.mpr (by omega)) (pI_n0.mpr (by omega)) (pI_f (by omega)) rfl
    · omega
  · have hlv := (SN_live W h3).2.2
    have e13 : CE ρ 13 (slo (τ 17 0)) := h6.1.2.1
    have g4 := h6.1.2.2.2.1
    have g5 := h6.1.2.2.2.2.1
    have t12 := h6.2.1
    have hf := fa_p R h1 h3
    have hw0 : ρ 15 (τ 18 0) = τ 3 (τ 18 0) := (R.2.2.2.1.2.2.2.2.2.2.2.2.2 (τ 18 0) w18.1 h5.2.2.1).1
    have hw1 : ρ 15 (τ 18 1) = τ 3 (τ 18 1) := (R.2.2.2.1.2.2.2.2.2.2.2.2.2 (τ 18 1) w18b.1 h5.2.2.2).1
    refine J_aload_n (M := mX7_allez) dX7_allez_0 rfl rfl ?_
    refine J_getf (M := mX7_allez) dX7_allez_1 fi_X7_30 (hk_1 (by first | exact rfl | assumption | exact Or.inl (by assumption) | exact Or.inr rfl | (show 0 ≤ _ ∧ _ < _; omega))) rfl ?_
    refine J_getf (M := mX7_allez) dX7_allez_4 fi_X7_149 (hk_5 (by first | exact rfl | assumption | exact Or.inl (by assumption) | exact Or.inr rfl | (show 0 ≤ _ ∧ _ < _; omega))) rfl ?_
    refine Z_rwb (M := mX7_allez) (g := ρ 38) (wk38 V) rfl (fun wb_38_3 => ?_)
    first | refine Z_some (M := mX7_allez) (by omega) ?_ | skip
    refine Z_req (M := mX7_allez) (congrArg (fun z => some (13, z)) h4) ?_
    refine J_astore_n (M := mX7_allez) dX7_allez_7 rfl (by decide) ?_
    refine J_aload_n (M := mX7_allez) dX7_allez_8 rfl rfl ?_
    refine J_getf (M := mX7_allez) dX7_allez_9 fi_X7_30 (hk_1 (by first | exact rfl | assumption | exact Or.inl (by assumption) | exact Or.inr rfl | (show 0 ≤ _ ∧ _ < _; omega))) rfl ?_
    refine J_getf (M := mX7_allez) dX7_allez_12 fi_X7_167 (hk_5 (by first | exact rfl | assumption | exact Or.inl (by assumption) | exact Or.inr rfl | (show 0 ≤ _ ∧ _ < _; omega))) rfl ?_
    refine Z_rwb (M := mX7_allez) (g := ρ 39) (wk39 V) rfl (fun wb_39_10 => ?_)
    first | refine Z_some (M := mX7_allez) (by omega) ?_ | skip
    refine Z_req (M := mX7_allez) (congrArg (fun z => some (12, z)) h5.1) ?_
    refine J_astore_n (M := mX7_allez) dX7_allez_15 rfl (by decide) ?_
    refine J_aload_n (M := mX7_allez) dX7_allez_16 rfl rfl ?_
    refine J_getf (M := mX7_allez) dX7_allez_17 fi_X7_30 (hk_1 (by first | exact rfl | assumption | exact Or.inl (by assumption) | exact Or.inr rfl | (show 0 ≤ _ ∧ _ < _; omega))) rfl ?_
    refine J_getf (M := mX7_allez) dX7_allez_20 fi_X7_170 (hk_5 (by first | exact rfl | assumption | exact Or.inl (by assumption) | exact Or.inr rfl | (show 0 ≤ _ ∧ _ < _; omega))) rfl ?_
    refine Z_rwb (M := mX7_allez) (g := ρ 40) (wk40 V) rfl (fun wb_40_17 => ?_)
    first | refine Z_some (M := mX7_allez) (by omega) ?_ | skip
    refine Z_req (M := mX7_allez) (congrArg (fun z => some (12, z)) h5.2.1) ?_
    refine J_astore_n (M := mX7_allez) dX7_allez_23 rfl (by decide) ?_
    refine J_aload_n (M := mX7_allez) dX7_allez_24 rfl rfl ?_
    first | refine Z_some (M := mX7_allez) (by omega) ?_ | skip
    first | refine Z_uns (M := mX7_allez) (by omega) ?_ | skip
    refine K_ifnull (tgt := 46) dX7_allez_25 (by decide) (fun c_25 => ?_) (fun c_25 => ?_)
    · omega
    · refine J_aload_n (M := mX7_allez) dX7_allez_28 rfl rfl ?_
      first | refine Z_some (M := mX7_allez) (by omega) ?_ | skip
      first | refine Z_uns (M := mX7_allez) (by omega) ?_ | skip
      refine K_ifnull (tgt := 46) dX7_allez_29 (by decide) (fun c_29 => ?_) (fun c_29 => ?_)
      · omega
      · refine J_aload_n (M := mX7_allez) dX7_allez_32 rfl rfl ?_
        first | refine Z_some (M := mX7_allez) (by omega) ?_ | skip
        first | refine Z_uns (M := mX7_allez) (by omega) ?_ | skip
        refine K_ifnull (tgt := 46) dX7_allez_33 (by decide) (fun c_33 => ?_) (fun c_33 => ?_)
        · omega
        · refine J_aload_n (M := mX7_allez) dX7_allez_36 rfl rfl ?_
          refine J_getf (M := mX7_allez) dX7_allez_37 fi_X7_30 (hk_1 (by first | exact rfl | assumption | exact Or.inl (by assumption) | exact Or.inr rfl | (show 0 ≤ _ ∧ _ < _; omega))) rfl ?_
          refine J_getf (M := mX7_allez) dX7_allez_40 fi_X7_101 (hk_5 (by first | exact rfl | assumption | exact Or.inl (by assumption) | exact Or.inr rfl | (show 0 ≤ _ ∧ _ < _; omega))) rfl ?_
          refine Z_rwb (M := mX7_allez) (g := ρ 41) (wk41 V) rfl (fun wb_41_36 => ?_)
          first | refine Z_some (M := mX7_allez) (by omega) ?_ | skip
          first | refine Z_uns (M := mX7_allez) (by omega) ?_ | skip
          refine K_ifnull (tgt := 56) dX7_allez_43 (by decide) (fun c_43 => ?_) (fun c_43 => ?_)
          · refine J_aload_n (M := mX7_allez) dX7_allez_56 rfl rfl ?_
            first | refine Z_some (M := mX7_allez) (by omega) ?_ | skip
            refine J_callV (M := mX7_allez) (as := []) dX7_allez_57 ca_X7_120 ⟨by decide, by decide⟩ (hk_13 (by first | exact rfl | assumption | exact Or.inl (by assumption) | exact Or.inr rfl | (show 0 ≤ _ ∧ _ < _; omega))) rfl (Nat.le_of_ble_eq_true rfl) (k' := 4) (n' := 34) (by decide) (by decide) (kX0_canBeFenced V W e13 g4 g5 t12) (fun v_57 h_57 hv_57 => ?_)
            obtain ⟨r_57, rfl, hv_57⟩ := hv_57
            obtain ⟨rfl, e_57⟩ := hv_57
            rw [e_57]
            first
              | refine Z_pf (M := mX7_allez) (tgt := 79) dX7_allez_60 (by decide) (fun c_60 => ?_) (fun c_60 => ?_)
              | refine Z_if_eq (M := mX7_allez) (tgt := 79) (by first | assumption | exact pI_rg _ | (unfold rg; omega)) dX7_allez_60 (by decide) (fun c_60 => ?_) (fun c_60 => ?_)
            · refine K_thr (M := mX7_allez) rfl rfl ti_60_172_64 (by decide) (by decide) (by decide) (by decide) (Or.inl ⟨dX7_allez_79, dX7_allez_82, dX7_allez_83, dX7_allez_85, dX7_allez_88⟩) ?_
              refine EM_1 (pI_f (fun q => ?_)) rfl
              first
                | exact c_60 ((cbf R h3).mpr ⟨hf.1, hf.2, q.2⟩)
                | exact c_68 (by rw [hw0]; exact q.1.2.2.1)
                | exact c_76 (by rw [hw1]; exact q.1.2.2.2)
            · refine J_aload_n (M := mX7_allez) dX7_allez_63 rfl rfl ?_
              first | refine Z_some (M := mX7_allez) (by omega) ?_ | skip
              refine J_getf (M := mX7_allez) dX7_allez_64 fi_X7_98 (hk_12 (by first | exact rfl | assumption | exact Or.inl (by assumption) | exact Or.inr rfl | (show 0 ≤ _ ∧ _ < _; omega))) rfl ?_
              refine Z_wb (M := mX7_allez) (g := ρ 15) (wk15 V) rfl (fun wb_15_50 => ?_)
              refine Z_iconst (M := mX7_allez) dX7_allez_67 ?_
              refine Z_ic_ne (M := mX7_allez) (tgt := 79) (by first | assumption | exact pI_rg _ | (unfold rg; omega)) (by first | assumption | exact pI_rg _ | (unfold rg; omega)) dX7_allez_68 (by decide) (fun c_68 => ?_) (fun c_68 => ?_)
              · refine K_thr (M := mX7_allez) rfl rfl ti_60_172_64 (by decide) (by decide) (by decide) (by decide) (Or.inl ⟨dX7_allez_79, dX7_allez_82, dX7_allez_83, dX7_allez_85, dX7_allez_88⟩) ?_
                refine EM_1 (pI_f (fun q => ?_)) rfl
                first
                  | exact c_60 ((cbf R h3).mpr ⟨hf.1, hf.2, q.2⟩)
                  | exact c_68 (by rw [hw0]; exact q.1.2.2.1)
                  | exact c_76 (by rw [hw1]; exact q.1.2.2.2)
              · refine J_aload_n (M := mX7_allez) dX7_allez_71 rfl rfl ?_
                first | refine Z_some (M := mX7_allez) (by omega) ?_ | skip
                refine J_getf (M := mX7_allez) dX7_allez_72 fi_X7_98 (hk_12 (by first | exact rfl | assumption | exact Or.inl (by assumption) | exact Or.inr rfl | (show 0 ≤ _ ∧ _ < _; omega))) rfl ?_
                refine Z_wb (M := mX7_allez) (g := ρ 15) (wk15 V) rfl (fun wb_15_58 => ?_)
                refine Z_iconst (M := mX7_allez) dX7_allez_75 ?_
                refine Z_ic_eq (M := mX7_allez) (tgt := 89) (by first | assumption | exact pI_rg _ | (unfold rg; omega)) (by first | assumption | exact pI_rg _ | (unfold rg; omega)) dX7_allez_76 (by decide) (fun c_76 => ?_) (fun c_76 => ?_)
                · refine J_aload_n (M := mX7_allez) dX7_allez_89 rfl rfl ?_
                  refine J_getf (M := mX7_allez) dX7_allez_90 fi_X7_30 (hk_1 (by first | exact rfl | assumption | exact Or.inl (by assumption) | exact Or.inr rfl | (show 0 ≤ _ ∧ _ < _; omega))) rfl ?_
                  refine J_le (M := mX7_allez) (k' := 3 + 1) (n' := 24 + 10) (by decide) (by decide) ?_
                  refine J_new (M := mX7_allez) dX7_allez_93 ni_X7_174 (hk_fr (by decide) f16) (tg_ne (by decide)) ?_
                  refine J_dup (M := mX7_allez) dX7_allez_96 rfl ?_
                  refine J_aload_n (M := mX7_allez) dX7_allez_97 rfl rfl ?_
                  refine J_getf (M := mX7_allez) dX7_allez_98 fi_X7_48 ((hup_n (tg_ne (by decide))).trans (hk_1 rfl)) rfl ?_
                  refine Z_eq (M := mX7_allez) (b := ρ 0 0) rfl ?_
                  refine J_aload_n (M := mX7_allez) dX7_allez_101 rfl rfl ?_
                  first | refine Z_some (M := mX7_allez) (by omega) ?_ | skip
                  refine J_aload_n (M := mX7_allez) dX7_allez_102 rfl rfl ?_
                  first | refine Z_some (M := mX7_allez) (by omega) ?_ | skip
                  refine J_callI (M := mX7_allez) (as := [_, _, _]) dX7_allez_103 ca_X7_176 rfl ⟨by decide, by decide⟩ rfl (Nat.le_of_ble_eq_true rfl) (k' := 0) (n' := 0) (by decide) (by decide) (kX2_init a7 b00 (by omega) (by omega)) (fun v_103 h_103 hv_103 => ?_)
                  obtain ⟨r_103, rfl, rfl, e_103⟩ := hv_103
                  rw [e_103]
                  first | refine Z_uns (M := mX7_allez) (by omega) ?_ | refine Z_unn (M := mX7_allez) 16 ?_ | skip
                  refine J_putR (M := mX7_allez) dX7_allez_106 fi_X7_101 rfl (hk_5 (by first | exact rfl | assumption | exact Or.inl (by assumption) | exact Or.inr rfl | (show 0 ≤ _ ∧ _ < _; omega))) (Nat.le_of_ble_eq_true rfl) ?_
                  refine Z_h (M := mX7_allez) (hkp_41 (by first | exact rfl | assumption | exact Or.inl (by assumption) | exact Or.inr rfl | (show 0 ≤ _ ∧ _ < _; omega))) ?_
                  refine J_aload_n (M := mX7_allez) dX7_allez_109 rfl rfl ?_
                  first | refine Z_some (M := mX7_allez) (by omega) ?_ | skip
                  refine J_getf (M := mX7_allez) dX7_allez_110 fi_X7_141 (hk_13 (by first | exact rfl | assumption | exact Or.inl (by assumption) | exact Or.inr rfl | (show 0 ≤ _ ∧ _ < _; omega))) rfl ?_
                  refine Z_wb (M := mX7_allez) (g := ρ 20) (wk20 V) rfl (fun wb_20_78 => ?_)
                  refine Z_h (M := mX7_allez) (hk_49 (ρ 47 2) (la τ)) ?_
                  refine K_iretE dX7_allez_113 rfl ?_
                  exact ⟨gl_0 ⟨pI_n0.mpr ⟨⟨h1, h2, by rw [← hw0]; exact c_68, by rw [← hw1]; exact c_76⟩, ((cbf R h3).mp c_60).2.2⟩, n10, n10⟩, (by rw [g5]), RR_allez R hc h1 h2 ((cbf R h3).mp c_60).2.2⟩
                · refine K_thr (M := mX7_allez) rfl rfl ti_60_172_64 (by decide) (by decide) (by decide) (by decide) (Or.inl ⟨dX7_allez_79, dX7_allez_82, dX7_allez_83, dX7_allez_85, dX7_allez_88⟩) ?_
                  refine EM_1 (pI_f (fun q => ?_)) rfl
                  first
                    | exact c_60 ((cbf R h3).mpr ⟨hf.1, hf.2, q.2⟩)
                    | exact c_68 (by rw [hw0]; exact q.1.2.2.1)
                    | exact c_76 (by rw [hw1]; exact q.1.2.2.2)
          · omega
  · have hlv := (SN_live W h3).2.2
    have p0 := h8.1
    refine J_aload_n (M := mX7_allez) dX7_allez_0 rfl rfl ?_
    refine J_getf (M := mX7_allez) dX7_allez_1 fi_X7_30 (hk_1 (by first | exact rfl | assumption | exact Or.inl (by assumption) | exact Or.inr rfl | (show 0 ≤ _ ∧ _ < _; omega))) rfl ?_
    refine J_getf (M := mX7_allez) dX7_allez_4 fi_X7_149 (hk_5 (by first | exact rfl | assumption | exact Or.inl (by assumption) | exact Or.inr rfl | (show 0 ≤ _ ∧ _ < _; omega))) rfl ?_
    refine Z_rwb (M := mX7_allez) (g := ρ 38) (wk38 V) rfl (fun wb_38_3 => ?_)
    first | refine Z_some (M := mX7_allez) (by omega) ?_ | skip
    refine J_astore_n (M := mX7_allez) dX7_allez_7 rfl (by decide) ?_
    refine J_aload_n (M := mX7_allez) dX7_allez_8 rfl rfl ?_
    refine J_getf (M := mX7_allez) dX7_allez_9 fi_X7_30 (hk_1 (by first | exact rfl | assumption | exact Or.inl (by assumption) | exact Or.inr rfl | (show 0 ≤ _ ∧ _ < _; omega))) rfl ?_
    refine J_getf (M := mX7_allez) dX7_allez_12 fi_X7_167 (hk_5 (by first | exact rfl | assumption | exact Or.inl (by assumption) | exact Or.inr rfl | (show 0 ≤ _ ∧ _ < _; omega))) rfl ?_
    refine Z_rwb (M := mX7_allez) (g := ρ 39) (wk39 V) rfl (fun wb_39_9 => ?_)
    first | refine Z_some (M := mX7_allez) (by omega) ?_ | skip
    refine J_astore_n (M := mX7_allez) dX7_allez_15 rfl (by decide) ?_
    refine J_aload_n (M := mX7_allez) dX7_allez_16 rfl rfl ?_
    refine J_getf (M := mX7_allez) dX7_allez_17 fi_X7_30 (hk_1 (by first | exact rfl | assumption | exact Or.inl (by assumption) | exact Or.inr rfl | (show 0 ≤ _ ∧ _ < _; omega))) rfl ?_
    refine J_getf (M := mX7_allez) dX7_allez_20 fi_X7_170 (hk_5 (by first | exact rfl | assumption | exact Or.inl (by assumption) | exact Or.inr rfl | (show 0 ≤ _ ∧ _ < _; omega))) rfl ?_
    refine Z_rwb (M := mX7_allez) (g := ρ 40) (wk40 V) rfl (fun wb_40_15 => ?_)
    first | refine Z_some (M := mX7_allez) (by omega) ?_ | skip
    refine J_astore_n (M := mX7_allez) dX7_allez_23 rfl (by decide) ?_
    refine J_aload_n (M := mX7_allez) dX7_allez_24 rfl rfl ?_
    first | refine Z_some (M := mX7_allez) (by omega) ?_ | skip
    first | refine Z_uns (M := mX7_allez) (by omega) ?_ | skip
    refine K_ifnull (tgt := 46) dX7_allez_25 (by decide) (fun c_25 => ?_) (fun c_25 => ?_)
    · omega
    · refine J_aload_n (M := mX7_allez) dX7_allez_28 rfl rfl ?_
      first | refine Z_some (M := mX7_allez) (by omega) ?_ | skip
      first | refine Z_uns (M := mX7_allez) (by omega) ?_ | skip
      refine K_ifnull (tgt := 46) dX7_allez_29 (by decide) (fun c_29 => ?_) (fun c_29 => ?_)
      · omega
      · refine J_aload_n (M := mX7_allez) dX7_allez_32 rfl rfl ?_
        first | refine Z_some (M := mX7_allez) (by omega) ?_ | skip
        first | refine Z_uns (M := mX7_allez) (by omega) ?_ | skip
        refine K_ifnull (tgt := 46) dX7_allez_33 (by decide) (fun c_33 => ?_) (fun c_33 => ?_)
        · omega
        · refine J_aload_n (M := mX7_allez) dX7_allez_36 rfl rfl ?_
          refine J_getf (M := mX7_allez) dX7_allez_37 fi_X7_30 (hk_1 (by first | exact rfl | assumption | exact Or.inl (by assumption) | exact Or.inr rfl | (show 0 ≤ _ ∧ _ < _; omega))) rfl ?_
          refine J_getf (M := mX7_allez) dX7_allez_40 fi_X7_101 (hk_5 (by first | exact rfl | assumption | exact Or.inl (by assumption) | exact Or.inr rfl | (show 0 ≤ _ ∧ _ < _; omega))) rfl ?_
          refine Z_rwb (M := mX7_allez) (g := ρ 41) (wk41 V) rfl (fun wb_41_33 => ?_)
          first | refine Z_some (M := mX7_allez) (by omega) ?_ | skip
          first | refine Z_uns (M := mX7_allez) (by omega) ?_ | skip
          refine K_ifnull (tgt := 56) dX7_allez_43 (by decide) (fun c_43 => ?_) (fun c_43 => ?_)
          · omega
          · refine K_thr (M := mX7_allez) rfl rfl ti_60_153_64 (by decide) (by decide) (by decide) (by decide) (Or.inl ⟨dX7_allez_46, dX7_allez_49, dX7_allez_50, dX7_allez_52, dX7_allez_55⟩) ?_
            first
              | exact EM_1 (pI_f (by omega)) rfl
              | exact EM_2 (pI_n0.mpr (by omega)) (pI_f (by omega)) rfl
              | exact EM_3 (pI_n0.mpr (by omega)) (pI_n0.mpr (by omega)) (pI_f (by omega)) rfl
