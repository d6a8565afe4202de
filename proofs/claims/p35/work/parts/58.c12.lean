/-! THE CLASS: fencer, weapon, allez -/
theorem nI8 : iI 8 = nI 8 := by rw [iI_nI]; rfl
set_option maxRecDepth 100000 in
set_option maxHeartbeats 4000000 in
theorem kX1_init {X : GX} {h : LH} {ρ : TS} {i n : Int} (e : CE ρ 11 i) : CK X mX1_init [vR (some (11, i)), vI (iI n)] h ρ (fun v r => v = none ∧ r = ts ρ 8 i n) := by
  refine CT_of (by decide +kernel) rfl (Nat.le_of_ble_eq_true rfl) ?_
  refine J_aload_n (M := mX1_init) dX1_init_0 rfl rfl ?_
  refine J_obj (M := mX1_init) dX1_init_1 ob_X1_1 ob_i ob_c (by decide) (by decide) ?_
  refine J_aload_n (M := mX1_init) dX1_init_4 rfl rfl ?_
  refine J_iload_n (M := mX1_init) dX1_init_5 rfl rfl ?_
  refine J_putFI (M := mX1_init) dX1_init_6 fi_X1_7 rfl rfl (hk_11 (by first | exact rfl | assumption | exact Or.inl (by assumption) | exact Or.inr rfl | (show 0 ≤ _ ∧ _ < _; omega))) (Nat.le_of_ble_eq_true rfl) ?_
  refine Z_h (M := mX1_init) (hkp_8 (by first | exact rfl | assumption | exact Or.inl (by assumption) | exact Or.inr rfl | (show 0 ≤ _ ∧ _ < _; omega))) ?_
  refine K_vret dX1_init_9 rfl ?_
  exact And.intro rfl rfl

set_option maxRecDepth 100000 in
set_option maxHeartbeats 4000000 in
theorem kX6_init {X : GX} {h : LH} {ρ : TS} {i n f : Int} (e : CE ρ 12 i) : CK X mX6_init [vR (some (12, i)), vI (iI n), vI (iI f)] h ρ (fun v r => v = none ∧ r = ts (ts (ts ρ 15 i 0) 13 i n) 14 i f) := by
  refine CT_of (by decide +kernel) rfl (Nat.le_of_ble_eq_true rfl) ?_
  refine J_aload_n (M := mX6_init) dX6_init_0 rfl rfl ?_
  refine J_obj (M := mX6_init) dX6_init_1 ob_X6_3 ob_i ob_c (by decide) (by decide) ?_
  refine J_aload_n (M := mX6_init) dX6_init_4 rfl rfl ?_
  refine Z_iconst (M := mX6_init) dX6_init_5 ?_
  refine J_putI (M := mX6_init) dX6_init_6 fi_X6_9 (hk_12 (by first | exact rfl | assumption | exact Or.inl (by assumption) | exact Or.inr rfl | (show 0 ≤ _ ∧ _ < _; omega))) (Nat.le_of_ble_eq_true rfl) ?_
  refine Z_h (M := mX6_init) (hkp_15 (by first | exact rfl | assumption | exact Or.inl (by assumption) | exact Or.inr rfl | (show 0 ≤ _ ∧ _ < _; omega))) ?_
  refine J_aload_n (M := mX6_init) dX6_init_9 rfl rfl ?_
  refine J_iload_n (M := mX6_init) dX6_init_10 rfl rfl ?_
  refine J_putFI (M := mX6_init) dX6_init_11 fi_X6_15 rfl rfl (hk_12 (by first | exact rfl | assumption | exact Or.inl (by assumption) | exact Or.inr rfl | (show 0 ≤ _ ∧ _ < _; omega))) (Nat.le_of_ble_eq_true rfl) ?_
  refine Z_h (M := mX6_init) (hkp_13 (by first | exact rfl | assumption | exact Or.inl (by assumption) | exact Or.inr rfl | (show 0 ≤ _ ∧ _ < _; omega))) ?_
  refine J_aload_n (M := mX6_init) dX6_init_14 rfl rfl ?_
  refine J_iload_n (M := mX6_init) dX6_init_15 rfl rfl ?_
  refine J_putFI (M := mX6_init) dX6_init_16 fi_X6_18 rfl rfl (hk_12 (by first | exact rfl | assumption | exact Or.inl (by assumption) | exact Or.inr rfl | (show 0 ≤ _ ∧ _ < _; omega))) (Nat.le_of_ble_eq_true rfl) ?_
  refine Z_h (M := mX6_init) (hkp_14 (by first | exact rfl | assumption | exact Or.inl (by assumption) | exact Or.inr rfl | (show 0 ≤ _ ∧ _ < _; omega))) ?_
  refine K_vret dX6_init_19 rfl ?_
  exact And.intro rfl rfl

set_option maxRecDepth 100000 in
set_option maxHeartbeats 4000000 in
theorem kX2_init {X : GX} {h : LH} {ρ : TS} {F v w : Int} (h0 : 0 ≤ ρ 47 2) (hF : F = 0 ∨ F = 1) (hv : 0 ≤ v) (hw : 0 ≤ w) : CT X mX2_init [vR (some (16, ρ 47 2)), vI (iI F), vR (some (12, v)), vR (some (12, w))] (hup (hk h ρ) (16, ρ 47 2) (cO 2 [vI 0, vR none, vR none, vR none, vR none, vR none, vI 0, vI 0, vI 0, vI 0])) (QK h (fun o r => o = none ∧ r = nph ρ F v w)) := by
  have f17 : ¬ CE ρ 17 (ρ 47 2) := fun z => by have := z.2; omega
  have f18 : ¬ CE ρ 18 (ρ 47 2) := fun z => by have := z.2; omega
  have f19 : ¬ CE ρ 19 (ρ 47 2) := fun z => by have := z.2; omega
  refine CT_of (by decide +kernel) rfl (Nat.le_of_ble_eq_true rfl) ?_
  refine J_aload_n (M := mX2_init) dX2_init_0 rfl rfl ?_
  refine J_obj (M := mX2_init) dX2_init_1 ob_X2_3 ob_i ob_c (by decide) (by decide) ?_
  refine J_aload_n (M := mX2_init) dX2_init_4 rfl rfl ?_
  refine Z_bipush (M := mX2_init) dX2_init_5 rfl ?_
  refine J_le (M := mX2_init) (k' := 2 + 1) (n' := 16 + 8) (by decide) (by decide) ?_
  refine J_newI (M := mX2_init) dX2_init_7 nI8 (by decide) aw_int ((hup_n (tg_ne (by decide))).trans (hk_fr (by decide) f17)) (tg_ne (by decide)) ?_
  refine Z_h (M := mX2_init) (hup_cm (tg_ne (by decide))) ?_
  refine J_putFR (M := mX2_init) dX2_init_9 fi_X2_9 rfl rfl rfl hup_s (Nat.le_of_ble_eq_true rfl) ?_
  refine Z_h (M := mX2_init) hup_2 ?_
  refine J_aload_n (M := mX2_init) dX2_init_12 rfl rfl ?_
  refine Z_bipush (M := mX2_init) dX2_init_13 rfl ?_
  refine J_le (M := mX2_init) (k' := 1 + 1) (n' := 8 + 8) (by decide) (by decide) ?_
  refine J_newI (M := mX2_init) dX2_init_15 nI8 (by decide) aw_int ((hup_n (tg_ne (by decide))).trans ((hup_n (tg_ne (by decide))).trans (hk_fr (by decide) f18))) (tg_ne (by decide)) ?_
  refine Z_h (M := mX2_init) (hup_cm (tg_ne (by decide))) ?_
  refine J_putFR (M := mX2_init) dX2_init_17 fi_X2_15 rfl rfl rfl hup_s (Nat.le_of_ble_eq_true rfl) ?_
  refine Z_h (M := mX2_init) hup_2 ?_
  refine J_aload_n (M := mX2_init) dX2_init_20 rfl rfl ?_
  refine Z_bipush (M := mX2_init) dX2_init_21 rfl ?_
  refine J_le (M := mX2_init) (k' := 0 + 1) (n' := 0 + 8) (by decide) (by decide) ?_
  refine J_newI (M := mX2_init) dX2_init_23 nI8 (by decide) aw_int ((hup_n (tg_ne (by decide))).trans ((hup_n (tg_ne (by decide))).trans ((hup_n (tg_ne (by decide))).trans (hk_fr (by decide) f19)))) (tg_ne (by decide)) ?_
  refine Z_h (M := mX2_init) (hup_cm (tg_ne (by decide))) ?_
  refine J_putFR (M := mX2_init) dX2_init_25 fi_X2_18 rfl rfl rfl hup_s (Nat.le_of_ble_eq_true rfl) ?_
  refine Z_h (M := mX2_init) hup_2 ?_
  refine J_aload_n (M := mX2_init) dX2_init_28 rfl rfl ?_
  refine Z_iconst (M := mX2_init) dX2_init_29 ?_
  refine J_putI (M := mX2_init) dX2_init_30 fi_X2_21 hup_s (Nat.le_of_ble_eq_true rfl) ?_
  refine Z_h (M := mX2_init) hup_2 ?_
  refine J_aload_n (M := mX2_init) dX2_init_33 rfl rfl ?_
  refine J_iload_n (M := mX2_init) dX2_init_34 rfl rfl ?_
  refine J_putFZ (M := mX2_init) dX2_init_35 fi_X2_25 rfl rfl (zb_of hF) hup_s (Nat.le_of_ble_eq_true rfl) ?_
  refine Z_h (M := mX2_init) hup_2 ?_
  refine J_aload_n (M := mX2_init) dX2_init_38 rfl rfl ?_
  refine J_aload_n (M := mX2_init) dX2_init_39 rfl rfl ?_
  refine J_putFR (M := mX2_init) dX2_init_40 fi_X2_29 rfl rfl rfl hup_s (Nat.le_of_ble_eq_true rfl) ?_
  refine Z_h (M := mX2_init) hup_2 ?_
  refine J_aload_n (M := mX2_init) dX2_init_43 rfl rfl ?_
  refine J_aload_n (M := mX2_init) dX2_init_44 rfl rfl ?_
  refine J_putFR (M := mX2_init) dX2_init_45 fi_X2_33 rfl rfl rfl hup_s (Nat.le_of_ble_eq_true rfl) ?_
  refine Z_h (M := mX2_init) hup_2 ?_
  refine Z_h (M := mX2_init) (nph_e h0 hv hw) ?_
  refine K_vret dX2_init_48 rfl ?_
  exact And.intro rfl rfl

theorem SN_same {ρ' ρ τ' τ : TS} (S : SN ρ τ) (W : WF τ) (hr : ∀ k, ((17 ≤ k ∧ k < 37) ∨ k = 7 ∨ (43 ≤ k ∧ k ≤ 46) ∨ k = 48 ∨ k = 49) → ρ' k = ρ k) (h1 : ρ 47 1 ≤ ρ' 47 1) (h2 : ρ 47 2 ≤ ρ' 47 2) (ht : ∀ k, (k = 0 ∨ (9 ≤ k ∧ k ≤ 17) ∨ k = 21 ∨ k = 22 ∨ k = 24) → τ' k = τ k) (h3 : τ' 3 = τ 3) (h4 : τ' 4 = τ 4) (hW : WR ρ' τ') : SN ρ' τ' := by
  refine SN_E (p := -1) (f0 := -1) S ⟨ht 0 (by decide), h3, h4, fun f _ => ⟨by rw [ht 12 (by decide)], by rw [ht 14 (by decide)]⟩, fun z _ => by rw [ht 13 (by decide)], fun z _ => ⟨by rw [ht 15 (by decide)], by rw [ht 16 (by decide)]⟩⟩ ⟨h1, h2, fun q _ => ⟨by rw [hr 27 (by decide)], by rw [hr 28 (by decide)], by rw [hr 29 (by decide)], by rw [hr 33 (by decide)], by rw [hr 34 (by decide)], by rw [hr 35 (by decide)], by rw [hr 36 (by decide)], by rw [hr 49 (by decide)]⟩, fun z _ => ⟨by rw [hr 30 (by decide)], by rw [hr 31 (by decide)], by rw [hr 32 (by decide)]⟩⟩ W (fun k hk => hr k (by omega)) (fun k hk => ht k (by omega)) (fun b hb j j0 j1 => ?_) hW
  have g := (S.2.2.1 b hb).1
  have p := (g.2.2.2.2.2 j j0 j1).1.1
  have g0 := g.1
  omega
theorem PH_same {ρ' ρ τ' τ : TS} {p f : Int} (P : PH ρ τ p f) (hr : ∀ k, ((27 ≤ k ∧ k < 36) ∨ k = 49) → ρ' k = ρ k) (h1 : ρ 47 1 ≤ ρ' 47 1) (h2 : ρ 47 2 ≤ ρ' 47 2) (ht : ∀ k, (k = 0 ∨ (12 ≤ k ∧ k ≤ 16)) → τ' k = τ k) : PH ρ' τ' p f := by
  obtain ⟨a1, a2, a3, a4, a5, a6, a7, a8, a9⟩ := P
  unfold PH
  rw [hr 27 (by decide), hr 28 (by decide), hr 29 (by decide), hr 30 (by decide), hr 31 (by decide), hr 32 (by decide), hr 33 (by decide), hr 34 (by decide), hr 35 (by decide), hr 49 (by decide), ht 0 (by decide), ht 12 (by decide), ht 13 (by decide), ht 14 (by decide), ht 15 (by decide), ht 16 (by decide)]
  exact ⟨⟨a1.1, by omega⟩, a2, ⟨a3.1, by omega⟩, ⟨a4.1, by omega⟩, a5, a6, a7, a8, a9⟩
/-- the piste, when other things change -/
theorem RN_same {ρ' ρ τ' τ : TS} (Q : (τ 19 0 = 0 → PO ρ τ) ∧ (¬ τ 19 0 = 0 → PN ρ τ)) (hr : ∀ k, ((27 ≤ k ∧ k < 43) ∨ k = 49) → ρ' k = ρ k) (h1 : ρ 47 1 ≤ ρ' 47 1) (h2 : ρ 47 2 ≤ ρ' 47 2) (ht : ∀ k, (k = 0 ∨ k = 9 ∨ k = 10 ∨ (12 ≤ k ∧ k ≤ 21)) → τ' k = τ k) : (τ' 19 0 = 0 → PO ρ' τ') ∧ (¬ τ' 19 0 = 0 → PN ρ' τ') := by
  have hl : la τ' = la τ := by unfold la; rw [ht 17 (by decide), ht 10 (by decide)]
  have hv : ∀ b, VB τ' b ↔ VB τ b := fun b => by unfold VB; rw [ht 9 (by decide), ht 21 (by decide)]
  refine ⟨fun q => ?_, fun q => ?_⟩
  · rw [ht 19 (by decide)] at q
    obtain ⟨a1, a2, a3, a4⟩ := Q.1 q
    unfold PO
    rw [hr 41 (by decide), hr 37 (by decide), hr 38 (by decide), hr 39 (by decide), hr 40 (by decide), hr 42 (by decide), ht 17 (by decide), ht 18 (by decide), ht 20 (by decide), ht 10 (by decide)]
    refine ⟨a1, a2, a3, fun z => ?_⟩
    obtain ⟨v1, v2, v3, v4, v5, v6, v7, v8⟩ := a4 z
    exact ⟨(hv _).mpr v1, v2, v3, v4, by omega, by omega, v7, v8⟩
  · rw [ht 19 (by decide)] at q
    obtain ⟨q1, q2, q3, q4, q5, q6, q7⟩ := Q.2 q
    unfold PN
    rw [hl, hr 37 (by decide), hr 38 (by decide), hr 39 (by decide), hr 40 (by decide), hr 41 (by decide), ht 17 (by decide), ht 18 (by decide), ht 10 (by decide)]
    exact ⟨q1, (hv _).mpr q2, q3, q4, ⟨q5.1, q5.2.1, by omega, by omega⟩, PH_same q6 (fun k hk => hr k (by omega)) h1 h2 (fun k hk => ht k (by omega)), q7⟩
theorem FRE_same {ρ' ρ τ' τ : TS} (F : FRE ρ τ) (hr : ρ' 48 = ρ 48) (ht : ∀ k, (9 ≤ k ∧ k ≤ 11) ∨ k = 21 → τ' k = τ k) : FRE ρ' τ' := by
  unfold FRE LVb
  rw [hr, ht 9 (by decide), ht 10 (by decide), ht 11 (by decide), ht 21 (by decide)]
  exact F
theorem RR_fencer {ρ τ : TS} {c : Int} (R : RR ρ τ c) (hn : τ 1 0 < 12) (h8 : τ 8 0 = 0) : RR (ts (ts (ts (nfc ρ) 8 (ρ 47 0) (ρ 1 0)) 4 (ρ 1 0) (ρ 47 0)) 1 0 (ρ 1 0 + 1)) (ts τ 1 0 (τ 1 0 + 1)) c := by
  obtain ⟨W, V, ⟨⟨a1, a2, a3, a4, a5, a6, a7, a8⟩, b1, b2, b3, b4, b5, b6⟩, S, Q, F⟩ := R
  have w1 := wf1 W 0
  have ek : ∀ k, ¬ (8 ≤ k ∧ k ≤ 12) ∧ ¬ k = 47 ∧ ¬ k = 4 ∧ ¬ k = 1 → ts (ts (ts (nfc ρ) 8 (ρ 47 0) (ρ 1 0)) 4 (ρ 1 0) (ρ 47 0)) 1 0 (ρ 1 0 + 1) k = ρ k := fun k hk => by
    rw [ts_n (by omega), ts_n (by omega), ts_n (by omega), nfc_k (by omega)]
  have e47 : ts (ts (ts (nfc ρ) 8 (ρ 47 0) (ρ 1 0)) 4 (ρ 1 0) (ρ 47 0)) 1 0 (ρ 1 0 + 1) 47 = upZ (ρ 47) 0 (ρ 47 0 + 1) := by
    rw [ts_n (by decide), ts_n (by decide), ts_n (by decide)]
    unfold nfc
    rw [ts_s, ts_n (by decide), ts_n (by decide), ts_n (by decide), ts_n (by decide), ts_n (by decide)]
  have et : ∀ k, ¬ k = 1 → ts τ 1 0 (τ 1 0 + 1) k = τ k := fun k hk => ts_n hk
  have et1 : ts τ 1 0 (τ 1 0 + 1) 1 0 = τ 1 0 + 1 := ts_self
  have W' : WF (ts τ 1 0 (τ 1 0 + 1)) := WF_ts W (show (0 : Int) ≤ _ ∧ _ ≤ (12 : Int) by omega)
  have V1 : WK (nfc ρ) := by
    intro k j k1 k2
    unfold nfc
    rw [ts_n (by omega)]
    exact WK_ts (WK_ts (WK_ts (WK_ts (WK_ts V (by decide)) (by decide)) (by decide)) (by decide)) (by decide) k j k1 k2
  have V' : WK (ts (ts (ts (nfc ρ) 8 (ρ 47 0) (ρ 1 0)) 4 (ρ 1 0) (ρ 47 0)) 1 0 (ρ 1 0 + 1)) := WK_ts (WK_ts (WK_ts V1 (show (0 : Int) ≤ _ ∧ _ ≤ (11 : Int) by omega)) (show (-1 : Int) ≤ _ ∧ _ ≤ (11 : Int) by omega)) (show (0 : Int) ≤ _ ∧ _ ≤ (12 : Int) by omega)
  have u1 : upZ (ρ 47) 0 (ρ 47 0 + 1) 1 = ρ 47 1 := upZ_ne (by decide)
  have u2 : upZ (ρ 47) 0 (ρ 47 0 + 1) 2 = ρ 47 2 := upZ_ne (by decide)
  have u0 : upZ (ρ 47) 0 (ρ 47 0 + 1) 0 = ρ 47 0 + 1 := upZ_at
  have e1 : ts (ts (ts (nfc ρ) 8 (ρ 47 0) (ρ 1 0)) 4 (ρ 1 0) (ρ 47 0)) 1 0 (ρ 1 0 + 1) 1 0 = ρ 1 0 + 1 := ts_self
  refine ⟨W', V', ⟨?_, ?_, ?_, ?_, ?_, ?_, ?_⟩, ?_, ?_, ?_⟩
  · rw [ek 0 (by decide), ek 2 (by decide), ek 3 (by decide), e1, e47, u0, u1, u2, et 0 (by decide), et 5 (by decide), et 9 (by decide), et1]
    omega
  · intro i i0 i1
    rw [et1] at i1
    have f4 : ts (ts (ts (nfc ρ) 8 (ρ 47 0) (ρ 1 0)) 4 (ρ 1 0) (ρ 47 0)) 1 0 (ρ 1 0 + 1) 4 i = if i = ρ 1 0 then ρ 47 0 else ρ 4 i := by
      rw [tsN (by decide), ts_s, ts_n (by decide), nfc_k (by decide)]; rfl
    have f8 : ts (ts (ts (nfc ρ) 8 (ρ 47 0) (ρ 1 0)) 4 (ρ 1 0) (ρ 47 0)) 1 0 (ρ 1 0 + 1) 8 i = if i = ρ 47 0 then ρ 1 0 else ρ 8 i := by
      rw [tsN (by decide), tsN (by decide), ts_s]
      unfold upZ
      by_cases z : i = ρ 47 0
      · rw [if_pos z, if_pos z]
      · rw [if_neg z, if_neg z]
        unfold nfc
        rw [tsN (by decide), tsN (by decide), tsN (by decide), tsN (by decide), tsN (by decide), ts_else z]
    rw [f4, f8]
    by_cases z : i = τ 1 0
    · rw [if_pos (by omega), if_pos (by omega)]; omega
    · rw [if_neg (by omega), if_neg (by omega)]
      exact b1 i i0 (by omega)
  · rw [ek 5 (by decide), ek 13 (by decide), ek 14 (by decide), et 2 (by decide), et 5 (by decide)]; exact b2
  · rw [et 5 (by decide), et 4 (by decide)]; exact b3
  · rw [ek 6 (by decide), ek 18 (by decide), ek 19 (by decide), et 9 (by decide), et 6 (by decide), et 7 (by decide), et1]
    intro s s0 s1
    obtain ⟨x1, x2, x3, x4, x5⟩ := b4 s s0 s1
    exact ⟨x1, x2, x3, by omega, by omega⟩
  · rw [et 8 (by decide), et 9 (by decide)]; exact b5
  · rw [et 21 (by decide), et 9 (by decide)]; exact b6
  · refine SN_same S W (fun k hk => ek k (by omega)) (by rw [e47, u1]; omega) (by rw [e47, u2]; omega) (fun k hk => et k (by omega)) (et 3 (by decide)) (et 4 (by decide)) ?_
    unfold WR
    rw [e47, u1, ek 15 (by decide), ek 16 (by decide), et 3 (by decide), et 4 (by decide)]
    exact S.2.2.2.2.2.2.2.2.2
  · exact RN_same Q (fun k hk => ek k (by omega)) (by rw [e47, u1]; omega) (by rw [e47, u2]; omega) (fun k hk => et k (by omega))
  · exact FRE_same F (ek 48 (by decide)) (fun k hk => et k (by omega))
set_option maxRecDepth 100000 in
set_option maxHeartbeats 4000000 in
theorem p_fencer {X : GX} {h : LH} {ρ τ : TS} {c : Int} (R : RR ρ τ c)  : CX X mX7_fencer [vR (some (1, 0))] h ρ (PX (gl (pI (τ 1 0 < 12 ∧ τ 8 0 = 0)) 1 1) (τ 1 0) (fun r => RR r (ts τ 1 0 (τ 1 0 + 1)) c)) (EM [0] (gl (pI (τ 1 0 < 12 ∧ τ 8 0 = 0)) 1 1)) := by
  have W := R.1
  have V := R.2.1
  have a0 := R.2.2.1.1
  have w1 := wf1 W 0
  have w9 := wf9 W 0
  have b5 := R.2.2.1.2.2.2.2.2.1
  have f11 : ¬ CE ρ 11 (ρ 47 0) := fun z => by have := z.2; omega
  refine CT_of (by decide +kernel) rfl (Nat.le_of_ble_eq_true rfl) ?_
  refine J_aload_n (M := mX7_fencer) dX7_fencer_0 rfl rfl ?_
  refine J_getf (M := mX7_fencer) dX7_fencer_1 fi_X7_52 (hk_1 (by first | exact rfl | assumption | exact Or.inl (by assumption) | exact Or.inr rfl | (show 0 ≤ _ ∧ _ < _; omega))) rfl ?_
  refine Z_wb (M := mX7_fencer) (g := ρ 1) (wk1 V) rfl (fun wb_1_2 => ?_)
  refine Z_bipush (M := mX7_fencer) dX7_fencer_4 rfl ?_
  refine Z_ic_ge (M := mX7_fencer) (tgt := 16) (by first | assumption | exact pI_rg _ | (unfold rg; omega)) (by first | assumption | exact pI_rg _ | (unfold rg; omega)) dX7_fencer_6 (by decide) (fun c_6 => ?_) (fun c_6 => ?_)
  · refine K_thr (M := mX7_fencer) rfl rfl ti_60_62_64 (by decide) (by decide) (by decide) (by decide) (Or.inl ⟨dX7_fencer_16, dX7_fencer_19, dX7_fencer_20, dX7_fencer_22, dX7_fencer_25⟩) ?_
    first
      | exact EM_1 (pI_f (by omega)) rfl
      | exact EM_2 (pI_n0.mpr (by omega)) (pI_f (by omega)) rfl
      | exact EM_3 (pI_n0.mpr (by omega)) (pI_n0.mpr (by omega)) (pI_f (by omega)) rfl
  · refine J_aload_n (M := mX7_fencer) dX7_fencer_9 rfl rfl ?_
    refine J_callV (M := mX7_fencer) (as := []) dX7_fencer_10 ca_X7_56 ⟨by decide, by decide⟩ (hk_1 (by first | exact rfl | assumption | exact Or.inl (by assumption) | exact Or.inr rfl | (show 0 ≤ _ ∧ _ < _; omega))) rfl (Nat.le_of_ble_eq_true rfl) (k' := 1) (n' := 6) (by decide) (by decide) (kX7_arePoolsDrawn V) (fun v_10 h_10 hv_10 => ?_)
    obtain ⟨r_10, rfl, hv_10⟩ := hv_10
    obtain ⟨rfl, e_10⟩ := hv_10
    rw [e_10]
    first
      | refine Z_pf (M := mX7_fencer) (tgt := 26) dX7_fencer_13 (by decide) (fun c_13 => ?_) (fun c_13 => ?_)
      | refine Z_if_eq (M := mX7_fencer) (tgt := 26) (by first | assumption | exact pI_rg _ | (unfold rg; omega)) dX7_fencer_13 (by decide) (fun c_13 => ?_) (fun c_13 => ?_)
    · refine J_aload_n (M := mX7_fencer) dX7_fencer_26 rfl rfl ?_
      refine J_getf (M := mX7_fencer) dX7_fencer_27 fi_X7_52 (hk_1 (by first | exact rfl | assumption | exact Or.inl (by assumption) | exact Or.inr rfl | (show 0 ≤ _ ∧ _ < _; omega))) rfl ?_
      refine Z_wb (M := mX7_fencer) (g := ρ 1) (wk1 V) rfl (fun wb_1_14 => ?_)
      refine J_istore_n (M := mX7_fencer) dX7_fencer_30 rfl (by decide) ?_
      refine J_aload_n (M := mX7_fencer) dX7_fencer_31 rfl rfl ?_
      refine J_getf (M := mX7_fencer) dX7_fencer_32 fi_X7_11 (hk_1 (by first | exact rfl | assumption | exact Or.inl (by assumption) | exact Or.inr rfl | (show 0 ≤ _ ∧ _ < _; omega))) rfl ?_
      refine J_iload_n (M := mX7_fencer) dX7_fencer_35 rfl rfl ?_
      refine J_le (M := mX7_fencer) (k' := 0 + 1) (n' := 1 + 5) (by decide) (by decide) ?_
      refine J_new (M := mX7_fencer) dX7_fencer_36 ni_X7_9 (hk_fr (by decide) f11) (tg_ne (by decide)) ?_
      refine Z_h (M := mX7_fencer) (nfc_e (by omega)) ?_
      have e11 : CE (nfc ρ) 11 (ρ 47 0) := ⟨by omega, show ρ 47 0 < ρ 47 0 + 1 by omega⟩
      refine J_dup (M := mX7_fencer) dX7_fencer_39 rfl ?_
      refine J_iload_n (M := mX7_fencer) dX7_fencer_40 rfl rfl ?_
      refine J_callI (M := mX7_fencer) (as := [_]) dX7_fencer_41 ca_X7_67 rfl ⟨by decide, by decide⟩ rfl (Nat.le_of_ble_eq_true rfl) (k' := 0) (n' := 0) (by decide) (by decide) (kX1_init e11) (fun v_41 h_41 hv_41 => ?_)
      obtain ⟨r_41, rfl, rfl, e_41⟩ := hv_41
      rw [e_41]
      have e11' : CE (ts (nfc ρ) 8 (ρ 47 0) (ρ 1 0)) 11 (ρ 47 0) := e11
      refine J_aast (M := mX7_fencer) dX7_fencer_44 (by decide) rfl rfl (hk_2 rfl) (hk_11 e11') (ix_iI (by omega) (by omega) (by decide)) ?_
      refine Z_h (M := mX7_fencer) (hkqa_4 (by omega) ⟨by omega, by omega⟩) ?_
      refine J_aload_n (M := mX7_fencer) dX7_fencer_45 rfl rfl ?_
      refine J_dup (M := mX7_fencer) dX7_fencer_46 rfl ?_
      refine J_getf (M := mX7_fencer) dX7_fencer_47 fi_X7_52 (hk_1 (by first | exact rfl | assumption | exact Or.inl (by assumption) | exact Or.inr rfl | (show 0 ≤ _ ∧ _ < _; omega))) rfl ?_
      refine Z_wb (M := mX7_fencer) (g := ρ 1) (wk1 V) rfl (fun wb_1_27 => ?_)
      refine Z_iconst (M := mX7_fencer) dX7_fencer_50 ?_
      refine Z_iadd (M := mX7_fencer) dX7_fencer_51 ?_
      refine J_putI (M := mX7_fencer) dX7_fencer_52 fi_X7_52 (hk_1 (by first | exact rfl | assumption | exact Or.inl (by assumption) | exact Or.inr rfl | (show 0 ≤ _ ∧ _ < _; omega))) (Nat.le_of_ble_eq_true rfl) ?_
      refine Z_h (M := mX7_fencer) (hkp_1 (by first | exact rfl | assumption | exact Or.inl (by assumption) | exact Or.inr rfl | (show 0 ≤ _ ∧ _ < _; omega))) ?_
      refine J_iload_n (M := mX7_fencer) dX7_fencer_55 rfl rfl ?_
      refine K_iretE dX7_fencer_56 rfl ?_
      exact ⟨(gl_0 ⟨(by first | exact n10 | exact pI_n0.mpr (by omega)), (by first | exact n10 | exact pI_n0.mpr (by omega)), (by first | exact n10 | exact pI_n0.mpr (by omega))⟩), (by rw [a0.2.1]), RR_fencer R (by omega) (by omega)⟩
    · refine K_thr (M := mX7_fencer) rfl rfl ti_60_62_64 (by decide) (by decide) (by decide) (by decide) (Or.inl ⟨dX7_fencer_16, dX7_fencer_19, dX7_fencer_20, dX7_fencer_22, dX7_fencer_25⟩) ?_
      first
        | exact EM_1 (pI_f (by omega)) rfl
        | exact EM_2 (pI_n0.mpr (by omega)) (pI_f (by omega)) rfl
        | exact EM_3 (pI_n0.mpr (by omega)) (pI_n0.mpr (by omega)) (pI_f (by omega)) rfl

theorem RR_weapon {ρ τ : TS} {c f : Int} (R : RR ρ τ c) (hn : τ 5 0 < 24) (hf : 0 ≤ f ∧ f ≤ τ 1 0 - 1) : RR (ts (ts (ts (ts (ts (nwp ρ) 15 (ρ 47 1) 0) 13 (ρ 47 1) (ρ 2 0)) 14 (ρ 47 1) f) 5 (ρ 2 0) (ρ 47 1)) 2 0 (ρ 2 0 + 1)) (ts (ts (ts τ 2 (τ 5 0) f) 3 (τ 5 0) 0) 5 0 (τ 5 0 + 1)) c := by
  obtain ⟨W, V, ⟨⟨a1, a2, a3, a4, a5, a6, a7, a8⟩, b1, b2, b3, b4, b5, b6⟩, S, Q, F⟩ := R
  have w1 := wf1 W 0
  have w5 := wf5 W 0
  have hWR := S.2.2.2.2.2.2.2.2.2
  obtain ⟨r, hr⟩ : ∃ r, r = ts (ts (ts (ts (ts (nwp ρ) 15 (ρ 47 1) 0) 13 (ρ 47 1) (ρ 2 0)) 14 (ρ 47 1) f) 5 (ρ 2 0) (ρ 47 1)) 2 0 (ρ 2 0 + 1) := ⟨_, rfl⟩
  obtain ⟨t, ht⟩ : ∃ t, t = ts (ts (ts τ 2 (τ 5 0) f) 3 (τ 5 0) 0) 5 0 (τ 5 0 + 1) := ⟨_, rfl⟩
  rw [← hr, ← ht]
  have ek : ∀ k, ¬ (13 ≤ k ∧ k ≤ 16) ∧ ¬ k = 47 ∧ ¬ k = 5 ∧ ¬ k = 2 → r k = ρ k := fun k hk => by
    rw [hr, ts_n (by omega), ts_n (by omega), ts_n (by omega), ts_n (by omega), ts_n (by omega), nwp_k (by omega)]
  have e47 : r 47 = upZ (ρ 47) 1 (ρ 47 1 + 1) := by
    rw [hr, ts_n (by decide), ts_n (by decide), ts_n (by decide), ts_n (by decide), ts_n (by decide)]
    unfold nwp
    rw [ts_s, ts_n (by decide), ts_n (by decide), ts_n (by decide), ts_n (by decide)]
  have e13 : ∀ i, r 13 i = if i = ρ 47 1 then ρ 2 0 else ρ 13 i := fun i => by
    rw [hr, tsN (by decide), tsN (by decide), tsN (by decide), ts_s]
    unfold upZ
    by_cases z : i = ρ 47 1
    · rw [if_pos z, if_pos z]
    · rw [if_neg z, if_neg z, tsN (by decide)]
      unfold nwp
      rw [tsN (by decide), tsN (by decide), tsN (by decide), tsN (by decide), ts_else z]
  have e14 : ∀ i, r 14 i = if i = ρ 47 1 then f else ρ 14 i := fun i => by
    rw [hr, tsN (by decide), tsN (by decide), ts_s]
    unfold upZ
    by_cases z : i = ρ 47 1
    · rw [if_pos z, if_pos z]
    · rw [if_neg z, if_neg z, tsN (by decide), tsN (by decide)]
      unfold nwp
      rw [tsN (by decide), tsN (by decide), tsN (by decide), ts_else z, tsN (by decide)]
  have e15 : ∀ i, r 15 i = if i = ρ 47 1 then 0 else ρ 15 i := fun i => by
    rw [hr, tsN (by decide), tsN (by decide), tsN (by decide), tsN (by decide), ts_s]
    unfold upZ
    by_cases z : i = ρ 47 1
    · rw [if_pos z, if_pos z]
    · rw [if_neg z, if_neg z]
      unfold nwp
      rw [tsN (by decide), tsN (by decide), ts_else z, tsN (by decide), tsN (by decide)]
  have e16 : ∀ i, r 16 i = if i = ρ 47 1 then 0 else ρ 16 i := fun i => by
    rw [hr, tsN (by decide), tsN (by decide), tsN (by decide), tsN (by decide), tsN (by decide)]
    unfold nwp
    rw [tsN (by decide)]
    by_cases z : i = ρ 47 1
    · rw [if_pos z, z, ts_self]
    · rw [if_neg z, ts_else z, tsN (by decide), tsN (by decide), tsN (by decide)]
  have e5 : ∀ i, r 5 i = if i = ρ 2 0 then ρ 47 1 else ρ 5 i := fun i => by
    rw [hr, tsN (by decide), ts_s]
    unfold upZ
    by_cases z : i = ρ 2 0
    · rw [if_pos z, if_pos z]
    · rw [if_neg z, if_neg z, tsN (by decide), tsN (by decide), tsN (by decide), nwp_k (by decide)]
  have e2 : r 2 0 = ρ 2 0 + 1 := by rw [hr]; exact ts_self
  have et : ∀ k, ¬ k = 2 ∧ ¬ k = 3 ∧ ¬ k = 5 → t k = τ k := fun k hk => by rw [ht, ts_n (by omega), ts_n (by omega), ts_n (by omega)]
  have t5 : t 5 0 = τ 5 0 + 1 := by rw [ht]; exact ts_self
  have t2 : ∀ i, t 2 i = if i = τ 5 0 then f else τ 2 i := fun i => by
    rw [ht, tsN (by decide), tsN (by decide), ts_s]; rfl
  have t3' : ∀ i, t 3 i = if i = τ 5 0 then 0 else τ 3 i := fun i => by
    rw [ht, tsN (by decide), ts_s]
    unfold upZ
    by_cases z : i = τ 5 0
    · rw [if_pos z, if_pos z]
    · rw [if_neg z, if_neg z, tsN (by decide)]
  have u1 : upZ (ρ 47) 1 (ρ 47 1 + 1) 1 = ρ 47 1 + 1 := upZ_at
  have u2 : upZ (ρ 47) 1 (ρ 47 1 + 1) 2 = ρ 47 2 := upZ_ne (by decide)
  have u0 : upZ (ρ 47) 1 (ρ 47 1 + 1) 0 = ρ 47 0 := upZ_ne (by decide)
  have W' : WF t := by rw [ht]; exact WF_ts (WF_ts (WF_ts W (show (0 : Int) ≤ _ ∧ _ ≤ (11 : Int) by omega)) (show (0 : Int) ≤ _ ∧ _ ≤ (2 : Int) by omega)) (show (0 : Int) ≤ _ ∧ _ ≤ (24 : Int) by omega)
  have V1 : WK (nwp ρ) := by
    intro k j k1 k2
    unfold nwp
    rw [ts_n (by omega)]
    exact WK_ts (WK_ts (WK_ts (WK_ts V (by decide)) (by decide)) (by decide)) (by decide) k j k1 k2
  have V' : WK r := by rw [hr]; exact WK_ts (WK_ts (WK_ts (WK_ts (WK_ts V1 (by decide)) (show (0 : Int) ≤ _ ∧ _ ≤ (23 : Int) by omega)) (show (0 : Int) ≤ _ ∧ _ ≤ (11 : Int) by omega)) (show (-1 : Int) ≤ _ ∧ _ ≤ (23 : Int) by omega)) (show (0 : Int) ≤ _ ∧ _ ≤ (24 : Int) by omega)
  have hW' : WR r t := by
    intro w w0 w1
    rw [e47, u1] at w1
    rw [e15, e16, t3', et 4 (by decide)]
    by_cases z : w = τ 5 0
    · have z4 := b3 w (by omega)
      rw [if_pos (by omega), if_pos z, if_pos (by omega), z4]
      exact ⟨rfl, rfl, fun q => absurd rfl q⟩
    · rw [if_neg (by omega), if_neg z, if_neg (by omega)]
      exact hWR w w0 (by omega)
  -- the fencers' numbers of bouts and so on don't change
  refine ⟨W', V', ⟨?_, ?_, ?_, ?_, ?_, ?_, ?_⟩, ?_, ?_, ?_⟩
  · rw [ek 0 (by decide), ek 1 (by decide), ek 3 (by decide), e2, e47, u0, u1, u2, et 0 (by decide), et 1 (by decide), et 9 (by decide), t5]
    omega
  · rw [et 1 (by decide), ek 4 (by decide), ek 8 (by decide)]; exact b1
  · intro i i0 i1
    rw [t5] at i1
    rw [e5, e13, e14, t2]
    by_cases z : i = τ 5 0
    · rw [if_pos (by omega), if_pos (by omega), if_pos (by omega), if_pos z]; omega
    · rw [if_neg (by omega), if_neg (by omega), if_neg (by omega), if_neg z]
      exact b2 i i0 (by omega)
  · rw [t5, et 4 (by decide)]
    intro i hi
    exact b3 i (by omega)
  · rw [ek 6 (by decide), ek 18 (by decide), ek 19 (by decide), et 9 (by decide), et 6 (by decide), et 7 (by decide), et 1 (by decide)]; exact b4
  · rw [et 8 (by decide), et 9 (by decide)]; exact b5
  · rw [et 21 (by decide), et 9 (by decide)]; exact b6
  · obtain ⟨s3, s4, s5, s6, s7, s8, s9, s10, s11, s13⟩ := S
    have h47 : ρ 47 1 ≤ r 47 1 := by rw [e47, u1]; omega
    have h472 : ρ 47 2 ≤ r 47 2 := by rw [e47, u2]; omega
    have htc : ∀ b, LVb τ b → te t b = te τ b := fun b hb => by
      have g := (s5 b hb).1
      unfold te
      rw [et 10 (by decide), tlF_loc (g := gl3 b) (T := tch τ b) (T' := tch t b) (τ 10 b).toNat (fun e e0 e1 => ?_)]
      have p := (g.2.2.2.2.2 e e0 (by have := wf10 W b; omega)).1
      have p3 := p.2.2.1
      have p4 := p.2.2.2.1
      have key : ∀ w, w < ρ 47 1 → (stk t w b ↔ stk τ w b) := fun w hw => by
        unfold stk
        rw [t3', if_neg (by omega), et 4 (by decide)]
      have k1 := key (τ 13 (2 * (12 * b + e))) (by rw [← p3.1]; exact p3.2)
      have k2 := key (τ 13 (2 * (12 * b + e) + 1)) (by rw [← p4.1]; exact p4.2)
      unfold tch
      rw [jd_k2 (et 0 (by decide)) (fun k hk => et k (by omega)), et 13 (by decide)]
      congr 1
      · congr 1
        by_cases z : stk τ (τ 13 (2 * (12 * b + e))) b
        · rw [if_pos z, if_pos (k1.mpr z)]
        · rw [if_neg z, if_neg (fun y => z (k1.mp y))]
      · by_cases z : stk τ (τ 13 (2 * (12 * b + e) + 1)) b
        · rw [if_pos z, if_pos (k2.mpr z)]
        · rw [if_neg z, if_neg (fun y => z (k2.mp y))]
    unfold SN LVb
    rw [et 21 (by decide), et 9 (by decide), et 22 (by decide), et 24 (by decide), et 10 (by decide), et 17 (by decide), ek 43 (by decide), ek 44 (by decide), ek 7 (by decide), ek 46 (by decide), ek 18 (by decide), ek 19 (by decide)]
    refine ⟨s3, s4, fun b hb => ?_, s6, fun k k1 k2 => ?_, s8, s9, s10, s11, hW'⟩
    · obtain ⟨⟨g1, g2, g3, g4, g5, g6⟩, ⟨x1, x2⟩, x3, x4⟩ := s5 b hb
      unfold BB BR TL
      rw [htc b hb, ek 48 (by decide), ek 17 (by decide), ek 24 (by decide), ek 20 (by decide), ek 23 (by decide), ek 36 (by decide), ek 25 (by decide), ek 26 (by decide), ek 21 (by decide), ek 22 (by decide), et 10 (by decide), et 11 (by decide), jd_k2 (et 0 (by decide)) (fun k hk => et k (by omega))]
      exact ⟨⟨g1, g2, g3, g4, g5, fun j j0 j1 => ⟨PH_same (g6 j j0 j1).1 (fun k hk => ek k (by omega)) h47 h472 (fun k hk => et k (by omega)), (g6 j j0 j1).2⟩⟩, ⟨x1, x2⟩, x3, x4⟩
    · have w21 := wf21 W 0
      unfold fwin
      rw [htc (66 + k) (Or.inr (by omega)), et 22 (by decide)]
      exact s7 k k1 k2
  · exact RN_same Q (fun k hk => ek k (by omega)) (by rw [e47, u1]; omega) (by rw [e47, u2]; omega) (fun k hk => et k (by omega))
  · exact FRE_same F (ek 48 (by decide)) (fun k hk => et k (by omega))
set_option maxRecDepth 100000 in
set_option maxHeartbeats 4000000 in
theorem p_weapon {X : GX} {h : LH} {ρ τ : TS} {c : Int} (R : RR ρ τ c) {f : Int} (hf : rg f) : CX X mX7_weapon [vR (some (1, 0)), vI (iI f)] h ρ (PX (gl (pI (0 ≤ f ∧ f ≤ τ 1 0 - 1)) (pI (τ 5 0 < 24)) 1) (τ 5 0) (fun r => RR r (ts (ts (ts τ 2 (τ 5 0) f) 3 (τ 5 0) 0) 5 0 (τ 5 0 + 1)) c)) (EM [2, 0] (gl (pI (0 ≤ f ∧ f ≤ τ 1 0 - 1)) (pI (τ 5 0 < 24)) 1)) := by
  have W := R.1
  have V := R.2.1
  have a0 := R.2.2.1.1
  have w5 := wf5 W 0
  have f12 : ¬ CE ρ 12 (ρ 47 1) := fun z => by have := z.2; omega
  refine CT_of (by decide +kernel) rfl (Nat.le_of_ble_eq_true rfl) ?_
  by_cases q : 0 ≤ f ∧ f ≤ τ 1 0 - 1
  · have hx : fAt τ f = f := if_pos q
    refine J_aload_n (M := mX7_weapon) dX7_weapon_0 rfl rfl ?_
    refine J_iload_n (M := mX7_weapon) dX7_weapon_1 rfl rfl ?_
    refine J_callV (M := mX7_weapon) (as := [_]) dX7_weapon_2 ca_X7_70 ⟨by decide, by decide⟩ (hk_1 (by first | exact rfl | assumption | exact Or.inl (by assumption) | exact Or.inr rfl | (show 0 ≤ _ ∧ _ < _; omega))) rfl (Nat.le_of_ble_eq_true rfl) (k' := 1) (n' := 6) (by decide) (by decide) (kX7_fencerAt V hf) (fun v_2 h_2 hv_2 => ?_)
    obtain ⟨r_2, rfl, hv_2⟩ := hv_2
    obtain ⟨rfl, e_2⟩ := hv_2
    rw [e_2]
    refine Z_rfe (M := mX7_weapon) ((fAt_e R).trans hx) ?_
    first | refine Z_uns (M := mX7_weapon) (by omega) ?_ | skip
    refine K_ifnonnull (tgt := 18) dX7_weapon_5 (by decide) (fun c_5 => ?_) (fun c_5 => ?_)
    · refine J_aload_n (M := mX7_weapon) dX7_weapon_18 rfl rfl ?_
      refine J_getf (M := mX7_weapon) dX7_weapon_19 fi_X7_79 (hk_1 (by first | exact rfl | assumption | exact Or.inl (by assumption) | exact Or.inr rfl | (show 0 ≤ _ ∧ _ < _; omega))) rfl ?_
      refine Z_wb (M := mX7_weapon) (g := ρ 2) (wk2 V) rfl (fun wb_2_9 => ?_)
      refine Z_bipush (M := mX7_weapon) dX7_weapon_22 rfl ?_
      refine Z_ic_lt (M := mX7_weapon) (tgt := 37) (by first | assumption | exact pI_rg _ | (unfold rg; omega)) (by first | assumption | exact pI_rg _ | (unfold rg; omega)) dX7_weapon_24 (by decide) (fun c_24 => ?_) (fun c_24 => ?_)
      · refine J_aload_n (M := mX7_weapon) dX7_weapon_37 rfl rfl ?_
        refine J_getf (M := mX7_weapon) dX7_weapon_38 fi_X7_79 (hk_1 (by first | exact rfl | assumption | exact Or.inl (by assumption) | exact Or.inr rfl | (show 0 ≤ _ ∧ _ < _; omega))) rfl ?_
        refine Z_wb (M := mX7_weapon) (g := ρ 2) (wk2 V) rfl (fun wb_2_14 => ?_)
        refine J_istore_n (M := mX7_weapon) dX7_weapon_41 rfl (by decide) ?_
        refine J_aload_n (M := mX7_weapon) dX7_weapon_42 rfl rfl ?_
        refine J_getf (M := mX7_weapon) dX7_weapon_43 fi_X7_17 (hk_1 (by first | exact rfl | assumption | exact Or.inl (by assumption) | exact Or.inr rfl | (show 0 ≤ _ ∧ _ < _; omega))) rfl ?_
        refine J_iload_n (M := mX7_weapon) dX7_weapon_46 rfl rfl ?_
        refine J_le (M := mX7_weapon) (k' := 0 + 1) (n' := 2 + 4) (by decide) (by decide) ?_
        refine J_new (M := mX7_weapon) dX7_weapon_47 ni_X7_15 (hk_fr (by decide) f12) (tg_ne (by decide)) ?_
        refine Z_h (M := mX7_weapon) (nwp_e (by omega)) ?_
        have e12 : CE (nwp ρ) 12 (ρ 47 1) := ⟨by omega, show ρ 47 1 < ρ 47 1 + 1 by omega⟩
        refine J_dup (M := mX7_weapon) dX7_weapon_50 rfl ?_
        refine J_iload_n (M := mX7_weapon) dX7_weapon_51 rfl rfl ?_
        refine J_iload_n (M := mX7_weapon) dX7_weapon_52 rfl rfl ?_
        refine J_callI (M := mX7_weapon) (as := [_, _]) dX7_weapon_53 ca_X7_84 rfl ⟨by decide, by decide⟩ rfl (Nat.le_of_ble_eq_true rfl) (k' := 0) (n' := 0) (by decide) (by decide) (kX6_init e12) (fun v_41 h_41 hv_41 => ?_)
        obtain ⟨r_41, rfl, rfl, e_41⟩ := hv_41
        rw [e_41]
        have e12' : CE (ts (ts (ts (nwp ρ) 15 (ρ 47 1) 0) 13 (ρ 47 1) (ρ 2 0)) 14 (ρ 47 1) f) 12 (ρ 47 1) := e12
        refine J_aast (M := mX7_weapon) dX7_weapon_56 (by decide) rfl rfl (hk_3 rfl) (hk_12 e12') (ix_iI (by omega) (by omega) (by decide)) ?_
        refine Z_h (M := mX7_weapon) (hkqa_5 (by omega) ⟨by omega, by omega⟩) ?_
        refine J_aload_n (M := mX7_weapon) dX7_weapon_57 rfl rfl ?_
        refine J_dup (M := mX7_weapon) dX7_weapon_58 rfl ?_
        refine J_getf (M := mX7_weapon) dX7_weapon_59 fi_X7_79 (hk_1 (by first | exact rfl | assumption | exact Or.inl (by assumption) | exact Or.inr rfl | (show 0 ≤ _ ∧ _ < _; omega))) rfl ?_
        refine Z_wb (M := mX7_weapon) (g := ρ 2) (wk2 V) rfl (fun wb_2_28 => ?_)
        refine Z_iconst (M := mX7_weapon) dX7_weapon_62 ?_
        refine Z_iadd (M := mX7_weapon) dX7_weapon_63 ?_
        refine J_putI (M := mX7_weapon) dX7_weapon_64 fi_X7_79 (hk_1 (by first | exact rfl | assumption | exact Or.inl (by assumption) | exact Or.inr rfl | (show 0 ≤ _ ∧ _ < _; omega))) (Nat.le_of_ble_eq_true rfl) ?_
        refine Z_h (M := mX7_weapon) (hkp_2 (by first | exact rfl | assumption | exact Or.inl (by assumption) | exact Or.inr rfl | (show 0 ≤ _ ∧ _ < _; omega))) ?_
        refine J_iload_n (M := mX7_weapon) dX7_weapon_67 rfl rfl ?_
        refine K_iretE dX7_weapon_68 rfl ?_
        exact ⟨(gl_0 ⟨(by first | exact n10 | exact pI_n0.mpr (by omega)), (by first | exact n10 | exact pI_n0.mpr (by omega)), (by first | exact n10 | exact pI_n0.mpr (by omega))⟩), (by rw [a0.2.2.2.1]), RR_weapon R (by omega) q⟩
      · refine K_thr (M := mX7_weapon) rfl rfl ti_60_82_64 (by decide) (by decide) (by decide) (by decide) (Or.inl ⟨dX7_weapon_27, dX7_weapon_30, dX7_weapon_31, dX7_weapon_33, dX7_weapon_36⟩) ?_
        first
          | exact EM_1 (pI_f (by omega)) rfl
          | exact EM_2 (pI_n0.mpr (by omega)) (pI_f (by omega)) rfl
          | exact EM_3 (pI_n0.mpr (by omega)) (pI_n0.mpr (by omega)) (pI_f (by omega)) rfl
    · omega
  · have hx : fAt τ f = -1 := if_neg q
    refine J_aload_n (M := mX7_weapon) dX7_weapon_0 rfl rfl ?_
    refine J_iload_n (M := mX7_weapon) dX7_weapon_1 rfl rfl ?_
    refine J_callV (M := mX7_weapon) (as := [_]) dX7_weapon_2 ca_X7_70 ⟨by decide, by decide⟩ (hk_1 (by first | exact rfl | assumption | exact Or.inl (by assumption) | exact Or.inr rfl | (show 0 ≤ _ ∧ _ < _; omega))) rfl (Nat.le_of_ble_eq_true rfl) (k' := 1) (n' := 6) (by decide) (by decide) (kX7_fencerAt V hf) (fun v_2 h_2 hv_2 => ?_)
    obtain ⟨r_2, rfl, hv_2⟩ := hv_2
    obtain ⟨rfl, e_2⟩ := hv_2
    rw [e_2]
    refine Z_rfe (M := mX7_weapon) ((fAt_e R).trans hx) ?_
    first | refine Z_uns (M := mX7_weapon) (by omega) ?_ | skip
    refine K_ifnonnull (tgt := 18) dX7_weapon_5 (by decide) (fun c_5 => ?_) (fun c_5 => ?_)
    · omega
    · refine K_thr (M := mX7_weapon) rfl rfl ti_74_76_78 (by decide) (by decide) (by decide) (by decide) (Or.inl ⟨dX7_weapon_8, dX7_weapon_11, dX7_weapon_12, dX7_weapon_14, dX7_weapon_17⟩) ?_
      first
        | exact EM_1 (pI_f (by omega)) rfl
        | exact EM_2 (pI_n0.mpr (by omega)) (pI_f (by omega)) rfl
        | exact EM_3 (pI_n0.mpr (by omega)) (pI_n0.mpr (by omega)) (pI_f (by omega)) rfl
