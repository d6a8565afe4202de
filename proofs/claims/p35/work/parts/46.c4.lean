/-! THE CLASS: tallies and bouts -/
def tad (g t : Int) (z : Int × Int) : Int × Int := if g ≤ z.1 ∨ g ≤ z.2 then z else if g ≤ z.1 + t % 2 ∧ g ≤ z.2 + t / 2 then z else (z.1 + t % 2, z.2 + t / 2)
/-- the reference's tally, as the class keeps it -/
theorem tl_ok {g : Int} {T : Int → Int} (hg : 1 ≤ g) (hT : ∀ i, 0 ≤ T i ∧ T i ≤ 3) : ∀ k : Nat, 0 ≤ (tlF g T k).1 ∧ (tlF g T k).1 ≤ g ∧ 0 ≤ (tlF g T k).2.1 ∧ (tlF g T k).2.1 ≤ g ∧ ((tlF g T k).1 < g ∨ (tlF g T k).2.1 < g) ∧ (tlF g T k).2.2 = twon g (tlF g T k).1 (tlF g T k).2.1
  | 0 => by
    show (0 : Int) ≤ 0 ∧ (0 : Int) ≤ g ∧ (0 : Int) ≤ 0 ∧ (0 : Int) ≤ g ∧ ((0 : Int) < g ∨ (0 : Int) < g) ∧ (-1 : Int) = twon g 0 0
    unfold twon
    rw [if_neg (by omega), if_neg (by omega)]
    omega
  | k + 1 => by
    obtain ⟨a1, a2, a3, a4, a5, a6⟩ := tl_ok hg hT k
    have hk := hT k
    have m1 := (mand_v hk).1
    by_cases e : (tlF g T k).2.2 = -1
    · have e2 : tlF g T (k + 1) = ((tadd g (T k) (tlF g T k)).1, (tadd g (T k) (tlF g T k)).2, twon g (tadd g (T k) (tlF g T k)).1 (tadd g (T k) (tlF g T k)).2) := if_pos e
      rw [e2]
      show 0 ≤ (tadd g (T k) (tlF g T k)).1 ∧ (tadd g (T k) (tlF g T k)).1 ≤ g ∧ 0 ≤ (tadd g (T k) (tlF g T k)).2 ∧ (tadd g (T k) (tlF g T k)).2 ≤ g ∧ ((tadd g (T k) (tlF g T k)).1 < g ∨ (tadd g (T k) (tlF g T k)).2 < g) ∧ _
      have e3 : ¬ (tlF g T k).1 = g ∧ ¬ (tlF g T k).2.1 = g := by
        rw [a6] at e
        unfold twon at e
        split at e
        · omega
        · split at e <;> omega
      refine ⟨?_, ?_, ?_, ?_, ?_, rfl⟩ <;> (unfold tadd; rw [m1]; split <;> dsimp only <;> omega)
    · have e2 : tlF g T (k + 1) = tlF g T k := if_neg e
      rw [e2]
      exact ⟨a1, a2, a3, a4, a5, a6⟩
theorem tl_st {g : Int} {T : Int → Int} (hg : 1 ≤ g) (hT : ∀ i, 0 ≤ T i ∧ T i ≤ 3) (k : Nat) : tad g (T k) ((tlF g T k).1, (tlF g T k).2.1) = ((tlF g T (k + 1)).1, (tlF g T (k + 1)).2.1) := by
  obtain ⟨a1, a2, a3, a4, a5, a6⟩ := tl_ok hg hT k
  have hk := hT k
  have m1 := (mand_v hk).1
  by_cases e : (tlF g T k).2.2 = -1
  · have e2 : tlF g T (k + 1) = ((tadd g (T k) (tlF g T k)).1, (tadd g (T k) (tlF g T k)).2, twon g (tadd g (T k) (tlF g T k)).1 (tadd g (T k) (tlF g T k)).2) := if_pos e
    have e3 : ¬ (tlF g T k).1 = g ∧ ¬ (tlF g T k).2.1 = g := by
      rw [a6] at e
      unfold twon at e
      split at e
      · omega
      · split at e <;> omega
    rw [e2]
    unfold tad tadd
    rw [m1]
    dsimp only
    rw [if_neg (by omega)]
    by_cases q : T k < 3 ∨ (tlF g T k).1 + 1 < g ∨ (tlF g T k).2.1 + 1 < g
    · rw [if_pos q, if_neg (by omega)]
    · rw [if_neg q, if_pos (by omega)]
  · have e2 : tlF g T (k + 1) = tlF g T k := if_neg e
    have e3 : (tlF g T k).1 = g ∨ (tlF g T k).2.1 = g := by
      rw [a6] at e
      unfold twon at e
      split at e
      · omega
      · split at e <;> omega
    rw [e2]
    unfold tad
    rw [if_pos (by dsimp only; omega)]
theorem te_r {τ : TS} (W : WF τ) (b : Int) : 0 ≤ (te τ b).1 ∧ (te τ b).1 ≤ gl3 b ∧ 0 ≤ (te τ b).2.1 ∧ (te τ b).2.1 ≤ gl3 b ∧ ((te τ b).1 < gl3 b ∨ (te τ b).2.1 < gl3 b) ∧ (te τ b).2.2 = (if gl3 b ≤ (te τ b).1 ∨ gl3 b ≤ (te τ b).2.1 ∨ 12 ≤ τ 10 b then (if (te τ b).1 < (te τ b).2.1 then 1 else 0) else -1) := by
  have hg : 1 ≤ gl3 b := by unfold gl3; split <;> omega
  obtain ⟨a1, a2, a3, a4, a5, a6⟩ := tl_ok (T := tch τ b) hg (tch_rg b) (τ 10 b).toNat
  have b10 := wf10 W b
  refine ⟨a1, a2, a3, a4, a5, ?_⟩
  show (if (tlF (gl3 b) (tch τ b) (τ 10 b).toNat).2.2 = -1 ∧ τ 10 b = 12 then (if (tlF (gl3 b) (tch τ b) (τ 10 b).toNat).1 < (tlF (gl3 b) (tch τ b) (τ 10 b).toNat).2.1 then (1 : Int) else 0) else (tlF (gl3 b) (tch τ b) (τ 10 b).toNat).2.2) = (if gl3 b ≤ (tlF (gl3 b) (tch τ b) (τ 10 b).toNat).1 ∨ gl3 b ≤ (tlF (gl3 b) (tch τ b) (τ 10 b).toNat).2.1 ∨ 12 ≤ τ 10 b then (if (tlF (gl3 b) (tch τ b) (τ 10 b).toNat).1 < (tlF (gl3 b) (tch τ b) (τ 10 b).toNat).2.1 then (1 : Int) else 0) else -1)
  rw [a6]
  generalize (tlF (gl3 b) (tch τ b) (τ 10 b).toNat).1 = x at a1 a2 a5 ⊢
  generalize (tlF (gl3 b) (tch τ b) (τ 10 b).toNat).2.1 = y at a3 a4 a5 ⊢
  unfold twon
  by_cases q1 : x = gl3 b
  · rw [if_pos q1, if_neg (fun z => absurd z.1 (by decide)), if_pos (by omega), if_neg (by omega)]
  · rw [if_neg q1]
    by_cases q2 : y = gl3 b
    · rw [if_pos q2, if_neg (fun z => absurd z.1 (by decide)), if_pos (by omega), if_pos (by omega)]
    · rw [if_neg q2]
      by_cases q3 : τ 10 b = 12
      · rw [if_pos ⟨rfl, q3⟩, if_pos (show gl3 b ≤ x ∨ gl3 b ≤ y ∨ 12 ≤ τ 10 b by omega)]
      · rw [if_neg (fun z => q3 z.2), if_neg (by omega)]
/-- weapons -/
def WR (ρ τ : TS) : Prop := ∀ w, 0 ≤ w → w < ρ 47 1 → ρ 15 w = τ 3 w ∧ ρ 16 w = τ 4 w ∧ (¬ τ 4 w = 0 → τ 3 w = 2)
/-- a bout with its phrases, without its score -/
def BR (ρ τ : TS) (b : Int) : Prop := (0 ≤ b ∧ b < 82) ∧ ρ 48 b = 1 ∧ ρ 17 b = (if b < 66 then 1 else 0) ∧ ρ 24 b = gl3 b ∧ ρ 20 b = τ 10 b ∧ ∀ j, 0 ≤ j → j < τ 10 b → PH ρ τ (ρ 23 (12 * b + j)) (12 * b + j) ∧ ρ 36 (ρ 23 (12 * b + j)) = jd τ (12 * b + j)
/-- its score -/
def TL (ρ τ : TS) (b : Int) : Prop := ρ 25 b = (te τ b).1 ∧ ρ 26 b = (te τ b).2.1
theorem wsv_t {ρ τ : TS} (V : WK ρ) (R : WR ρ τ) (W : WF τ) {b j p q : Int} (hf : 0 ≤ 12 * b + j) (P : PH ρ τ p (12 * b + j)) (hq : q = if b < 66 then 1 else 0) : wsv ρ p q (jd τ (12 * b + j)) = tch τ b j := by
  obtain ⟨h1, h2, h3, h4, -⟩ := P
  have w1 := R (ρ 28 p) (by have := wk28 V p; omega) h3.2
  have w2 := R (ρ 29 p) (by have := wk29 V p; omega) h4.2
  have key : ∀ w, (ρ 15 w = τ 3 w ∧ ρ 16 w = τ 4 w ∧ (¬ τ 4 w = 0 → τ 3 w = 2)) → (fls ρ w q ↔ stk τ w b) := fun w h => by
    unfold fls stk
    have hb : q = if b < 66 then 1 else 0 := hq
    split at hb <;> omega
  have e1 := key _ w1
  have e2 := key _ w2
  unfold wsv tch
  rw [h3.1] at e1
  rw [h4.1] at e2
  rw [h3.1, h4.1]
  have m1 : (2 + (1 - pI (fls ρ (τ 13 (2 * (12 * b + j))) q))) = (if stk τ (τ 13 (2 * (12 * b + j))) b then 2 else 3) := by
    by_cases z : stk τ (τ 13 (2 * (12 * b + j))) b
    · rw [if_pos z, pI_t (e1.mpr z)]; rfl
    · rw [if_neg z, pI_f (fun y => z (e1.mp y))]; rfl
  have m2 : (1 + 2 * (1 - pI (fls ρ (τ 13 (2 * (12 * b + j) + 1)) q))) = (if stk τ (τ 13 (2 * (12 * b + j) + 1)) b then 1 else 3) := by
    by_cases z : stk τ (τ 13 (2 * (12 * b + j) + 1)) b
    · rw [if_pos z, pI_t (e2.mpr z)]; rfl
    · rw [if_neg z, pI_f (fun y => z (e2.mp y))]; rfl
  rw [m1, m2]
set_option maxRecDepth 100000 in
set_option maxHeartbeats 4000000 in
theorem kX5_add {X : GX} {h : LH} {ρ : TS} (V : WK ρ) {t x : Int} (e : CE ρ 15 t) (hx : 0 ≤ x ∧ x ≤ 3) : CK X mX5_add [vR (some (15, t)), vI (iI x)] h ρ (fun v r => v = none ∧ r = ts (ts ρ 25 t (tad (ρ 24 t) x (ρ 25 t, ρ 26 t)).1) 26 t (tad (ρ 24 t) x (ρ 25 t, ρ 26 t)).2) := by
  have b24 := wk24 V t
  have b25 := wk25 V t
  have b26 := wk26 V t
  have mt := mand_v hx
  refine CT_of (by decide +kernel) rfl (Nat.le_of_ble_eq_true rfl) ?_
  refine J_aload_n (M := mX5_add) dX5_add_0 rfl rfl ?_
  refine J_callV (M := mX5_add) (as := []) dX5_add_1 ca_X5_21 ⟨by decide, by decide⟩ (hk_15 (by first | exact rfl | assumption | exact Or.inl (by assumption) | exact Or.inr rfl | (unfold CE; omega))) rfl (Nat.le_of_ble_eq_true rfl) (k' := 0) (n' := 0) (by decide) (by decide) (kX5_isAtGoal V e) (fun v_1 h_1 hv_1 => ?_)
  obtain ⟨r_1, rfl, hv_1⟩ := hv_1
  obtain ⟨rfl, e_1⟩ := hv_1
  rw [e_1]
  first
    | refine Z_pf (M := mX5_add) (tgt := 8) dX5_add_4 (by decide) (fun c_4 => ?_) (fun c_4 => ?_)
    | refine Z_if_eq (M := mX5_add) (tgt := 8) (by first | assumption | exact pI_rg _ | (unfold rg; omega)) dX5_add_4 (by decide) (fun c_4 => ?_) (fun c_4 => ?_)
  · refine J_aload_n (M := mX5_add) dX5_add_8 rfl rfl ?_
    refine J_getf (M := mX5_add) dX5_add_9 fi_X5_15 (hk_15 (by first | exact rfl | assumption | exact Or.inl (by assumption) | exact Or.inr rfl | (unfold CE; omega))) rfl ?_
    refine Z_wb (M := mX5_add) (g := ρ 25) (wk25 V) rfl (fun wb_25_7 => ?_)
    refine Z_ij (M := mX5_add) (pcB := 23) (x % 2) (fun hj_23 => ?_) ?_
    · refine J_iload_n (M := mX5_add) dX5_add_12 rfl rfl ?_
      refine Z_iconst (M := mX5_add) dX5_add_13 ?_
      refine J_iand (M := mX5_add) dX5_add_14 ?_
      refine J_eq (M := mX5_add) (iI_and (by omega) (by omega)) ?_
      first
        | refine Z_pf (M := mX5_add) (tgt := 22) dX5_add_15 (by decide) (fun c_15 => ?_) (fun c_15 => ?_)
        | refine Z_if_eq (M := mX5_add) (tgt := 22) (by first | assumption | exact pI_rg _ | (unfold rg; omega)) dX5_add_15 (by decide) (fun c_15 => ?_) (fun c_15 => ?_)
      · refine Z_iconst (M := mX5_add) dX5_add_22 ?_
        exact hj_23 _ (by omega)
      · refine Z_iconst (M := mX5_add) dX5_add_18 ?_
        refine J_goto (M := mX5_add) (tgt := 23) dX5_add_19 (by decide) ?_
        exact hj_23 _ (by omega)
    refine Z_iadd (M := mX5_add) dX5_add_23 ?_
    refine J_istore_n (M := mX5_add) dX5_add_24 rfl (by decide) ?_
    refine J_aload_n (M := mX5_add) dX5_add_25 rfl rfl ?_
    refine J_getf (M := mX5_add) dX5_add_26 fi_X5_18 (hk_15 (by first | exact rfl | assumption | exact Or.inl (by assumption) | exact Or.inr rfl | (unfold CE; omega))) rfl ?_
    refine Z_wb (M := mX5_add) (g := ρ 26) (wk26 V) rfl (fun wb_26_13 => ?_)
    refine Z_ij (M := mX5_add) (pcB := 40) (x / 2) (fun hj_40 => ?_) ?_
    · refine J_iload_n (M := mX5_add) dX5_add_29 rfl rfl ?_
      refine Z_iconst (M := mX5_add) dX5_add_30 ?_
      refine J_iand (M := mX5_add) dX5_add_31 ?_
      refine J_eq (M := mX5_add) (iI_and (by omega) (by omega)) ?_
      first
        | refine Z_pf (M := mX5_add) (tgt := 39) dX5_add_32 (by decide) (fun c_32 => ?_) (fun c_32 => ?_)
        | refine Z_if_eq (M := mX5_add) (tgt := 39) (by first | assumption | exact pI_rg _ | (unfold rg; omega)) dX5_add_32 (by decide) (fun c_32 => ?_) (fun c_32 => ?_)
      · refine Z_iconst (M := mX5_add) dX5_add_39 ?_
        exact hj_40 _ (by omega)
      · refine Z_iconst (M := mX5_add) dX5_add_35 ?_
        refine J_goto (M := mX5_add) (tgt := 40) dX5_add_36 (by decide) ?_
        exact hj_40 _ (by omega)
    refine Z_iadd (M := mX5_add) dX5_add_40 ?_
    refine J_istore_n (M := mX5_add) dX5_add_41 rfl (by decide) ?_
    refine J_iload_n (M := mX5_add) dX5_add_42 rfl rfl ?_
    refine J_aload_n (M := mX5_add) dX5_add_43 rfl rfl ?_
    refine J_getf (M := mX5_add) dX5_add_44 fi_X5_9 (hk_15 (by first | exact rfl | assumption | exact Or.inl (by assumption) | exact Or.inr rfl | (unfold CE; omega))) rfl ?_
    refine Z_wb (M := mX5_add) (g := ρ 24) (wk24 V) rfl (fun wb_24_20 => ?_)
    refine Z_ic_lt (M := mX5_add) (tgt := 59) (by first | assumption | exact pI_rg _ | (unfold rg; omega)) (by first | assumption | exact pI_rg _ | (unfold rg; omega)) dX5_add_47 (by decide) (fun c_47 => ?_) (fun c_47 => ?_)
    · refine J_aload_n (M := mX5_add) dX5_add_59 rfl rfl ?_
      refine J_iload_n (M := mX5_add) dX5_add_60 rfl rfl ?_
      refine J_putI (M := mX5_add) dX5_add_61 fi_X5_15 (hk_15 (by first | exact rfl | assumption | exact Or.inl (by assumption) | exact Or.inr rfl | (unfold CE; omega))) (Nat.le_of_ble_eq_true rfl) ?_
      refine Z_h (M := mX5_add) (hkp_25 (by first | exact rfl | assumption | exact Or.inl (by assumption) | exact Or.inr rfl | (unfold CE; omega))) ?_
      refine J_aload_n (M := mX5_add) dX5_add_64 rfl rfl ?_
      refine J_iload_n (M := mX5_add) dX5_add_65 rfl rfl ?_
      refine J_putI (M := mX5_add) dX5_add_66 fi_X5_18 (hk_15 (by first | exact rfl | assumption | exact Or.inl (by assumption) | exact Or.inr rfl | (unfold CE; omega))) (Nat.le_of_ble_eq_true rfl) ?_
      refine Z_h (M := mX5_add) (hkp_26 (by first | exact rfl | assumption | exact Or.inl (by assumption) | exact Or.inr rfl | (unfold CE; omega))) ?_
      refine K_vret dX5_add_69 rfl ?_
      exact And.intro rfl (by
        unfold tad
        first
          | (rw [if_pos (by omega)]; dsimp only; rw [ts_id]; exact ts_id.symm)
          | (rw [if_neg (by omega), if_pos (by omega)]; dsimp only; rw [ts_id]; exact ts_id.symm)
          | rw [if_neg (by omega), if_neg (by omega)])
    · refine J_iload_n (M := mX5_add) dX5_add_50 rfl rfl ?_
      refine J_aload_n (M := mX5_add) dX5_add_51 rfl rfl ?_
      refine J_getf (M := mX5_add) dX5_add_52 fi_X5_9 (hk_15 (by first | exact rfl | assumption | exact Or.inl (by assumption) | exact Or.inr rfl | (unfold CE; omega))) rfl ?_
      refine Z_wb (M := mX5_add) (g := ρ 24) (wk24 V) rfl (fun wb_24_35 => ?_)
      refine Z_ic_lt (M := mX5_add) (tgt := 59) (by first | assumption | exact pI_rg _ | (unfold rg; omega)) (by first | assumption | exact pI_rg _ | (unfold rg; omega)) dX5_add_55 (by decide) (fun c_55 => ?_) (fun c_55 => ?_)
      · refine J_aload_n (M := mX5_add) dX5_add_59 rfl rfl ?_
        refine J_iload_n (M := mX5_add) dX5_add_60 rfl rfl ?_
        refine J_putI (M := mX5_add) dX5_add_61 fi_X5_15 (hk_15 (by first | exact rfl | assumption | exact Or.inl (by assumption) | exact Or.inr rfl | (unfold CE; omega))) (Nat.le_of_ble_eq_true rfl) ?_
        refine Z_h (M := mX5_add) (hkp_25 (by first | exact rfl | assumption | exact Or.inl (by assumption) | exact Or.inr rfl | (unfold CE; omega))) ?_
        refine J_aload_n (M := mX5_add) dX5_add_64 rfl rfl ?_
        refine J_iload_n (M := mX5_add) dX5_add_65 rfl rfl ?_
        refine J_putI (M := mX5_add) dX5_add_66 fi_X5_18 (hk_15 (by first | exact rfl | assumption | exact Or.inl (by assumption) | exact Or.inr rfl | (unfold CE; omega))) (Nat.le_of_ble_eq_true rfl) ?_
        refine Z_h (M := mX5_add) (hkp_26 (by first | exact rfl | assumption | exact Or.inl (by assumption) | exact Or.inr rfl | (unfold CE; omega))) ?_
        refine K_vret dX5_add_69 rfl ?_
        exact And.intro rfl (by
          unfold tad
          first
            | (rw [if_pos (by omega)]; dsimp only; rw [ts_id]; exact ts_id.symm)
            | (rw [if_neg (by omega), if_pos (by omega)]; dsimp only; rw [ts_id]; exact ts_id.symm)
            | rw [if_neg (by omega), if_neg (by omega)])
      · refine K_vret dX5_add_58 rfl ?_
        exact And.intro rfl (by
          unfold tad
          first
            | (rw [if_pos (by omega)]; dsimp only; rw [ts_id]; exact ts_id.symm)
            | (rw [if_neg (by omega), if_pos (by omega)]; dsimp only; rw [ts_id]; exact ts_id.symm)
            | rw [if_neg (by omega), if_neg (by omega)])
  · refine K_vret dX5_add_7 rfl ?_
    exact And.intro rfl (by
      unfold tad
      first
        | (rw [if_pos (by omega)]; dsimp only; rw [ts_id]; exact ts_id.symm)
        | (rw [if_neg (by omega), if_pos (by omega)]; dsimp only; rw [ts_id]; exact ts_id.symm)
        | rw [if_neg (by omega), if_neg (by omega)])

set_option maxRecDepth 100000 in
set_option maxHeartbeats 4000000 in
theorem kX0_phraseAt {X : GX} {h : LH} {ρ : TS} (V : WK ρ) {b j : Int} (e : CE ρ 13 b) (hj : rg j) : CK X mX0_phraseAt [vR (some (13, b)), vI (iI j)] h ρ (fun v r => v = some (vR (rfo 16 (if 0 ≤ j ∧ j < ρ 20 b then ρ 23 (12 * b + j) else -1))) ∧ r = ρ) := by
  have b20 := wk20 V b
  refine CT_of (by decide +kernel) rfl (Nat.le_of_ble_eq_true rfl) ?_
  refine J_iload_n (M := mX0_phraseAt) dX0_phraseAt_0 rfl rfl ?_
  refine Z_if_lt (M := mX0_phraseAt) (tgt := 27) (by first | assumption | exact pI_rg _ | (unfold rg; omega)) dX0_phraseAt_1 (by decide) (fun c_1 => ?_) (fun c_1 => ?_)
  · refine J_null (M := mX0_phraseAt) dX0_phraseAt_27 ?_
    first | refine Z_uns (M := mX0_phraseAt) (by omega) ?_ | refine Z_unn (M := mX0_phraseAt) 16 ?_ | skip
    refine J_aret (M := mX0_phraseAt) dX0_phraseAt_28 rfl (QK_ok ?_)
    first
      | (exfalso; omega)
      | exact And.intro (by rw [if_pos (by omega)]) rfl
      | exact And.intro (by rw [if_neg (by omega)]) rfl
  · refine J_iload_n (M := mX0_phraseAt) dX0_phraseAt_4 rfl rfl ?_
    refine J_aload_n (M := mX0_phraseAt) dX0_phraseAt_5 rfl rfl ?_
    refine J_getf (M := mX0_phraseAt) dX0_phraseAt_6 fi_X0_45 (hk_13 (by first | exact rfl | assumption | exact Or.inl (by assumption) | exact Or.inr rfl | (unfold CE; omega))) rfl ?_
    refine Z_wb (M := mX0_phraseAt) (g := ρ 20) (wk20 V) rfl (fun wb_20_8 => ?_)
    refine Z_ic_ge (M := mX0_phraseAt) (tgt := 27) (by first | assumption | exact pI_rg _ | (unfold rg; omega)) (by first | assumption | exact pI_rg _ | (unfold rg; omega)) dX0_phraseAt_9 (by decide) (fun c_9 => ?_) (fun c_9 => ?_)
    · refine J_null (M := mX0_phraseAt) dX0_phraseAt_27 ?_
      first | refine Z_uns (M := mX0_phraseAt) (by omega) ?_ | refine Z_unn (M := mX0_phraseAt) 16 ?_ | skip
      refine J_aret (M := mX0_phraseAt) dX0_phraseAt_28 rfl (QK_ok ?_)
      first
        | (exfalso; omega)
        | exact And.intro (by rw [if_pos (by omega)]) rfl
        | exact And.intro (by rw [if_neg (by omega)]) rfl
    · refine J_iload_n (M := mX0_phraseAt) dX0_phraseAt_12 rfl rfl ?_
      refine Z_bipush (M := mX0_phraseAt) dX0_phraseAt_13 rfl ?_
      refine Z_ic_ge (M := mX0_phraseAt) (tgt := 27) (by first | assumption | exact pI_rg _ | (unfold rg; omega)) (by first | assumption | exact pI_rg _ | (unfold rg; omega)) dX0_phraseAt_15 (by decide) (fun c_15 => ?_) (fun c_15 => ?_)
      · refine J_null (M := mX0_phraseAt) dX0_phraseAt_27 ?_
        first | refine Z_uns (M := mX0_phraseAt) (by omega) ?_ | refine Z_unn (M := mX0_phraseAt) 16 ?_ | skip
        refine J_aret (M := mX0_phraseAt) dX0_phraseAt_28 rfl (QK_ok ?_)
        first
          | (exfalso; omega)
          | exact And.intro (by rw [if_pos (by omega)]) rfl
          | exact And.intro (by rw [if_neg (by omega)]) rfl
      · refine J_aload_n (M := mX0_phraseAt) dX0_phraseAt_18 rfl rfl ?_
        refine J_getf (M := mX0_phraseAt) dX0_phraseAt_19 fi_X0_11 (hk_13 (by first | exact rfl | assumption | exact Or.inl (by assumption) | exact Or.inr rfl | (unfold CE; omega))) rfl ?_
        refine J_iload_n (M := mX0_phraseAt) dX0_phraseAt_22 rfl rfl ?_
        refine Z_aald (M := mX0_phraseAt) dX0_phraseAt_23 (by decide) rfl (hk_14 (by first | exact rfl | assumption | exact Or.inl (by assumption) | exact Or.inr rfl | (unfold CE; omega))) (by decide) (by omega) (by omega) ?_
        refine Z_req (M := mX0_phraseAt) (rar_at (by omega)) ?_
        refine Z_rfe (M := mX0_phraseAt) (sub_at ⟨by omega, by omega⟩) ?_
        refine Z_rwb (M := mX0_phraseAt) (g := ρ 23) (wk23 V) rfl (fun wb_23_24 => ?_)
        first | refine Z_some (M := mX0_phraseAt) (by omega) ?_ | skip
        refine J_goto (M := mX0_phraseAt) (tgt := 28) dX0_phraseAt_24 (by decide) ?_
        first | refine Z_uns (M := mX0_phraseAt) (by omega) ?_ | refine Z_unn (M := mX0_phraseAt) 16 ?_ | skip
        refine J_aret (M := mX0_phraseAt) dX0_phraseAt_28 rfl (QK_ok ?_)
        first
          | (exfalso; omega)
          | exact And.intro (by rw [if_pos (by omega)]) rfl
          | exact And.intro (by rw [if_neg (by omega)]) rfl

set_option maxRecDepth 100000 in
set_option maxHeartbeats 4000000 in
theorem kX0_touchesLeft {X : GX} {h : LH} {ρ τ : TS} (V : WK ρ) (R : WR ρ τ) (W : WF τ) {b j p : Int} (e : CE ρ 13 b) (h17 : ρ 17 b = if b < 66 then 1 else 0) (hf : 0 ≤ 12 * b + j) (P : PH ρ τ p (12 * b + j)) (hg : ρ 36 p = jd τ (12 * b + j)) : CK X mX0_touchesLeft [vR (some (13, b)), vR (some (16, p))] h ρ (fun v r => v = some (vI (iI (tch τ b j))) ∧ r = ρ) := by
  have P1 := P.1
  have P3 := P.2.2.1
  have P4 := P.2.2.2.1
  have b28 := wk28 V p
  have b29 := wk29 V p
  have b17 := wk17 V b
  have q17 : ρ 17 b = 0 ∨ ρ 17 b = 1 := by omega
  have b36 := jd_rg W hf
  refine CT_of (by decide +kernel) rfl (Nat.le_of_ble_eq_true rfl) ?_
  refine J_aload_n (M := mX0_touchesLeft) dX0_touchesLeft_0 rfl rfl ?_
  first | refine Z_some (M := mX0_touchesLeft) (by omega) ?_ | skip
  refine J_aload_n (M := mX0_touchesLeft) dX0_touchesLeft_1 rfl rfl ?_
  first | refine Z_some (M := mX0_touchesLeft) (by omega) ?_ | skip
  refine J_getf (M := mX0_touchesLeft) dX0_touchesLeft_2 fi_X0_54 (hk_16 (by first | exact rfl | assumption | exact Or.inl (by assumption) | exact Or.inr rfl | (unfold CE; omega))) rfl ?_
  refine Z_wb (M := mX0_touchesLeft) (g := ρ 36) (wk36 V) rfl (fun wb_36_5 => ?_)
  refine J_aload_n (M := mX0_touchesLeft) dX0_touchesLeft_5 rfl rfl ?_
  refine J_getf (M := mX0_touchesLeft) dX0_touchesLeft_6 fi_X0_31 (hk_13 (by first | exact rfl | assumption | exact Or.inl (by assumption) | exact Or.inr rfl | (unfold CE; omega))) rfl ?_
  refine Z_wb (M := mX0_touchesLeft) (g := ρ 17) (wk17 V) rfl (fun wb_17_8 => ?_)
  refine J_callV (M := mX0_touchesLeft) (as := [_, _]) dX0_touchesLeft_9 ca_X0_57 ⟨by decide, by decide⟩ (hk_16 (by first | exact rfl | assumption | exact Or.inl (by assumption) | exact Or.inr rfl | (unfold CE; omega))) rfl (Nat.le_of_ble_eq_true rfl) (k' := 0) (n' := 0) (by decide) (by decide) (kX2_withoutStruck V P1 (by omega) (by omega) (by omega) q17) (fun v_9 h_9 hv_9 => ?_)
  obtain ⟨r_9, rfl, hv_9⟩ := hv_9
  obtain ⟨rfl, e_9⟩ := hv_9
  rw [e_9]
  refine Z_eq (M := mX0_touchesLeft) (b := tch τ b j) (by rw [hg]; exact wsv_t V R W hf P h17) ?_
  refine K_iret dX0_touchesLeft_12 rfl ?_
  exact And.intro rfl rfl

set_option maxRecDepth 100000 in
set_option maxHeartbeats 4000000 in
theorem kX0_winningSide {X : GX} {h : LH} {ρ τ : TS} (V : WK ρ) (W : WF τ) {b : Int} (e : CE ρ 13 b) (h24 : ρ 24 b = gl3 b) (h20 : ρ 20 b = τ 10 b) (T : TL ρ τ b) : CK X mX0_winningSide [vR (some (13, b))] h ρ (fun v r => v = some (vI (iI (te τ b).2.2)) ∧ r = ρ) := by
  have e15 : CE ρ 15 b := Or.inl e
  obtain ⟨t1, t2⟩ := id T
  obtain ⟨a1, a2, a3, a4, a5, a6⟩ := te_r W b
  have b24 := wk24 V b
  have b25 := wk25 V b
  have b26 := wk26 V b
  have b20 := wk20 V b
  refine CT_of (by decide +kernel) rfl (Nat.le_of_ble_eq_true rfl) ?_
  refine J_aload_n (M := mX0_winningSide) dX0_winningSide_0 rfl rfl ?_
  refine J_getf (M := mX0_winningSide) dX0_winningSide_1 fi_X0_27 (hk_13 (by first | exact rfl | assumption | exact Or.inl (by assumption) | exact Or.inr rfl | (unfold CE; omega))) rfl ?_
  refine J_callV (M := mX0_winningSide) (as := []) dX0_winningSide_4 ca_X0_76 ⟨by decide, by decide⟩ (hk_15 (by first | exact rfl | assumption | exact Or.inl (by assumption) | exact Or.inr rfl | (unfold CE; omega))) rfl (Nat.le_of_ble_eq_true rfl) (k' := 0) (n' := 0) (by decide) (by decide) (kX5_isAtGoal V e15) (fun v_4 h_4 hv_4 => ?_)
  obtain ⟨r_4, rfl, hv_4⟩ := hv_4
  obtain ⟨rfl, e_4⟩ := hv_4
  rw [e_4]
  first
    | refine Z_pt (M := mX0_winningSide) (tgt := 19) dX0_winningSide_7 (by decide) (fun c_7 => ?_) (fun c_7 => ?_)
    | refine Z_if_ne (M := mX0_winningSide) (tgt := 19) (by first | assumption | exact pI_rg _ | (unfold rg; omega)) dX0_winningSide_7 (by decide) (fun c_7 => ?_) (fun c_7 => ?_)
  · refine J_aload_n (M := mX0_winningSide) dX0_winningSide_19 rfl rfl ?_
    refine J_getf (M := mX0_winningSide) dX0_winningSide_20 fi_X0_27 (hk_13 (by first | exact rfl | assumption | exact Or.inl (by assumption) | exact Or.inr rfl | (unfold CE; omega))) rfl ?_
    refine J_getf (M := mX0_winningSide) dX0_winningSide_23 fi_X0_80 (hk_15 (by first | exact rfl | assumption | exact Or.inl (by assumption) | exact Or.inr rfl | (unfold CE; omega))) rfl ?_
    refine Z_wb (M := mX0_winningSide) (g := ρ 26) (wk26 V) rfl (fun wb_26_9 => ?_)
    refine J_aload_n (M := mX0_winningSide) dX0_winningSide_26 rfl rfl ?_
    refine J_getf (M := mX0_winningSide) dX0_winningSide_27 fi_X0_27 (hk_13 (by first | exact rfl | assumption | exact Or.inl (by assumption) | exact Or.inr rfl | (unfold CE; omega))) rfl ?_
    refine J_getf (M := mX0_winningSide) dX0_winningSide_30 fi_X0_81 (hk_15 (by first | exact rfl | assumption | exact Or.inl (by assumption) | exact Or.inr rfl | (unfold CE; omega))) rfl ?_
    refine Z_wb (M := mX0_winningSide) (g := ρ 25) (wk25 V) rfl (fun wb_25_13 => ?_)
    refine Z_ic_le (M := mX0_winningSide) (tgt := 40) (by first | assumption | exact pI_rg _ | (unfold rg; omega)) (by first | assumption | exact pI_rg _ | (unfold rg; omega)) dX0_winningSide_33 (by decide) (fun c_33 => ?_) (fun c_33 => ?_)
    · refine Z_iconst (M := mX0_winningSide) dX0_winningSide_40 ?_
      refine K_iret dX0_winningSide_41 rfl ?_
      exact And.intro (by
        rw [a6]
        first
          | rw [if_neg (by omega)]
          | (rw [if_pos (by omega)]; first | rw [if_pos (by omega)] | rw [if_neg (by omega)])) rfl
    · refine Z_iconst (M := mX0_winningSide) dX0_winningSide_36 ?_
      refine J_goto (M := mX0_winningSide) (tgt := 41) dX0_winningSide_37 (by decide) ?_
      refine K_iret dX0_winningSide_41 rfl ?_
      exact And.intro (by
        rw [a6]
        first
          | rw [if_neg (by omega)]
          | (rw [if_pos (by omega)]; first | rw [if_pos (by omega)] | rw [if_neg (by omega)])) rfl
  · refine J_aload_n (M := mX0_winningSide) dX0_winningSide_10 rfl rfl ?_
    refine J_getf (M := mX0_winningSide) dX0_winningSide_11 fi_X0_45 (hk_13 (by first | exact rfl | assumption | exact Or.inl (by assumption) | exact Or.inr rfl | (unfold CE; omega))) rfl ?_
    refine Z_wb (M := mX0_winningSide) (g := ρ 20) (wk20 V) rfl (fun wb_20_24 => ?_)
    refine Z_bipush (M := mX0_winningSide) dX0_winningSide_14 rfl ?_
    refine Z_ic_lt (M := mX0_winningSide) (tgt := 42) (by first | assumption | exact pI_rg _ | (unfold rg; omega)) (by first | assumption | exact pI_rg _ | (unfold rg; omega)) dX0_winningSide_16 (by decide) (fun c_16 => ?_) (fun c_16 => ?_)
    · refine Z_iconst (M := mX0_winningSide) dX0_winningSide_42 ?_
      refine K_iret dX0_winningSide_43 rfl ?_
      exact And.intro (by
        rw [a6]
        first
          | rw [if_neg (by omega)]
          | (rw [if_pos (by omega)]; first | rw [if_pos (by omega)] | rw [if_neg (by omega)])) rfl
    · refine J_aload_n (M := mX0_winningSide) dX0_winningSide_19 rfl rfl ?_
      refine J_getf (M := mX0_winningSide) dX0_winningSide_20 fi_X0_27 (hk_13 (by first | exact rfl | assumption | exact Or.inl (by assumption) | exact Or.inr rfl | (unfold CE; omega))) rfl ?_
      refine J_getf (M := mX0_winningSide) dX0_winningSide_23 fi_X0_80 (hk_15 (by first | exact rfl | assumption | exact Or.inl (by assumption) | exact Or.inr rfl | (unfold CE; omega))) rfl ?_
      refine Z_wb (M := mX0_winningSide) (g := ρ 26) (wk26 V) rfl (fun wb_26_33 => ?_)
      refine J_aload_n (M := mX0_winningSide) dX0_winningSide_26 rfl rfl ?_
      refine J_getf (M := mX0_winningSide) dX0_winningSide_27 fi_X0_27 (hk_13 (by first | exact rfl | assumption | exact Or.inl (by assumption) | exact Or.inr rfl | (unfold CE; omega))) rfl ?_
      refine J_getf (M := mX0_winningSide) dX0_winningSide_30 fi_X0_81 (hk_15 (by first | exact rfl | assumption | exact Or.inl (by assumption) | exact Or.inr rfl | (unfold CE; omega))) rfl ?_
      refine Z_wb (M := mX0_winningSide) (g := ρ 25) (wk25 V) rfl (fun wb_25_37 => ?_)
      refine Z_ic_le (M := mX0_winningSide) (tgt := 40) (by first | assumption | exact pI_rg _ | (unfold rg; omega)) (by first | assumption | exact pI_rg _ | (unfold rg; omega)) dX0_winningSide_33 (by decide) (fun c_33 => ?_) (fun c_33 => ?_)
      · refine Z_iconst (M := mX0_winningSide) dX0_winningSide_40 ?_
        refine K_iret dX0_winningSide_41 rfl ?_
        exact And.intro (by
          rw [a6]
          first
            | rw [if_neg (by omega)]
            | (rw [if_pos (by omega)]; first | rw [if_pos (by omega)] | rw [if_neg (by omega)])) rfl
      · refine Z_iconst (M := mX0_winningSide) dX0_winningSide_36 ?_
        refine J_goto (M := mX0_winningSide) (tgt := 41) dX0_winningSide_37 (by decide) ?_
        refine K_iret dX0_winningSide_41 rfl ?_
        exact And.intro (by
          rw [a6]
          first
            | rw [if_neg (by omega)]
            | (rw [if_pos (by omega)]; first | rw [if_pos (by omega)] | rw [if_neg (by omega)])) rfl

def wfn (ρ τ : TS) (b : Int) : Int := if (te τ b).2.2 = -1 then -1 else if (te τ b).2.2 = 0 then ρ 18 b else ρ 19 b
set_option maxRecDepth 100000 in
set_option maxHeartbeats 4000000 in
theorem kX0_winningFencer {X : GX} {h : LH} {ρ τ : TS} (V : WK ρ) (W : WF τ) {b : Int} (e : CE ρ 13 b) (h24 : ρ 24 b = gl3 b) (h20 : ρ 20 b = τ 10 b) (T : TL ρ τ b) : CK X mX0_winningFencer [vR (some (13, b))] h ρ (fun v r => v = some (vI (iI (wfn ρ τ b))) ∧ r = ρ) := by
  have b1 := te_rg W b
  have b18 := wk18 V b
  have b19 := wk19 V b
  refine CT_of (by decide +kernel) rfl (Nat.le_of_ble_eq_true rfl) ?_
  refine J_aload_n (M := mX0_winningFencer) dX0_winningFencer_0 rfl rfl ?_
  refine J_callV (M := mX0_winningFencer) (as := []) dX0_winningFencer_1 ca_X0_82 ⟨by decide, by decide⟩ (hk_13 (by first | exact rfl | assumption | exact Or.inl (by assumption) | exact Or.inr rfl | (unfold CE; omega))) rfl (Nat.le_of_ble_eq_true rfl) (k' := 0) (n' := 0) (by decide) (by decide) (kX0_winningSide V W e h24 h20 T) (fun v_1 h_1 hv_1 => ?_)
  obtain ⟨r_1, rfl, hv_1⟩ := hv_1
  obtain ⟨rfl, e_1⟩ := hv_1
  rw [e_1]
  refine J_istore_n (M := mX0_winningFencer) dX0_winningFencer_4 rfl (by decide) ?_
  refine J_iload_n (M := mX0_winningFencer) dX0_winningFencer_5 rfl rfl ?_
  refine Z_iconst (M := mX0_winningFencer) dX0_winningFencer_6 ?_
  refine Z_ic_ne (M := mX0_winningFencer) (tgt := 14) (by first | assumption | exact pI_rg _ | (unfold rg; omega)) (by first | assumption | exact pI_rg _ | (unfold rg; omega)) dX0_winningFencer_7 (by decide) (fun c_7 => ?_) (fun c_7 => ?_)
  · refine J_aload_n (M := mX0_winningFencer) dX0_winningFencer_14 rfl rfl ?_
    refine J_iload_n (M := mX0_winningFencer) dX0_winningFencer_15 rfl rfl ?_
    refine J_callV (M := mX0_winningFencer) (as := [_]) dX0_winningFencer_16 ca_X0_85 ⟨by decide, by decide⟩ (hk_13 (by first | exact rfl | assumption | exact Or.inl (by assumption) | exact Or.inr rfl | (unfold CE; omega))) rfl (Nat.le_of_ble_eq_true rfl) (k' := 0) (n' := 0) (by decide) (by decide) (kX0_fencerAt (by unfold rg; omega) e) (fun v_16 h_16 hv_16 => ?_)
    obtain ⟨r_16, rfl, hv_16⟩ := hv_16
    obtain ⟨rfl, e_16⟩ := hv_16
    rw [e_16]
    refine K_iret dX0_winningFencer_19 rfl ?_
    exact And.intro (by unfold wfn; first | rw [if_pos c_7] | rw [if_neg c_7]) rfl
  · refine Z_iconst (M := mX0_winningFencer) dX0_winningFencer_10 ?_
    refine J_goto (M := mX0_winningFencer) (tgt := 19) dX0_winningFencer_11 (by decide) ?_
    refine K_iret dX0_winningFencer_19 rfl ?_
    exact And.intro (by unfold wfn; first | rw [if_pos c_7] | rw [if_neg c_7]) rfl

set_option maxRecDepth 100000 in
set_option maxHeartbeats 4000000 in
theorem kX0_canBeFenced {X : GX} {h : LH} {ρ τ : TS} (V : WK ρ) (W : WF τ) {b : Int} (e : CE ρ 13 b) (h24 : ρ 24 b = gl3 b) (h20 : ρ 20 b = τ 10 b) (T : TL ρ τ b) : CK X mX0_canBeFenced [vR (some (13, b))] h ρ (fun v r => v = some (vI (iI (pI (¬ ρ 18 b = -1 ∧ ¬ ρ 19 b = -1 ∧ (te τ b).2.2 = -1)))) ∧ r = ρ) := by
  have b1 := te_rg W b
  have b18 := wk18 V b
  have b19 := wk19 V b
  refine CT_of (by decide +kernel) rfl (Nat.le_of_ble_eq_true rfl) ?_
  refine J_aload_n (M := mX0_canBeFenced) dX0_canBeFenced_0 rfl rfl ?_
  refine J_getf (M := mX0_canBeFenced) dX0_canBeFenced_1 fi_X0_35 (hk_13 (by first | exact rfl | assumption | exact Or.inl (by assumption) | exact Or.inr rfl | (unfold CE; omega))) rfl ?_
  refine Z_wb (M := mX0_canBeFenced) (g := ρ 18) (wk18 V) rfl (fun wb_18_2 => ?_)
  refine Z_iconst (M := mX0_canBeFenced) dX0_canBeFenced_4 ?_
  refine Z_ic_eq (M := mX0_canBeFenced) (tgt := 28) (by first | assumption | exact pI_rg _ | (unfold rg; omega)) (by first | assumption | exact pI_rg _ | (unfold rg; omega)) dX0_canBeFenced_5 (by decide) (fun c_5 => ?_) (fun c_5 => ?_)
  · refine Z_iconst (M := mX0_canBeFenced) dX0_canBeFenced_28 ?_
    refine K_zret dX0_canBeFenced_29 rfl (by first | exact pI_01 _ | exact Or.inl rfl | exact Or.inr rfl | omega) ?_
    exact And.intro (r0 (by omega)) rfl
  · refine J_aload_n (M := mX0_canBeFenced) dX0_canBeFenced_8 rfl rfl ?_
    refine J_getf (M := mX0_canBeFenced) dX0_canBeFenced_9 fi_X0_38 (hk_13 (by first | exact rfl | assumption | exact Or.inl (by assumption) | exact Or.inr rfl | (unfold CE; omega))) rfl ?_
    refine Z_wb (M := mX0_canBeFenced) (g := ρ 19) (wk19 V) rfl (fun wb_19_10 => ?_)
    refine Z_iconst (M := mX0_canBeFenced) dX0_canBeFenced_12 ?_
    refine Z_ic_eq (M := mX0_canBeFenced) (tgt := 28) (by first | assumption | exact pI_rg _ | (unfold rg; omega)) (by first | assumption | exact pI_rg _ | (unfold rg; omega)) dX0_canBeFenced_13 (by decide) (fun c_13 => ?_) (fun c_13 => ?_)
    · refine Z_iconst (M := mX0_canBeFenced) dX0_canBeFenced_28 ?_
      refine K_zret dX0_canBeFenced_29 rfl (by first | exact pI_01 _ | exact Or.inl rfl | exact Or.inr rfl | omega) ?_
      exact And.intro (r0 (by omega)) rfl
    · refine J_aload_n (M := mX0_canBeFenced) dX0_canBeFenced_16 rfl rfl ?_
      refine J_callV (M := mX0_canBeFenced) (as := []) dX0_canBeFenced_17 ca_X0_82 ⟨by decide, by decide⟩ (hk_13 (by first | exact rfl | assumption | exact Or.inl (by assumption) | exact Or.inr rfl | (unfold CE; omega))) rfl (Nat.le_of_ble_eq_true rfl) (k' := 0) (n' := 0) (by decide) (by decide) (kX0_winningSide V W e h24 h20 T) (fun v_17 h_17 hv_17 => ?_)
      obtain ⟨r_17, rfl, hv_17⟩ := hv_17
      obtain ⟨rfl, e_17⟩ := hv_17
      rw [e_17]
      refine Z_iconst (M := mX0_canBeFenced) dX0_canBeFenced_20 ?_
      refine Z_ic_ne (M := mX0_canBeFenced) (tgt := 28) (by first | assumption | exact pI_rg _ | (unfold rg; omega)) (by first | assumption | exact pI_rg _ | (unfold rg; omega)) dX0_canBeFenced_21 (by decide) (fun c_21 => ?_) (fun c_21 => ?_)
      · refine Z_iconst (M := mX0_canBeFenced) dX0_canBeFenced_28 ?_
        refine K_zret dX0_canBeFenced_29 rfl (by first | exact pI_01 _ | exact Or.inl rfl | exact Or.inr rfl | omega) ?_
        exact And.intro (r0 (by omega)) rfl
      · refine Z_iconst (M := mX0_canBeFenced) dX0_canBeFenced_24 ?_
        refine J_goto (M := mX0_canBeFenced) (tgt := 29) dX0_canBeFenced_25 (by decide) ?_
        refine K_zret dX0_canBeFenced_29 rfl (by first | exact pI_01 _ | exact Or.inl rfl | exact Or.inr rfl | omega) ?_
        exact And.intro (r1 (by omega)) rfl

theorem tly_PH {ρ τ : TS} {b x y p f : Int} (P : PH ρ τ p f) : PH (ts (ts ρ 25 b x) 26 b y) τ p f := P
theorem WK_tly {ρ τ : TS} (V : WK ρ) {b : Int} {g : Int} (hg : 1 ≤ g ∧ g ≤ 5) {k : Nat} : WK (ts (ts ρ 25 b (tlF g (tch τ b) k).1) 26 b (tlF g (tch τ b) k).2.1) := by
  obtain ⟨a1, a2, a3, a4, -⟩ := tl_ok (g := g) (T := tch τ b) hg.1 (tch_rg b) k
  exact WK_ts (WK_ts V (show (0 : Int) ≤ _ ∧ _ ≤ (12 : Int) by omega)) (show (0 : Int) ≤ _ ∧ _ ≤ (12 : Int) by omega)
theorem gl3_r {b : Int} : 1 ≤ gl3 b ∧ gl3 b ≤ 5 := by unfold gl3; split <;> omega
set_option maxRecDepth 100000 in
set_option maxHeartbeats 4000000 in
theorem rc_l {X : GX} {h : LH} {ρ τ : TS} {k n : Nat} (W : WF τ) (V : WK ρ) (R : WR ρ τ) {b : Int} (B : BR ρ τ b) : ∀ (m i : Nat), (i : Int) + m = τ 10 b → J X mX0_recount 16 [some (vR (some (13, b))), some (vI (iI i)), none] [] (hk h (ts (ts ρ 25 b (tlF (gl3 b) (tch τ b) i).1) 26 b (tlF (gl3 b) (tch τ b) i).2.1)) k n (QK h (fun v r => v = none ∧ r = ts (ts ρ 25 b (te τ b).1) 26 b (te τ b).2.1)) := by
  obtain ⟨g1, g2, g3, g4, g5, g6⟩ := id B
  have e15 : CE ρ 15 b := Or.inl g2
  have b10 := wf10 W b
  have b20 := wk20 V b
  intro m
  induction m with
  | zero =>
    intro i hi
    have ei : (τ 10 b).toNat = i := by omega
    refine J_iload_n (M := mX0_recount) dX0_recount_16 rfl rfl ?_
    refine J_aload_n (M := mX0_recount) dX0_recount_17 rfl rfl ?_
    refine J_getf (M := mX0_recount) dX0_recount_18 fi_X0_45 (hk_13 (by first | exact rfl | assumption | exact Or.inl (by assumption) | exact Or.inr rfl | (unfold CE; omega))) rfl ?_
    refine Z_wb (M := mX0_recount) (g := ρ 20) (wk20 V) rfl (fun wb_20_3 => ?_)
    refine Z_ic_ge (M := mX0_recount) (tgt := 52) (by first | assumption | exact pI_rg _ | (unfold rg; omega)) (by first | assumption | exact pI_rg _ | (unfold rg; omega)) dX0_recount_21 (by decide) (fun c_21 => ?_) (fun c_21 => ?_)
    · refine K_vret dX0_recount_52 rfl ?_
      exact And.intro rfl (by rw [← ei]; rfl)
    · omega
  | succ m ih =>
    intro i hi
    obtain ⟨p1, p2⟩ := g6 i (by omega) (by omega)
    have V' := WK_tly (τ := τ) V (b := b) (g := gl3 b) gl3_r (k := i)
    have p0 := p1.1
    have hs := tl_st (g := gl3 b) (T := tch τ b) gl3_r.1 (tch_rg b) i
    have e1 : (tad (gl3 b) (tch τ b i) ((tlF (gl3 b) (tch τ b) i).1, (tlF (gl3 b) (tch τ b) i).2.1)).1 = (tlF (gl3 b) (tch τ b) (i + 1)).1 := by rw [hs]
    have e2 : (tad (gl3 b) (tch τ b i) ((tlF (gl3 b) (tch τ b) i).1, (tlF (gl3 b) (tch τ b) i).2.1)).2 = (tlF (gl3 b) (tch τ b) (i + 1)).2.1 := by rw [hs]
    have ha : (if 0 ≤ (i : Int) ∧ (i : Int) < ρ 20 b then ρ 23 (12 * b + i) else -1) = ρ 23 (12 * b + i) := if_pos (by omega)
    have hx : 0 ≤ tch τ b i ∧ tch τ b i ≤ 3 := tch_rg _ _
    have hst : ts (ts (ts (ts ρ 25 b (tlF (gl3 b) (tch τ b) i).1) 26 b (tlF (gl3 b) (tch τ b) i).2.1) 25 b (tad (gl3 b) (tch τ b i) ((tlF (gl3 b) (tch τ b) i).1, (tlF (gl3 b) (tch τ b) i).2.1)).1) 26 b (tad (gl3 b) (tch τ b i) ((tlF (gl3 b) (tch τ b) i).1, (tlF (gl3 b) (tch τ b) i).2.1)).2 = (ts (ts ρ 25 b (tlF (gl3 b) (tch τ b) (i + 1)).1) 26 b (tlF (gl3 b) (tch τ b) (i + 1)).2.1) := by
      rw [e1, e2, ts_cm (k := 26) (j := 25) (by decide), ts_ts, ts_ts]
    have h25 : (ts (ts ρ 25 b (tlF (gl3 b) (tch τ b) i).1) 26 b (tlF (gl3 b) (tch τ b) i).2.1) 25 b = (tlF (gl3 b) (tch τ b) i).1 := by rw [tsN (by decide), ts_self]
    have h26 : (ts (ts ρ 25 b (tlF (gl3 b) (tch τ b) i).1) 26 b (tlF (gl3 b) (tch τ b) i).2.1) 26 b = (tlF (gl3 b) (tch τ b) i).2.1 := ts_self
    have h24 : (ts (ts ρ 25 b (tlF (gl3 b) (tch τ b) i).1) 26 b (tlF (gl3 b) (tch τ b) i).2.1) 24 b = gl3 b := g4
    refine J_iload_n (M := mX0_recount) dX0_recount_16 rfl rfl ?_
    refine J_aload_n (M := mX0_recount) dX0_recount_17 rfl rfl ?_
    refine J_getf (M := mX0_recount) dX0_recount_18 fi_X0_45 (hk_13 (by first | exact rfl | assumption | exact Or.inl (by assumption) | exact Or.inr rfl | (unfold CE; omega))) rfl ?_
    refine Z_wb (M := mX0_recount) (g := ρ 20) (wk20 V) rfl (fun wb_20_3 => ?_)
    refine Z_ic_ge (M := mX0_recount) (tgt := 52) (by first | assumption | exact pI_rg _ | (unfold rg; omega)) (by first | assumption | exact pI_rg _ | (unfold rg; omega)) dX0_recount_21 (by decide) (fun c_21 => ?_) (fun c_21 => ?_)
    · omega
    · refine J_aload_n (M := mX0_recount) dX0_recount_24 rfl rfl ?_
      refine J_iload_n (M := mX0_recount) dX0_recount_25 rfl rfl ?_
      refine J_callV (M := mX0_recount) (as := [_]) dX0_recount_26 ca_X0_61 ⟨by decide, by decide⟩ (hk_13 (by first | exact rfl | assumption | exact Or.inl (by assumption) | exact Or.inr rfl | (unfold CE; omega))) rfl (Nat.le_of_ble_eq_true rfl) (k' := k) (n' := n) (Nat.le_refl _) (Nat.le_refl _) (kX0_phraseAt V' g2 (by unfold rg; omega)) (fun v_26 h_26 hv_26 => ?_)
      obtain ⟨r_26, rfl, hv_26⟩ := hv_26
      obtain ⟨rfl, e_26⟩ := hv_26
      rw [e_26]
      refine Z_rfe (M := mX0_recount) ha ?_
      refine J_astore_n (M := mX0_recount) dX0_recount_29 rfl (by decide) ?_
      refine J_aload_n (M := mX0_recount) dX0_recount_30 rfl rfl ?_
      first | refine Z_some (M := mX0_recount) (by omega) ?_ | skip
      first | refine Z_uns (M := mX0_recount) (by omega) ?_ | skip
      refine K_ifnull (tgt := 46) dX0_recount_31 (by decide) (fun c_31 => ?_) (fun c_31 => ?_)
      · omega
      · refine J_aload_n (M := mX0_recount) dX0_recount_34 rfl rfl ?_
        refine J_getf (M := mX0_recount) dX0_recount_35 fi_X0_27 (hk_13 (by first | exact rfl | assumption | exact Or.inl (by assumption) | exact Or.inr rfl | (unfold CE; omega))) rfl ?_
        refine J_aload_n (M := mX0_recount) dX0_recount_38 rfl rfl ?_
        refine J_aload_n (M := mX0_recount) dX0_recount_39 rfl rfl ?_
        first | refine Z_some (M := mX0_recount) (by omega) ?_ | skip
        refine J_callV (M := mX0_recount) (as := [_]) dX0_recount_40 ca_X0_65 ⟨by decide, by decide⟩ (hk_13 (by first | exact rfl | assumption | exact Or.inl (by assumption) | exact Or.inr rfl | (unfold CE; omega))) rfl (Nat.le_of_ble_eq_true rfl) (k' := k) (n' := n) (Nat.le_refl _) (Nat.le_refl _) (kX0_touchesLeft (τ := τ) (j := i) V' R W g2 g3 (by omega) (tly_PH p1) p2) (fun v_40 h_40 hv_40 => ?_)
        obtain ⟨r_40, rfl, hv_40⟩ := hv_40
        obtain ⟨rfl, e_40⟩ := hv_40
        rw [e_40]
        refine J_callV (M := mX0_recount) (as := [_]) dX0_recount_43 ca_X0_69 ⟨by decide, by decide⟩ (hk_15 (by first | exact rfl | assumption | exact Or.inl (by assumption) | exact Or.inr rfl | (unfold CE; omega))) rfl (Nat.le_of_ble_eq_true rfl) (k' := k) (n' := n) (Nat.le_refl _) (Nat.le_refl _) (kX5_add V' e15 hx) (fun v_43 h_43 hv_43 => ?_)
        obtain ⟨r_43, rfl, hv_43⟩ := hv_43
        obtain ⟨rfl, e_43⟩ := hv_43
        rw [e_43]
        rw [h24, h25, h26, hst]
        refine Z_iinc (M := mX0_recount) dX0_recount_46 rfl (by decide) ?_
        refine J_goto (M := mX0_recount) (tgt := 16) dX0_recount_49 (by decide) ?_
        exact J_sub (ih (i + 1) (by omega)) (And.intro rfl (And.intro (vz (by push_cast; omega)) trivial))

set_option maxRecDepth 100000 in
set_option maxHeartbeats 4000000 in
theorem kX0_recount {X : GX} {h : LH} {ρ τ : TS} (W : WF τ) (V : WK ρ) (R : WR ρ τ) {b : Int} (B : BR ρ τ b) : CK X mX0_recount [vR (some (13, b))] h ρ (fun v r => v = none ∧ r = ts (ts ρ 25 b (te τ b).1) 26 b (te τ b).2.1) := by
  obtain ⟨g1, g2, g3, g4, g5, g6⟩ := id B
  have e15 : CE ρ 15 b := Or.inl g2
  have b10 := wf10 W b
  have b20 := wk20 V b
  refine CT_of (by decide +kernel) rfl (Nat.le_of_ble_eq_true rfl) ?_
  refine J_aload_n (M := mX0_recount) dX0_recount_0 rfl rfl ?_
  refine J_getf (M := mX0_recount) dX0_recount_1 fi_X0_27 (hk_13 (by first | exact rfl | assumption | exact Or.inl (by assumption) | exact Or.inr rfl | (unfold CE; omega))) rfl ?_
  refine J_aload_n (M := mX0_recount) dX0_recount_4 rfl rfl ?_
  refine J_getf (M := mX0_recount) dX0_recount_5 fi_X0_27 (hk_13 (by first | exact rfl | assumption | exact Or.inl (by assumption) | exact Or.inr rfl | (unfold CE; omega))) rfl ?_
  refine J_getf (M := mX0_recount) dX0_recount_8 fi_X0_51 (hk_15 (by first | exact rfl | assumption | exact Or.inl (by assumption) | exact Or.inr rfl | (unfold CE; omega))) rfl ?_
  refine Z_wb (M := mX0_recount) (g := ρ 24) (wk24 V) rfl (fun wb_24_5 => ?_)
  refine J_callV (M := mX0_recount) (as := [_]) dX0_recount_11 ca_X0_41 ⟨by decide, by decide⟩ (hk_15 (by first | exact rfl | assumption | exact Or.inl (by assumption) | exact Or.inr rfl | (unfold CE; omega))) rfl (Nat.le_of_ble_eq_true rfl) (k' := 0) (n' := 0) (by decide) (by decide) (kX5_restart e15) (fun v_11 h_11 hv_11 => ?_)
  obtain ⟨r_11, rfl, hv_11⟩ := hv_11
  obtain ⟨rfl, e_11⟩ := hv_11
  rw [e_11]
  rw [ts_id]
  refine Z_iconst (M := mX0_recount) dX0_recount_14 ?_
  refine J_istore_n (M := mX0_recount) dX0_recount_15 rfl (by decide) ?_
  exact rc_l W V R B (τ 10 b).toNat 0 (by omega)
