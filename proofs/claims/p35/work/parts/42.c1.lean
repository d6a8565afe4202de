/-! THE CLASS: its small methods -/
def bK : Nat → Int × Int := fun k => match k with
  | 0 => (0, 1)
  | 1 => (0, 12)
  | 2 => (0, 24)
  | 3 => (0, 66)
  | 4 => (-1, 11)
  | 5 => (-1, 23)
  | 6 => (-1, 65)
  | 7 => (-1, 81)
  | 8 => (0, 11)
  | 9 => (0, 2000)
  | 10 => (0, 2000)
  | 11 => (0, 2000)
  | 12 => (0, 2000)
  | 13 => (0, 23)
  | 14 => (0, 11)
  | 15 => (0, 2)
  | 16 => (0, 1)
  | 17 => (0, 1)
  | 18 => (-1, 11)
  | 19 => (-1, 11)
  | 20 => (0, 12)
  | 21 => (0, 2)
  | 22 => (0, 2)
  | 23 => (-1, 100000)
  | 24 => (0, 5)
  | 25 => (0, 12)
  | 26 => (0, 12)
  | 27 => (0, 1)
  | 28 => (0, 23)
  | 29 => (0, 23)
  | 30 => (0, 2)
  | 31 => (-1, 1)
  | 32 => (0, 2147483647)
  | 33 => (0, 8)
  | 34 => (0, 1)
  | 35 => (-1, 1)
  | 36 => (0, 3)
  | 37 => (-1, 115)
  | 38 => (-1, 81)
  | 39 => (-1, 23)
  | 40 => (-1, 23)
  | 41 => (-1, 100000)
  | 42 => (0, 1)
  | 43 => (0, 16)
  | 45 => (0, 64)
  | 46 => (-1, 11)
  | _ => (0, 0)
def WK (ρ : TS) : Prop := ∀ (k : Nat) (i : Int), k < 47 → k ≠ 44 → (bK k).1 ≤ ρ k i ∧ ρ k i ≤ (bK k).2
theorem wk0 {ρ : TS} (W : WK ρ) (i : Int) : 0 ≤ ρ 0 i ∧ ρ 0 i ≤ 1 := W 0 i (by decide) (by decide)
theorem wk1 {ρ : TS} (W : WK ρ) (i : Int) : 0 ≤ ρ 1 i ∧ ρ 1 i ≤ 12 := W 1 i (by decide) (by decide)
theorem wk2 {ρ : TS} (W : WK ρ) (i : Int) : 0 ≤ ρ 2 i ∧ ρ 2 i ≤ 24 := W 2 i (by decide) (by decide)
theorem wk3 {ρ : TS} (W : WK ρ) (i : Int) : 0 ≤ ρ 3 i ∧ ρ 3 i ≤ 66 := W 3 i (by decide) (by decide)
theorem wk4 {ρ : TS} (W : WK ρ) (i : Int) : -1 ≤ ρ 4 i ∧ ρ 4 i ≤ 11 := W 4 i (by decide) (by decide)
theorem wk5 {ρ : TS} (W : WK ρ) (i : Int) : -1 ≤ ρ 5 i ∧ ρ 5 i ≤ 23 := W 5 i (by decide) (by decide)
theorem wk6 {ρ : TS} (W : WK ρ) (i : Int) : -1 ≤ ρ 6 i ∧ ρ 6 i ≤ 65 := W 6 i (by decide) (by decide)
theorem wk7 {ρ : TS} (W : WK ρ) (i : Int) : -1 ≤ ρ 7 i ∧ ρ 7 i ≤ 81 := W 7 i (by decide) (by decide)
theorem wk8 {ρ : TS} (W : WK ρ) (i : Int) : 0 ≤ ρ 8 i ∧ ρ 8 i ≤ 11 := W 8 i (by decide) (by decide)
theorem wk9 {ρ : TS} (W : WK ρ) (i : Int) : 0 ≤ ρ 9 i ∧ ρ 9 i ≤ 2000 := W 9 i (by decide) (by decide)
theorem wk10 {ρ : TS} (W : WK ρ) (i : Int) : 0 ≤ ρ 10 i ∧ ρ 10 i ≤ 2000 := W 10 i (by decide) (by decide)
theorem wk11 {ρ : TS} (W : WK ρ) (i : Int) : 0 ≤ ρ 11 i ∧ ρ 11 i ≤ 2000 := W 11 i (by decide) (by decide)
theorem wk12 {ρ : TS} (W : WK ρ) (i : Int) : 0 ≤ ρ 12 i ∧ ρ 12 i ≤ 2000 := W 12 i (by decide) (by decide)
theorem wk13 {ρ : TS} (W : WK ρ) (i : Int) : 0 ≤ ρ 13 i ∧ ρ 13 i ≤ 23 := W 13 i (by decide) (by decide)
theorem wk14 {ρ : TS} (W : WK ρ) (i : Int) : 0 ≤ ρ 14 i ∧ ρ 14 i ≤ 11 := W 14 i (by decide) (by decide)
theorem wk15 {ρ : TS} (W : WK ρ) (i : Int) : 0 ≤ ρ 15 i ∧ ρ 15 i ≤ 2 := W 15 i (by decide) (by decide)
theorem wk16 {ρ : TS} (W : WK ρ) (i : Int) : 0 ≤ ρ 16 i ∧ ρ 16 i ≤ 1 := W 16 i (by decide) (by decide)
theorem wk17 {ρ : TS} (W : WK ρ) (i : Int) : 0 ≤ ρ 17 i ∧ ρ 17 i ≤ 1 := W 17 i (by decide) (by decide)
theorem wk18 {ρ : TS} (W : WK ρ) (i : Int) : -1 ≤ ρ 18 i ∧ ρ 18 i ≤ 11 := W 18 i (by decide) (by decide)
theorem wk19 {ρ : TS} (W : WK ρ) (i : Int) : -1 ≤ ρ 19 i ∧ ρ 19 i ≤ 11 := W 19 i (by decide) (by decide)
theorem wk20 {ρ : TS} (W : WK ρ) (i : Int) : 0 ≤ ρ 20 i ∧ ρ 20 i ≤ 12 := W 20 i (by decide) (by decide)
theorem wk21 {ρ : TS} (W : WK ρ) (i : Int) : 0 ≤ ρ 21 i ∧ ρ 21 i ≤ 2 := W 21 i (by decide) (by decide)
theorem wk22 {ρ : TS} (W : WK ρ) (i : Int) : 0 ≤ ρ 22 i ∧ ρ 22 i ≤ 2 := W 22 i (by decide) (by decide)
theorem wk23 {ρ : TS} (W : WK ρ) (i : Int) : -1 ≤ ρ 23 i ∧ ρ 23 i ≤ 100000 := W 23 i (by decide) (by decide)
theorem wk24 {ρ : TS} (W : WK ρ) (i : Int) : 0 ≤ ρ 24 i ∧ ρ 24 i ≤ 5 := W 24 i (by decide) (by decide)
theorem wk25 {ρ : TS} (W : WK ρ) (i : Int) : 0 ≤ ρ 25 i ∧ ρ 25 i ≤ 12 := W 25 i (by decide) (by decide)
theorem wk26 {ρ : TS} (W : WK ρ) (i : Int) : 0 ≤ ρ 26 i ∧ ρ 26 i ≤ 12 := W 26 i (by decide) (by decide)
theorem wk27 {ρ : TS} (W : WK ρ) (i : Int) : 0 ≤ ρ 27 i ∧ ρ 27 i ≤ 1 := W 27 i (by decide) (by decide)
theorem wk28 {ρ : TS} (W : WK ρ) (i : Int) : 0 ≤ ρ 28 i ∧ ρ 28 i ≤ 23 := W 28 i (by decide) (by decide)
theorem wk29 {ρ : TS} (W : WK ρ) (i : Int) : 0 ≤ ρ 29 i ∧ ρ 29 i ≤ 23 := W 29 i (by decide) (by decide)
theorem wk30 {ρ : TS} (W : WK ρ) (i : Int) : 0 ≤ ρ 30 i ∧ ρ 30 i ≤ 2 := W 30 i (by decide) (by decide)
theorem wk31 {ρ : TS} (W : WK ρ) (i : Int) : -1 ≤ ρ 31 i ∧ ρ 31 i ≤ 1 := W 31 i (by decide) (by decide)
theorem wk32 {ρ : TS} (W : WK ρ) (i : Int) : 0 ≤ ρ 32 i ∧ ρ 32 i ≤ 2147483647 := W 32 i (by decide) (by decide)
theorem wk33 {ρ : TS} (W : WK ρ) (i : Int) : 0 ≤ ρ 33 i ∧ ρ 33 i ≤ 8 := W 33 i (by decide) (by decide)
theorem wk34 {ρ : TS} (W : WK ρ) (i : Int) : 0 ≤ ρ 34 i ∧ ρ 34 i ≤ 1 := W 34 i (by decide) (by decide)
theorem wk35 {ρ : TS} (W : WK ρ) (i : Int) : -1 ≤ ρ 35 i ∧ ρ 35 i ≤ 1 := W 35 i (by decide) (by decide)
theorem wk36 {ρ : TS} (W : WK ρ) (i : Int) : 0 ≤ ρ 36 i ∧ ρ 36 i ≤ 3 := W 36 i (by decide) (by decide)
theorem wk37 {ρ : TS} (W : WK ρ) (i : Int) : -1 ≤ ρ 37 i ∧ ρ 37 i ≤ 115 := W 37 i (by decide) (by decide)
theorem wk38 {ρ : TS} (W : WK ρ) (i : Int) : -1 ≤ ρ 38 i ∧ ρ 38 i ≤ 81 := W 38 i (by decide) (by decide)
theorem wk39 {ρ : TS} (W : WK ρ) (i : Int) : -1 ≤ ρ 39 i ∧ ρ 39 i ≤ 23 := W 39 i (by decide) (by decide)
theorem wk40 {ρ : TS} (W : WK ρ) (i : Int) : -1 ≤ ρ 40 i ∧ ρ 40 i ≤ 23 := W 40 i (by decide) (by decide)
theorem wk41 {ρ : TS} (W : WK ρ) (i : Int) : -1 ≤ ρ 41 i ∧ ρ 41 i ≤ 100000 := W 41 i (by decide) (by decide)
theorem wk42 {ρ : TS} (W : WK ρ) (i : Int) : 0 ≤ ρ 42 i ∧ ρ 42 i ≤ 1 := W 42 i (by decide) (by decide)
theorem wk43 {ρ : TS} (W : WK ρ) (i : Int) : 0 ≤ ρ 43 i ∧ ρ 43 i ≤ 16 := W 43 i (by decide) (by decide)
theorem wk45 {ρ : TS} (W : WK ρ) (i : Int) : 0 ≤ ρ 45 i ∧ ρ 45 i ≤ 64 := W 45 i (by decide) (by decide)
theorem wk46 {ρ : TS} (W : WK ρ) (i : Int) : -1 ≤ ρ 46 i ∧ ρ 46 i ≤ 11 := W 46 i (by decide) (by decide)
theorem WK_ts {ρ : TS} {k : Nat} {i x : Int} (W : WK ρ) (h : (bK k).1 ≤ x ∧ x ≤ (bK k).2) : WK (ts ρ k i x) := by
  intro k' j h1 h2
  by_cases e : k' = k
  · subst e
    rw [ts_s]
    unfold upZ
    split
    · exact h
    · exact W _ j h1 h2
  · rw [ts_n e]; exact W k' j h1 h2
theorem WK_44 {ρ : TS} {i x : Int} (W : WK ρ) : WK (ts ρ 44 i x) := by
  intro k' j h1 h2
  rw [ts_n h2]; exact W k' j h1 h2
set_option maxRecDepth 100000 in
set_option maxHeartbeats 4000000 in
theorem kX5_isAtGoal {X : GX} {h : LH} {ρ : TS} (W : WK ρ) {t : Int} (e : CE ρ 15 t) : CK X mX5_isAtGoal [vR (some (15, t))] h ρ (fun v r => v = some (vI (iI (pI (ρ 24 t ≤ ρ 25 t ∨ ρ 24 t ≤ ρ 26 t)))) ∧ r = ρ) := by
  have b1 := wk24 W t
  have b2 := wk25 W t
  have b3 := wk26 W t
  refine CT_of (by decide +kernel) rfl (Nat.le_of_ble_eq_true rfl) ?_
  refine J_aload_n (M := mX5_isAtGoal) dX5_isAtGoal_0 rfl rfl ?_
  refine J_getf (M := mX5_isAtGoal) dX5_isAtGoal_1 fi_X5_15 (hk_15 (by first | exact rfl | assumption | exact Or.inl (by assumption) | exact Or.inr rfl | (unfold CE; omega))) rfl ?_
  refine Z_eq (M := mX5_isAtGoal) (b := ρ 25 _) rfl ?_
  refine J_aload_n (M := mX5_isAtGoal) dX5_isAtGoal_4 rfl rfl ?_
  refine J_getf (M := mX5_isAtGoal) dX5_isAtGoal_5 fi_X5_9 (hk_15 (by first | exact rfl | assumption | exact Or.inl (by assumption) | exact Or.inr rfl | (unfold CE; omega))) rfl ?_
  refine Z_eq (M := mX5_isAtGoal) (b := ρ 24 _) rfl ?_
  refine Z_ic_ge (M := mX5_isAtGoal) (tgt := 22) (by first | assumption | exact pI_rg _ | (unfold rg; omega)) (by first | assumption | exact pI_rg _ | (unfold rg; omega)) dX5_isAtGoal_8 (by decide) (fun c_8 => ?_) (fun c_8 => ?_)
  · refine Z_iconst (M := mX5_isAtGoal) dX5_isAtGoal_22 ?_
    refine J_goto (M := mX5_isAtGoal) (tgt := 27) dX5_isAtGoal_23 (by decide) ?_
    refine K_zret dX5_isAtGoal_27 rfl (by first | exact pI_01 _ | exact Or.inl rfl | exact Or.inr rfl | omega) ?_
    exact And.intro (r1 (by omega)) rfl
  · refine J_aload_n (M := mX5_isAtGoal) dX5_isAtGoal_11 rfl rfl ?_
    refine J_getf (M := mX5_isAtGoal) dX5_isAtGoal_12 fi_X5_18 (hk_15 (by first | exact rfl | assumption | exact Or.inl (by assumption) | exact Or.inr rfl | (unfold CE; omega))) rfl ?_
    refine Z_eq (M := mX5_isAtGoal) (b := ρ 26 _) rfl ?_
    refine J_aload_n (M := mX5_isAtGoal) dX5_isAtGoal_15 rfl rfl ?_
    refine J_getf (M := mX5_isAtGoal) dX5_isAtGoal_16 fi_X5_9 (hk_15 (by first | exact rfl | assumption | exact Or.inl (by assumption) | exact Or.inr rfl | (unfold CE; omega))) rfl ?_
    refine Z_eq (M := mX5_isAtGoal) (b := ρ 24 _) rfl ?_
    refine Z_ic_lt (M := mX5_isAtGoal) (tgt := 26) (by first | assumption | exact pI_rg _ | (unfold rg; omega)) (by first | assumption | exact pI_rg _ | (unfold rg; omega)) dX5_isAtGoal_19 (by decide) (fun c_19 => ?_) (fun c_19 => ?_)
    · refine Z_iconst (M := mX5_isAtGoal) dX5_isAtGoal_26 ?_
      refine K_zret dX5_isAtGoal_27 rfl (by first | exact pI_01 _ | exact Or.inl rfl | exact Or.inr rfl | omega) ?_
      exact And.intro (r0 (by omega)) rfl
    · refine Z_iconst (M := mX5_isAtGoal) dX5_isAtGoal_22 ?_
      refine J_goto (M := mX5_isAtGoal) (tgt := 27) dX5_isAtGoal_23 (by decide) ?_
      refine K_zret dX5_isAtGoal_27 rfl (by first | exact pI_01 _ | exact Or.inl rfl | exact Or.inr rfl | omega) ?_
      exact And.intro (r1 (by omega)) rfl

set_option maxRecDepth 100000 in
set_option maxHeartbeats 4000000 in
theorem kX5_of {X : GX} {h : LH} {ρ : TS} {t s : Int} (hs : rg s) (e : CE ρ 15 t) : CK X mX5_of [vR (some (15, t)), vI (iI s)] h ρ (fun v r => v = some (vI (iI (if s = 0 then ρ 25 t else ρ 26 t))) ∧ r = ρ) := by
  refine CT_of (by decide +kernel) rfl (Nat.le_of_ble_eq_true rfl) ?_
  refine J_iload_n (M := mX5_of) dX5_of_0 rfl rfl ?_
  first
    | refine Z_pt (M := mX5_of) (tgt := 11) dX5_of_1 (by decide) (fun c_1 => ?_) (fun c_1 => ?_)
    | refine Z_if_ne (M := mX5_of) (tgt := 11) (by first | assumption | exact pI_rg _ | (unfold rg; omega)) dX5_of_1 (by decide) (fun c_1 => ?_) (fun c_1 => ?_)
  · refine J_aload_n (M := mX5_of) dX5_of_11 rfl rfl ?_
    refine J_getf (M := mX5_of) dX5_of_12 fi_X5_18 (hk_15 (by first | exact rfl | assumption | exact Or.inl (by assumption) | exact Or.inr rfl | (unfold CE; omega))) rfl ?_
    refine Z_eq (M := mX5_of) (b := ρ 26 _) rfl ?_
    refine K_iret dX5_of_15 rfl ?_
    first
      | exact And.intro (congrArg (fun z => some (vI (iI z))) (if_pos (by omega)).symm) rfl
      | exact And.intro (congrArg (fun z => some (vI (iI z))) (if_neg (by omega)).symm) rfl
  · refine J_aload_n (M := mX5_of) dX5_of_4 rfl rfl ?_
    refine J_getf (M := mX5_of) dX5_of_5 fi_X5_15 (hk_15 (by first | exact rfl | assumption | exact Or.inl (by assumption) | exact Or.inr rfl | (unfold CE; omega))) rfl ?_
    refine Z_eq (M := mX5_of) (b := ρ 25 _) rfl ?_
    refine J_goto (M := mX5_of) (tgt := 15) dX5_of_8 (by decide) ?_
    refine K_iret dX5_of_15 rfl ?_
    first
      | exact And.intro (congrArg (fun z => some (vI (iI z))) (if_pos (by omega)).symm) rfl
      | exact And.intro (congrArg (fun z => some (vI (iI z))) (if_neg (by omega)).symm) rfl

set_option maxRecDepth 100000 in
set_option maxHeartbeats 4000000 in
theorem kX5_restart {X : GX} {h : LH} {ρ : TS} {t g : Int} (e : CE ρ 15 t) : CK X mX5_restart [vR (some (15, t)), vI (iI g)] h ρ (fun v r => v = none ∧ r = ts (ts (ts ρ 24 t g) 25 t 0) 26 t 0) := by
  refine CT_of (by decide +kernel) rfl (Nat.le_of_ble_eq_true rfl) ?_
  refine J_aload_n (M := mX5_restart) dX5_restart_0 rfl rfl ?_
  refine J_iload_n (M := mX5_restart) dX5_restart_1 rfl rfl ?_
  refine J_putI (M := mX5_restart) dX5_restart_2 fi_X5_9 (hk_15 (by first | exact rfl | assumption | exact Or.inl (by assumption) | exact Or.inr rfl | (unfold CE; omega))) (Nat.le_of_ble_eq_true rfl) ?_
  refine Z_h (M := mX5_restart) (hkp_24 (by first | exact rfl | assumption | exact Or.inl (by assumption) | exact Or.inr rfl | (unfold CE; omega))) ?_
  refine J_aload_n (M := mX5_restart) dX5_restart_5 rfl rfl ?_
  refine Z_iconst (M := mX5_restart) dX5_restart_6 ?_
  refine J_putI (M := mX5_restart) dX5_restart_7 fi_X5_15 (hk_15 (by first | exact rfl | assumption | exact Or.inl (by assumption) | exact Or.inr rfl | (unfold CE; omega))) (Nat.le_of_ble_eq_true rfl) ?_
  refine Z_h (M := mX5_restart) (hkp_25 (by first | exact rfl | assumption | exact Or.inl (by assumption) | exact Or.inr rfl | (unfold CE; omega))) ?_
  refine J_aload_n (M := mX5_restart) dX5_restart_10 rfl rfl ?_
  refine Z_iconst (M := mX5_restart) dX5_restart_11 ?_
  refine J_putI (M := mX5_restart) dX5_restart_12 fi_X5_18 (hk_15 (by first | exact rfl | assumption | exact Or.inl (by assumption) | exact Or.inr rfl | (unfold CE; omega))) (Nat.le_of_ble_eq_true rfl) ?_
  refine Z_h (M := mX5_restart) (hkp_26 (by first | exact rfl | assumption | exact Or.inl (by assumption) | exact Or.inr rfl | (unfold CE; omega))) ?_
  refine K_vret dX5_restart_15 rfl ?_
  exact And.intro rfl rfl

set_option maxRecDepth 100000 in
set_option maxHeartbeats 4000000 in
theorem kX6_isFalse {X : GX} {h : LH} {ρ : TS} (W : WK ρ) {w q : Int} (hq : q = 0 ∨ q = 1) (e : CE ρ 12 w) : CK X mX6_isFalse [vR (some (12, w)), vI (iI q)] h ρ (fun v r => v = some (vI (iI (if q = 0 then pI (ρ 15 w = 2) else ρ 16 w))) ∧ r = ρ) := by
  have b1 := wk15 W w
  have b2 := wk16 W w
  refine CT_of (by decide +kernel) rfl (Nat.le_of_ble_eq_true rfl) ?_
  refine J_iload_n (M := mX6_isFalse) dX6_isFalse_0 rfl rfl ?_
  first
    | refine Z_pf (M := mX6_isFalse) (tgt := 11) dX6_isFalse_1 (by decide) (fun c_1 => ?_) (fun c_1 => ?_)
    | refine Z_if_eq (M := mX6_isFalse) (tgt := 11) (by first | assumption | exact pI_rg _ | (unfold rg; omega)) dX6_isFalse_1 (by decide) (fun c_1 => ?_) (fun c_1 => ?_)
  · refine Z_bj (M := mX6_isFalse) (pcB := 24) (ρ 15 w = 2) (fun hj_24 => ?_) ?_
    · refine J_aload_n (M := mX6_isFalse) dX6_isFalse_11 rfl rfl ?_
      refine J_getf (M := mX6_isFalse) dX6_isFalse_12 fi_X6_9 (hk_12 (by first | exact rfl | assumption | exact Or.inl (by assumption) | exact Or.inr rfl | (unfold CE; omega))) rfl ?_
      refine Z_eq (M := mX6_isFalse) (b := ρ 15 _) rfl ?_
      refine Z_iconst (M := mX6_isFalse) dX6_isFalse_15 ?_
      refine Z_ic_ne (M := mX6_isFalse) (tgt := 23) (by first | assumption | exact pI_rg _ | (unfold rg; omega)) (by first | assumption | exact pI_rg _ | (unfold rg; omega)) dX6_isFalse_16 (by decide) (fun c_16 => ?_) (fun c_16 => ?_)
      · refine Z_iconst (M := mX6_isFalse) dX6_isFalse_23 ?_
        exact hj_24 _ (pI_f (by omega)).symm
      · refine Z_iconst (M := mX6_isFalse) dX6_isFalse_19 ?_
        refine J_goto (M := mX6_isFalse) (tgt := 24) dX6_isFalse_20 (by decide) ?_
        exact hj_24 _ (pI_t (by omega)).symm
    refine K_zret dX6_isFalse_24 rfl (by first | exact pI_01 _ | exact Or.inl rfl | exact Or.inr rfl | omega) ?_
    first
      | exact And.intro (congrArg (fun z => some (vI (iI z))) (if_pos (by omega)).symm) rfl
      | exact And.intro (congrArg (fun z => some (vI (iI z))) (if_neg (by omega)).symm) rfl
  · refine J_aload_n (M := mX6_isFalse) dX6_isFalse_4 rfl rfl ?_
    refine J_getf (M := mX6_isFalse) dX6_isFalse_5 fi_X6_21 (hk_12 (by first | exact rfl | assumption | exact Or.inl (by assumption) | exact Or.inr rfl | (unfold CE; omega))) rfl ?_
    refine Z_eq (M := mX6_isFalse) (b := ρ 16 _) rfl ?_
    refine J_goto (M := mX6_isFalse) (tgt := 24) dX6_isFalse_8 (by decide) ?_
    refine K_zret dX6_isFalse_24 rfl (by first | exact pI_01 _ | exact Or.inl rfl | exact Or.inr rfl | omega) ?_
    first
      | exact And.intro (congrArg (fun z => some (vI (iI z))) (if_pos (by omega)).symm) rfl
      | exact And.intro (congrArg (fun z => some (vI (iI z))) (if_neg (by omega)).symm) rfl

set_option maxRecDepth 100000 in
set_option maxHeartbeats 4000000 in
theorem kX6_isMarkedFor {X : GX} {h : LH} {ρ : TS} (W : WK ρ) {w f : Int} (hf : rg f) (e : CE ρ 12 w) : CK X mX6_isMarkedFor [vR (some (12, w)), vI (iI f)] h ρ (fun v r => v = some (vI (iI (pI (ρ 15 w = 1 ∧ ρ 14 w = f)))) ∧ r = ρ) := by
  have b1 := wk15 W w
  have b2 := wk14 W w
  refine CT_of (by decide +kernel) rfl (Nat.le_of_ble_eq_true rfl) ?_
  refine J_aload_n (M := mX6_isMarkedFor) dX6_isMarkedFor_0 rfl rfl ?_
  refine J_getf (M := mX6_isMarkedFor) dX6_isMarkedFor_1 fi_X6_9 (hk_12 (by first | exact rfl | assumption | exact Or.inl (by assumption) | exact Or.inr rfl | (unfold CE; omega))) rfl ?_
  refine Z_eq (M := mX6_isMarkedFor) (b := ρ 15 _) rfl ?_
  refine Z_iconst (M := mX6_isMarkedFor) dX6_isMarkedFor_4 ?_
  refine Z_ic_ne (M := mX6_isMarkedFor) (tgt := 20) (by first | assumption | exact pI_rg _ | (unfold rg; omega)) (by first | assumption | exact pI_rg _ | (unfold rg; omega)) dX6_isMarkedFor_5 (by decide) (fun c_5 => ?_) (fun c_5 => ?_)
  · refine Z_iconst (M := mX6_isMarkedFor) dX6_isMarkedFor_20 ?_
    refine K_zret dX6_isMarkedFor_21 rfl (by first | exact pI_01 _ | exact Or.inl rfl | exact Or.inr rfl | omega) ?_
    exact And.intro (r0 (by omega)) rfl
  · refine J_aload_n (M := mX6_isMarkedFor) dX6_isMarkedFor_8 rfl rfl ?_
    refine J_getf (M := mX6_isMarkedFor) dX6_isMarkedFor_9 fi_X6_18 (hk_12 (by first | exact rfl | assumption | exact Or.inl (by assumption) | exact Or.inr rfl | (unfold CE; omega))) rfl ?_
    refine Z_eq (M := mX6_isMarkedFor) (b := ρ 14 _) rfl ?_
    refine J_iload_n (M := mX6_isMarkedFor) dX6_isMarkedFor_12 rfl rfl ?_
    refine Z_ic_ne (M := mX6_isMarkedFor) (tgt := 20) (by first | assumption | exact pI_rg _ | (unfold rg; omega)) (by first | assumption | exact pI_rg _ | (unfold rg; omega)) dX6_isMarkedFor_13 (by decide) (fun c_13 => ?_) (fun c_13 => ?_)
    · refine Z_iconst (M := mX6_isMarkedFor) dX6_isMarkedFor_20 ?_
      refine K_zret dX6_isMarkedFor_21 rfl (by first | exact pI_01 _ | exact Or.inl rfl | exact Or.inr rfl | omega) ?_
      exact And.intro (r0 (by omega)) rfl
    · refine Z_iconst (M := mX6_isMarkedFor) dX6_isMarkedFor_16 ?_
      refine J_goto (M := mX6_isMarkedFor) (tgt := 21) dX6_isMarkedFor_17 (by decide) ?_
      refine K_zret dX6_isMarkedFor_21 rfl (by first | exact pI_01 _ | exact Or.inl rfl | exact Or.inr rfl | omega) ?_
      exact And.intro (r1 (by omega)) rfl

set_option maxRecDepth 100000 in
set_option maxHeartbeats 4000000 in
theorem kX0_fencerAt {X : GX} {h : LH} {ρ : TS} {b s : Int} (hs : rg s) (e : CE ρ 13 b) : CK X mX0_fencerAt [vR (some (13, b)), vI (iI s)] h ρ (fun v r => v = some (vI (iI (if s = 0 then ρ 18 b else ρ 19 b))) ∧ r = ρ) := by
  refine CT_of (by decide +kernel) rfl (Nat.le_of_ble_eq_true rfl) ?_
  refine J_iload_n (M := mX0_fencerAt) dX0_fencerAt_0 rfl rfl ?_
  first
    | refine Z_pt (M := mX0_fencerAt) (tgt := 11) dX0_fencerAt_1 (by decide) (fun c_1 => ?_) (fun c_1 => ?_)
    | refine Z_if_ne (M := mX0_fencerAt) (tgt := 11) (by first | assumption | exact pI_rg _ | (unfold rg; omega)) dX0_fencerAt_1 (by decide) (fun c_1 => ?_) (fun c_1 => ?_)
  · refine J_aload_n (M := mX0_fencerAt) dX0_fencerAt_11 rfl rfl ?_
    refine J_getf (M := mX0_fencerAt) dX0_fencerAt_12 fi_X0_38 (hk_13 (by first | exact rfl | assumption | exact Or.inl (by assumption) | exact Or.inr rfl | (unfold CE; omega))) rfl ?_
    refine Z_eq (M := mX0_fencerAt) (b := ρ 19 _) rfl ?_
    refine K_iret dX0_fencerAt_15 rfl ?_
    first
      | exact And.intro (congrArg (fun z => some (vI (iI z))) (if_pos (by omega)).symm) rfl
      | exact And.intro (congrArg (fun z => some (vI (iI z))) (if_neg (by omega)).symm) rfl
  · refine J_aload_n (M := mX0_fencerAt) dX0_fencerAt_4 rfl rfl ?_
    refine J_getf (M := mX0_fencerAt) dX0_fencerAt_5 fi_X0_35 (hk_13 (by first | exact rfl | assumption | exact Or.inl (by assumption) | exact Or.inr rfl | (unfold CE; omega))) rfl ?_
    refine Z_eq (M := mX0_fencerAt) (b := ρ 18 _) rfl ?_
    refine J_goto (M := mX0_fencerAt) (tgt := 15) dX0_fencerAt_8 (by decide) ?_
    refine K_iret dX0_fencerAt_15 rfl ?_
    first
      | exact And.intro (congrArg (fun z => some (vI (iI z))) (if_pos (by omega)).symm) rfl
      | exact And.intro (congrArg (fun z => some (vI (iI z))) (if_neg (by omega)).symm) rfl

set_option maxRecDepth 100000 in
set_option maxHeartbeats 4000000 in
theorem kX0_appealsLeft {X : GX} {h : LH} {ρ : TS} {b s : Int} (hs : rg s) (e : CE ρ 13 b) : CK X mX0_appealsLeft [vR (some (13, b)), vI (iI s)] h ρ (fun v r => v = some (vI (iI (if s = 0 then ρ 21 b else ρ 22 b))) ∧ r = ρ) := by
  refine CT_of (by decide +kernel) rfl (Nat.le_of_ble_eq_true rfl) ?_
  refine J_iload_n (M := mX0_appealsLeft) dX0_appealsLeft_0 rfl rfl ?_
  first
    | refine Z_pt (M := mX0_appealsLeft) (tgt := 11) dX0_appealsLeft_1 (by decide) (fun c_1 => ?_) (fun c_1 => ?_)
    | refine Z_if_ne (M := mX0_appealsLeft) (tgt := 11) (by first | assumption | exact pI_rg _ | (unfold rg; omega)) dX0_appealsLeft_1 (by decide) (fun c_1 => ?_) (fun c_1 => ?_)
  · refine J_aload_n (M := mX0_appealsLeft) dX0_appealsLeft_11 rfl rfl ?_
    refine J_getf (M := mX0_appealsLeft) dX0_appealsLeft_12 fi_X0_21 (hk_13 (by first | exact rfl | assumption | exact Or.inl (by assumption) | exact Or.inr rfl | (unfold CE; omega))) rfl ?_
    refine Z_eq (M := mX0_appealsLeft) (b := ρ 22 _) rfl ?_
    refine K_iret dX0_appealsLeft_15 rfl ?_
    first
      | exact And.intro (congrArg (fun z => some (vI (iI z))) (if_pos (by omega)).symm) rfl
      | exact And.intro (congrArg (fun z => some (vI (iI z))) (if_neg (by omega)).symm) rfl
  · refine J_aload_n (M := mX0_appealsLeft) dX0_appealsLeft_4 rfl rfl ?_
    refine J_getf (M := mX0_appealsLeft) dX0_appealsLeft_5 fi_X0_17 (hk_13 (by first | exact rfl | assumption | exact Or.inl (by assumption) | exact Or.inr rfl | (unfold CE; omega))) rfl ?_
    refine Z_eq (M := mX0_appealsLeft) (b := ρ 21 _) rfl ?_
    refine J_goto (M := mX0_appealsLeft) (tgt := 15) dX0_appealsLeft_8 (by decide) ?_
    refine K_iret dX0_appealsLeft_15 rfl ?_
    first
      | exact And.intro (congrArg (fun z => some (vI (iI z))) (if_pos (by omega)).symm) rfl
      | exact And.intro (congrArg (fun z => some (vI (iI z))) (if_neg (by omega)).symm) rfl

set_option maxRecDepth 100000 in
set_option maxHeartbeats 4000000 in
theorem kX0_useAppeal {X : GX} {h : LH} {ρ : TS} {b s : Int} (hs : rg s) (e : CE ρ 13 b) : CK X mX0_useAppeal [vR (some (13, b)), vI (iI s)] h ρ (fun v r => v = none ∧ r = (if s = 0 then ts ρ 21 b (ρ 21 b - 1) else ts ρ 22 b (ρ 22 b - 1))) := by
  refine CT_of (by decide +kernel) rfl (Nat.le_of_ble_eq_true rfl) ?_
  refine J_iload_n (M := mX0_useAppeal) dX0_useAppeal_0 rfl rfl ?_
  first
    | refine Z_pt (M := mX0_useAppeal) (tgt := 17) dX0_useAppeal_1 (by decide) (fun c_1 => ?_) (fun c_1 => ?_)
    | refine Z_if_ne (M := mX0_useAppeal) (tgt := 17) (by first | assumption | exact pI_rg _ | (unfold rg; omega)) dX0_useAppeal_1 (by decide) (fun c_1 => ?_) (fun c_1 => ?_)
  · refine J_aload_n (M := mX0_useAppeal) dX0_useAppeal_17 rfl rfl ?_
    refine J_dup (M := mX0_useAppeal) dX0_useAppeal_18 rfl ?_
    refine J_getf (M := mX0_useAppeal) dX0_useAppeal_19 fi_X0_21 (hk_13 (by first | exact rfl | assumption | exact Or.inl (by assumption) | exact Or.inr rfl | (unfold CE; omega))) rfl ?_
    refine Z_eq (M := mX0_useAppeal) (b := ρ 22 _) rfl ?_
    refine Z_iconst (M := mX0_useAppeal) dX0_useAppeal_22 ?_
    refine Z_isub (M := mX0_useAppeal) dX0_useAppeal_23 ?_
    refine J_putI (M := mX0_useAppeal) dX0_useAppeal_24 fi_X0_21 (hk_13 (by first | exact rfl | assumption | exact Or.inl (by assumption) | exact Or.inr rfl | (unfold CE; omega))) (Nat.le_of_ble_eq_true rfl) ?_
    refine Z_h (M := mX0_useAppeal) (hkp_22 (by first | exact rfl | assumption | exact Or.inl (by assumption) | exact Or.inr rfl | (unfold CE; omega))) ?_
    refine K_vret dX0_useAppeal_27 rfl ?_
    first
      | exact And.intro rfl (if_pos (by omega)).symm
      | exact And.intro rfl (if_neg (by omega)).symm
  · refine J_aload_n (M := mX0_useAppeal) dX0_useAppeal_4 rfl rfl ?_
    refine J_dup (M := mX0_useAppeal) dX0_useAppeal_5 rfl ?_
    refine J_getf (M := mX0_useAppeal) dX0_useAppeal_6 fi_X0_17 (hk_13 (by first | exact rfl | assumption | exact Or.inl (by assumption) | exact Or.inr rfl | (unfold CE; omega))) rfl ?_
    refine Z_eq (M := mX0_useAppeal) (b := ρ 21 _) rfl ?_
    refine Z_iconst (M := mX0_useAppeal) dX0_useAppeal_9 ?_
    refine Z_isub (M := mX0_useAppeal) dX0_useAppeal_10 ?_
    refine J_putI (M := mX0_useAppeal) dX0_useAppeal_11 fi_X0_17 (hk_13 (by first | exact rfl | assumption | exact Or.inl (by assumption) | exact Or.inr rfl | (unfold CE; omega))) (Nat.le_of_ble_eq_true rfl) ?_
    refine Z_h (M := mX0_useAppeal) (hkp_21 (by first | exact rfl | assumption | exact Or.inl (by assumption) | exact Or.inr rfl | (unfold CE; omega))) ?_
    refine J_goto (M := mX0_useAppeal) (tgt := 27) dX0_useAppeal_14 (by decide) ?_
    refine K_vret dX0_useAppeal_27 rfl ?_
    first
      | exact And.intro rfl (if_pos (by omega)).symm
      | exact And.intro rfl (if_neg (by omega)).symm

set_option maxRecDepth 100000 in
set_option maxHeartbeats 4000000 in
theorem kX1_clear {X : GX} {h : LH} {ρ : TS} {f : Int} (e : CE ρ 11 f) : CK X mX1_clear [vR (some (11, f))] h ρ (fun v r => v = none ∧ r = ts (ts (ts (ts ρ 9 f 0) 10 f 0) 11 f 0) 12 f 0) := by
  refine CT_of (by decide +kernel) rfl (Nat.le_of_ble_eq_true rfl) ?_
  refine J_aload_n (M := mX1_clear) dX1_clear_0 rfl rfl ?_
  refine Z_iconst (M := mX1_clear) dX1_clear_1 ?_
  refine J_putI (M := mX1_clear) dX1_clear_2 fi_X1_13 (hk_11 (by first | exact rfl | assumption | exact Or.inl (by assumption) | exact Or.inr rfl | (unfold CE; omega))) (Nat.le_of_ble_eq_true rfl) ?_
  refine Z_h (M := mX1_clear) (hkp_9 (by first | exact rfl | assumption | exact Or.inl (by assumption) | exact Or.inr rfl | (unfold CE; omega))) ?_
  refine J_aload_n (M := mX1_clear) dX1_clear_5 rfl rfl ?_
  refine Z_iconst (M := mX1_clear) dX1_clear_6 ?_
  refine J_putI (M := mX1_clear) dX1_clear_7 fi_X1_16 (hk_11 (by first | exact rfl | assumption | exact Or.inl (by assumption) | exact Or.inr rfl | (unfold CE; omega))) (Nat.le_of_ble_eq_true rfl) ?_
  refine Z_h (M := mX1_clear) (hkp_10 (by first | exact rfl | assumption | exact Or.inl (by assumption) | exact Or.inr rfl | (unfold CE; omega))) ?_
  refine J_aload_n (M := mX1_clear) dX1_clear_10 rfl rfl ?_
  refine Z_iconst (M := mX1_clear) dX1_clear_11 ?_
  refine J_putI (M := mX1_clear) dX1_clear_12 fi_X1_19 (hk_11 (by first | exact rfl | assumption | exact Or.inl (by assumption) | exact Or.inr rfl | (unfold CE; omega))) (Nat.le_of_ble_eq_true rfl) ?_
  refine Z_h (M := mX1_clear) (hkp_11 (by first | exact rfl | assumption | exact Or.inl (by assumption) | exact Or.inr rfl | (unfold CE; omega))) ?_
  refine J_aload_n (M := mX1_clear) dX1_clear_15 rfl rfl ?_
  refine Z_iconst (M := mX1_clear) dX1_clear_16 ?_
  refine J_putI (M := mX1_clear) dX1_clear_17 fi_X1_22 (hk_11 (by first | exact rfl | assumption | exact Or.inl (by assumption) | exact Or.inr rfl | (unfold CE; omega))) (Nat.le_of_ble_eq_true rfl) ?_
  refine Z_h (M := mX1_clear) (hkp_12 (by first | exact rfl | assumption | exact Or.inl (by assumption) | exact Or.inr rfl | (unfold CE; omega))) ?_
  refine K_vret dX1_clear_20 rfl ?_
  exact And.intro rfl rfl

set_option maxRecDepth 100000 in
set_option maxHeartbeats 4000000 in
theorem kX1_difference {X : GX} {h : LH} {ρ : TS} {f : Int} (e : CE ρ 11 f) : CK X mX1_difference [vR (some (11, f))] h ρ (fun v r => v = some (vI (iI (ρ 11 f - ρ 12 f))) ∧ r = ρ) := by
  refine CT_of (by decide +kernel) rfl (Nat.le_of_ble_eq_true rfl) ?_
  refine J_aload_n (M := mX1_difference) dX1_difference_0 rfl rfl ?_
  refine J_getf (M := mX1_difference) dX1_difference_1 fi_X1_19 (hk_11 (by first | exact rfl | assumption | exact Or.inl (by assumption) | exact Or.inr rfl | (unfold CE; omega))) rfl ?_
  refine Z_eq (M := mX1_difference) (b := ρ 11 _) rfl ?_
  refine J_aload_n (M := mX1_difference) dX1_difference_4 rfl rfl ?_
  refine J_getf (M := mX1_difference) dX1_difference_5 fi_X1_22 (hk_11 (by first | exact rfl | assumption | exact Or.inl (by assumption) | exact Or.inr rfl | (unfold CE; omega))) rfl ?_
  refine Z_eq (M := mX1_difference) (b := ρ 12 _) rfl ?_
  refine Z_isub (M := mX1_difference) dX1_difference_8 ?_
  refine K_iret dX1_difference_9 rfl ?_
  exact And.intro rfl rfl

set_option maxRecDepth 100000 in
set_option maxHeartbeats 4000000 in
theorem kX1_add {X : GX} {h : LH} {ρ : TS} {f x y : Int} {p : Prop} (e : CE ρ 11 f) : CK X mX1_add [vR (some (11, f)), vI (iI x), vI (iI y), vI (iI (pI p))] h ρ (fun v r => v = none ∧ r = ts (ts (ts (ts ρ 9 f (ρ 9 f + 1)) 10 f (ρ 10 f + pI p)) 11 f (ρ 11 f + x)) 12 f (ρ 12 f + y)) := by
  refine CT_of (by decide +kernel) rfl (Nat.le_of_ble_eq_true rfl) ?_
  refine J_aload_n (M := mX1_add) dX1_add_0 rfl rfl ?_
  refine J_dup (M := mX1_add) dX1_add_1 rfl ?_
  refine J_getf (M := mX1_add) dX1_add_2 fi_X1_13 (hk_11 (by first | exact rfl | assumption | exact Or.inl (by assumption) | exact Or.inr rfl | (unfold CE; omega))) rfl ?_
  refine Z_eq (M := mX1_add) (b := ρ 9 _) rfl ?_
  refine Z_iconst (M := mX1_add) dX1_add_5 ?_
  refine Z_iadd (M := mX1_add) dX1_add_6 ?_
  refine J_putI (M := mX1_add) dX1_add_7 fi_X1_13 (hk_11 (by first | exact rfl | assumption | exact Or.inl (by assumption) | exact Or.inr rfl | (unfold CE; omega))) (Nat.le_of_ble_eq_true rfl) ?_
  refine Z_h (M := mX1_add) (hkp_9 (by first | exact rfl | assumption | exact Or.inl (by assumption) | exact Or.inr rfl | (unfold CE; omega))) ?_
  refine J_aload_n (M := mX1_add) dX1_add_10 rfl rfl ?_
  refine J_dup (M := mX1_add) dX1_add_11 rfl ?_
  refine J_getf (M := mX1_add) dX1_add_12 fi_X1_16 (hk_11 (by first | exact rfl | assumption | exact Or.inl (by assumption) | exact Or.inr rfl | (unfold CE; omega))) rfl ?_
  refine Z_eq (M := mX1_add) (b := ρ 10 _) rfl ?_
  refine Z_bj (M := mX1_add) (pcB := 24) (p) (fun hj_24 => ?_) ?_
  · refine J_iload_n (M := mX1_add) dX1_add_15 rfl rfl ?_
    first
      | refine Z_pf (M := mX1_add) (tgt := 23) dX1_add_16 (by decide) (fun c_16 => ?_) (fun c_16 => ?_)
      | refine Z_if_eq (M := mX1_add) (tgt := 23) (by first | assumption | exact pI_rg _ | (unfold rg; omega)) dX1_add_16 (by decide) (fun c_16 => ?_) (fun c_16 => ?_)
    · refine Z_iconst (M := mX1_add) dX1_add_23 ?_
      exact hj_24 _ (pI_f (by assumption)).symm
    · refine Z_iconst (M := mX1_add) dX1_add_19 ?_
      refine J_goto (M := mX1_add) (tgt := 24) dX1_add_20 (by decide) ?_
      exact hj_24 _ (pI_t (by assumption)).symm
  refine Z_iadd (M := mX1_add) dX1_add_24 ?_
  refine J_putI (M := mX1_add) dX1_add_25 fi_X1_16 (hk_11 (by first | exact rfl | assumption | exact Or.inl (by assumption) | exact Or.inr rfl | (unfold CE; omega))) (Nat.le_of_ble_eq_true rfl) ?_
  refine Z_h (M := mX1_add) (hkp_10 (by first | exact rfl | assumption | exact Or.inl (by assumption) | exact Or.inr rfl | (unfold CE; omega))) ?_
  refine J_aload_n (M := mX1_add) dX1_add_28 rfl rfl ?_
  refine J_dup (M := mX1_add) dX1_add_29 rfl ?_
  refine J_getf (M := mX1_add) dX1_add_30 fi_X1_19 (hk_11 (by first | exact rfl | assumption | exact Or.inl (by assumption) | exact Or.inr rfl | (unfold CE; omega))) rfl ?_
  refine Z_eq (M := mX1_add) (b := ρ 11 _) rfl ?_
  refine J_iload_n (M := mX1_add) dX1_add_33 rfl rfl ?_
  refine Z_iadd (M := mX1_add) dX1_add_34 ?_
  refine J_putI (M := mX1_add) dX1_add_35 fi_X1_19 (hk_11 (by first | exact rfl | assumption | exact Or.inl (by assumption) | exact Or.inr rfl | (unfold CE; omega))) (Nat.le_of_ble_eq_true rfl) ?_
  refine Z_h (M := mX1_add) (hkp_11 (by first | exact rfl | assumption | exact Or.inl (by assumption) | exact Or.inr rfl | (unfold CE; omega))) ?_
  refine J_aload_n (M := mX1_add) dX1_add_38 rfl rfl ?_
  refine J_dup (M := mX1_add) dX1_add_39 rfl ?_
  refine J_getf (M := mX1_add) dX1_add_40 fi_X1_22 (hk_11 (by first | exact rfl | assumption | exact Or.inl (by assumption) | exact Or.inr rfl | (unfold CE; omega))) rfl ?_
  refine Z_eq (M := mX1_add) (b := ρ 12 _) rfl ?_
  refine J_iload_n (M := mX1_add) dX1_add_43 rfl rfl ?_
  refine Z_iadd (M := mX1_add) dX1_add_44 ?_
  refine J_putI (M := mX1_add) dX1_add_45 fi_X1_22 (hk_11 (by first | exact rfl | assumption | exact Or.inl (by assumption) | exact Or.inr rfl | (unfold CE; omega))) (Nat.le_of_ble_eq_true rfl) ?_
  refine Z_h (M := mX1_add) (hkp_12 (by first | exact rfl | assumption | exact Or.inl (by assumption) | exact Or.inr rfl | (unfold CE; omega))) ?_
  refine K_vret dX1_add_48 rfl ?_
  exact And.intro rfl rfl

set_option maxRecDepth 100000 in
set_option maxHeartbeats 4000000 in
theorem kX2_isFull {X : GX} {h : LH} {ρ : TS} (W : WK ρ) {p : Int} (e : CE ρ 16 p) : CK X mX2_isFull [vR (some (16, p))] h ρ (fun v r => v = some (vI (iI (pI (8 ≤ ρ 33 p)))) ∧ r = ρ) := by
  have b1 := wk33 W p
  refine CT_of (by decide +kernel) rfl (Nat.le_of_ble_eq_true rfl) ?_
  refine J_aload_n (M := mX2_isFull) dX2_isFull_0 rfl rfl ?_
  refine J_getf (M := mX2_isFull) dX2_isFull_1 fi_X2_36 (hk_16 (by first | exact rfl | assumption | exact Or.inl (by assumption) | exact Or.inr rfl | (unfold CE; omega))) rfl ?_
  refine Z_eq (M := mX2_isFull) (b := ρ 33 _) rfl ?_
  refine Z_bipush (M := mX2_isFull) dX2_isFull_4 rfl ?_
  refine Z_ic_lt (M := mX2_isFull) (tgt := 13) (by first | assumption | exact pI_rg _ | (unfold rg; omega)) (by first | assumption | exact pI_rg _ | (unfold rg; omega)) dX2_isFull_6 (by decide) (fun c_6 => ?_) (fun c_6 => ?_)
  · refine Z_iconst (M := mX2_isFull) dX2_isFull_13 ?_
    refine K_zret dX2_isFull_14 rfl (by first | exact pI_01 _ | exact Or.inl rfl | exact Or.inr rfl | omega) ?_
    exact And.intro (r0 (by omega)) rfl
  · refine Z_iconst (M := mX2_isFull) dX2_isFull_9 ?_
    refine J_goto (M := mX2_isFull) (tgt := 14) dX2_isFull_10 (by decide) ?_
    refine K_zret dX2_isFull_14 rfl (by first | exact pI_01 _ | exact Or.inl rfl | exact Or.inr rfl | omega) ?_
    exact And.intro (r1 (by omega)) rfl
