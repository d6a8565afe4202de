/-! THE CLASS: bouts kept and forgotten, the piste, the tableau's small methods -/
def kpt (ρ : TS) (b p : Int) : TS := ts (ts ρ 23 (12 * b + ρ 20 b) p) 20 b (ρ 20 b + 1)
theorem WK_kpt {ρ : TS} (V : WK ρ) {b p : Int} (hp : 0 ≤ p ∧ p ≤ 100000) (hn : ρ 20 b < 12) : WK (kpt ρ b p) := by
  have b20 := wk20 V b
  exact WK_ts (WK_ts V (show (-1 : Int) ≤ _ ∧ _ ≤ (100000 : Int) by omega)) (show (0 : Int) ≤ _ ∧ _ ≤ (12 : Int) by omega)
set_option maxRecDepth 100000 in
set_option maxHeartbeats 4000000 in
theorem kX0_keep {X : GX} {h : LH} {ρ τ : TS} (V : WK ρ) (W : WF τ) {b p : Int} (e : CE ρ 13 b) (ep : CE ρ 16 p) (hp : 0 ≤ p ∧ p ≤ 100000) (hn : ρ 20 b < 12) (R : WR (kpt ρ b p) τ) (B : BR (kpt ρ b p) τ b) : CK X mX0_keep [vR (some (13, b)), vR (some (16, p))] h ρ (fun v r => v = none ∧ r = ts (ts (kpt ρ b p) 25 b (te τ b).1) 26 b (te τ b).2.1) := by
  have V1 := WK_kpt V hp hn
  refine CT_of (by decide +kernel) rfl (Nat.le_of_ble_eq_true rfl) ?_
  refine J_aload_n (M := mX0_keep) dX0_keep_0 rfl rfl ?_
  refine J_getf (M := mX0_keep) dX0_keep_1 fi_X0_45 (hk_13 (by first | exact rfl | assumption | exact Or.inl (by assumption) | exact Or.inr rfl | (show 0 ≤ _ ∧ _ < _; omega))) rfl ?_
  refine Z_wb (M := mX0_keep) (g := ρ 20) (wk20 V) rfl (fun wb_20_2 => ?_)
  refine Z_if_lt (M := mX0_keep) (tgt := 16) (by first | assumption | exact pI_rg _ | (unfold rg; omega)) dX0_keep_4 (by decide) (fun c_4 => ?_) (fun c_4 => ?_)
  · omega
  · refine J_aload_n (M := mX0_keep) dX0_keep_7 rfl rfl ?_
    refine J_getf (M := mX0_keep) dX0_keep_8 fi_X0_45 (hk_13 (by first | exact rfl | assumption | exact Or.inl (by assumption) | exact Or.inr rfl | (show 0 ≤ _ ∧ _ < _; omega))) rfl ?_
    refine Z_wb (M := mX0_keep) (g := ρ 20) (wk20 V) rfl (fun wb_20_7 => ?_)
    refine Z_bipush (M := mX0_keep) dX0_keep_11 rfl ?_
    refine Z_ic_lt (M := mX0_keep) (tgt := 17) (by first | assumption | exact pI_rg _ | (unfold rg; omega)) (by first | assumption | exact pI_rg _ | (unfold rg; omega)) dX0_keep_13 (by decide) (fun c_13 => ?_) (fun c_13 => ?_)
    · refine J_aload_n (M := mX0_keep) dX0_keep_17 rfl rfl ?_
      refine J_getf (M := mX0_keep) dX0_keep_18 fi_X0_11 (hk_13 (by first | exact rfl | assumption | exact Or.inl (by assumption) | exact Or.inr rfl | (show 0 ≤ _ ∧ _ < _; omega))) rfl ?_
      refine J_aload_n (M := mX0_keep) dX0_keep_21 rfl rfl ?_
      refine J_getf (M := mX0_keep) dX0_keep_22 fi_X0_45 (hk_13 (by first | exact rfl | assumption | exact Or.inl (by assumption) | exact Or.inr rfl | (show 0 ≤ _ ∧ _ < _; omega))) rfl ?_
      refine Z_wb (M := mX0_keep) (g := ρ 20) (wk20 V) rfl (fun wb_20_14 => ?_)
      refine J_aload_n (M := mX0_keep) dX0_keep_25 rfl rfl ?_
      first | refine Z_some (M := mX0_keep) (by omega) ?_ | skip
      refine J_aast (M := mX0_keep) dX0_keep_26 (by decide) rfl rfl (hk_14 (by first | exact rfl | assumption | exact Or.inl (by assumption) | exact Or.inr rfl | (show 0 ≤ _ ∧ _ < _; omega))) (hk_16 (by first | exact rfl | assumption | exact Or.inl (by assumption) | exact Or.inr rfl | (show 0 ≤ _ ∧ _ < _; omega))) (ix_iI (by omega) (by omega) (by decide)) ?_
      refine Z_h (M := mX0_keep) (hkpa_23 (by omega) (by first | exact rfl | assumption | exact Or.inl (by assumption) | exact Or.inr rfl | (show 0 ≤ _ ∧ _ < _; omega)) ⟨by omega, by omega⟩) ?_
      refine J_aload_n (M := mX0_keep) dX0_keep_27 rfl rfl ?_
      refine J_dup (M := mX0_keep) dX0_keep_28 rfl ?_
      refine J_getf (M := mX0_keep) dX0_keep_29 fi_X0_45 (hk_13 (by first | exact rfl | assumption | exact Or.inl (by assumption) | exact Or.inr rfl | (show 0 ≤ _ ∧ _ < _; omega))) rfl ?_
      refine Z_wb (M := mX0_keep) (g := ρ 20) (wk20 V) rfl (fun wb_20_21 => ?_)
      refine Z_iconst (M := mX0_keep) dX0_keep_32 ?_
      refine Z_iadd (M := mX0_keep) dX0_keep_33 ?_
      refine J_putI (M := mX0_keep) dX0_keep_34 fi_X0_45 (hk_13 (by first | exact rfl | assumption | exact Or.inl (by assumption) | exact Or.inr rfl | (show 0 ≤ _ ∧ _ < _; omega))) (Nat.le_of_ble_eq_true rfl) ?_
      refine Z_h (M := mX0_keep) (hkp_20 (by first | exact rfl | assumption | exact Or.inl (by assumption) | exact Or.inr rfl | (show 0 ≤ _ ∧ _ < _; omega))) ?_
      refine J_aload_n (M := mX0_keep) dX0_keep_37 rfl rfl ?_
      refine J_callV (M := mX0_keep) (as := []) dX0_keep_38 ca_X0_48 ⟨by decide, by decide⟩ (hk_13 (by first | exact rfl | assumption | exact Or.inl (by assumption) | exact Or.inr rfl | (show 0 ≤ _ ∧ _ < _; omega))) rfl (Nat.le_of_ble_eq_true rfl) (k' := 0) (n' := 0) (by decide) (by decide) (kX0_recount W V1 R B) (fun v_38 h_38 hv_38 => ?_)
      obtain ⟨r_38, rfl, hv_38⟩ := hv_38
      obtain ⟨rfl, e_38⟩ := hv_38
      rw [e_38]
      refine K_vret dX0_keep_41 rfl ?_
      exact And.intro rfl rfl
    · omega

def rw0 (g : Int → Int) (b i : Int) : Int → Int := fun z => if 12 * b ≤ z ∧ z < 12 * b + i then -1 else g z
theorem rw0_0 {g : Int → Int} {b : Int} : rw0 g b 0 = g := by
  funext z
  unfold rw0
  rw [if_neg (by omega)]
theorem rw0_s {g : Int → Int} {b i : Int} (h : 0 ≤ i) : upZ (rw0 g b i) (12 * b + i) (-1) = rw0 g b (i + 1) := by
  funext z
  unfold upZ rw0
  by_cases e : z = 12 * b + i
  · rw [if_pos e, if_pos (by omega)]
  · rw [if_neg e]
    by_cases q : 12 * b ≤ z ∧ z < 12 * b + i
    · rw [if_pos q, if_pos (by omega)]
    · rw [if_neg q, if_neg (by omega)]
def fgt (ρ : TS) (b : Int) : TS := ts (ts (ts (ts (ts (fs ρ 23 (rw0 (ρ 23) b 12)) 20 b 0) 21 b 2) 22 b 2) 25 b 0) 26 b 0
set_option maxRecDepth 100000 in
set_option maxHeartbeats 4000000 in
theorem fg_l {X : GX} {h : LH} {ρ : TS} {k n : Nat} {Q : LO → LH → Prop} {b : Int} (e : CE ρ 13 b) : ∀ (m : Nat) (i : Int), 0 ≤ i → i + m = 12 → J X mX0_forget 21 [some (vR (some (13, b))), none] [] (hk h (fs ρ 23 (rw0 (ρ 23) b 12))) k n Q → J X mX0_forget 2 [some (vR (some (13, b))), some (vI (iI i))] [] (hk h (fs ρ 23 (rw0 (ρ 23) b i))) k n Q := by
  intro m
  induction m with
  | zero =>
    intro i h0 hi kk
    have ei : i = 12 := by omega
    subst ei
    refine J_iload_n (M := mX0_forget) dX0_forget_2 rfl rfl ?_
    refine Z_bipush (M := mX0_forget) dX0_forget_3 rfl ?_
    refine Z_ic_ge (M := mX0_forget) (tgt := 21) (by first | assumption | exact pI_rg _ | (unfold rg; omega)) (by first | assumption | exact pI_rg _ | (unfold rg; omega)) dX0_forget_5 (by decide) (fun c_5 => ?_) (fun c_5 => ?_)
    · exact J_sub kk (And.intro rfl trivial)
    · omega
  | succ m ih =>
    intro i h0 hi kk
    refine J_iload_n (M := mX0_forget) dX0_forget_2 rfl rfl ?_
    refine Z_bipush (M := mX0_forget) dX0_forget_3 rfl ?_
    refine Z_ic_ge (M := mX0_forget) (tgt := 21) (by first | assumption | exact pI_rg _ | (unfold rg; omega)) (by first | assumption | exact pI_rg _ | (unfold rg; omega)) dX0_forget_5 (by decide) (fun c_5 => ?_) (fun c_5 => ?_)
    · omega
    · refine J_aload_n (M := mX0_forget) dX0_forget_8 rfl rfl ?_
      refine J_getf (M := mX0_forget) dX0_forget_9 fi_X0_11 (hk_13 (by first | exact rfl | assumption | exact Or.inl (by assumption) | exact Or.inr rfl | (show 0 ≤ _ ∧ _ < _; omega))) rfl ?_
      refine J_iload_n (M := mX0_forget) dX0_forget_12 rfl rfl ?_
      refine J_null (M := mX0_forget) dX0_forget_13 ?_
      refine J_aastN (M := mX0_forget) dX0_forget_14 (by decide) rfl (hk_14 (by first | exact rfl | assumption | exact Or.inl (by assumption) | exact Or.inr rfl | (show 0 ≤ _ ∧ _ < _; omega))) (ix_iI (by omega) (by omega) (by decide)) ?_
      refine Z_h (M := mX0_forget) (hkpn_23 (by first | exact rfl | assumption | exact Or.inl (by assumption) | exact Or.inr rfl | (show 0 ≤ _ ∧ _ < _; omega)) ⟨by omega, by omega⟩) ?_
      refine Z_iinc (M := mX0_forget) dX0_forget_15 rfl (by decide) ?_
      refine J_goto (M := mX0_forget) (tgt := 2) dX0_forget_18 (by decide) ?_
      rw [ts_fs, rw0_s h0]
      exact J_sub (ih (i + 1) (by omega) (by omega) kk) (And.intro rfl (And.intro rfl trivial))

set_option maxRecDepth 100000 in
set_option maxHeartbeats 4000000 in
theorem kX0_forget {X : GX} {h : LH} {ρ : TS} (V : WK ρ) {b : Int} (e : CE ρ 13 b) : CK X mX0_forget [vR (some (13, b))] h ρ (fun v r => v = none ∧ r = fgt ρ b) := by
  have e15 : CE ρ 15 b := Or.inl e
  have hz : ts (ts (ts (ts (fs ρ 23 (rw0 (ρ 23) b 12)) 20 b 0) 21 b 2) 22 b 2) 24 b (ρ 24 b) = ts (ts (ts (fs ρ 23 (rw0 (ρ 23) b 12)) 20 b 0) 21 b 2) 22 b 2 := ts_id (τ := ts (ts (ts (fs ρ 23 (rw0 (ρ 23) b 12)) 20 b 0) 21 b 2) 22 b 2)
  refine CT_of (by decide +kernel) rfl (Nat.le_of_ble_eq_true rfl) ?_
  refine Z_iconst (M := mX0_forget) dX0_forget_0 ?_
  refine J_istore_n (M := mX0_forget) dX0_forget_1 rfl (by decide) ?_
  have hf := fg_l (X := X) (h := h) (ρ := ρ) (k := (mR mX0_forget).cells) (n := (mR mX0_forget).slots) (Q := QK h (fun v r => v = none ∧ r = fgt ρ b)) e 12 0 (by omega) (by omega)
  rw [show fs ρ 23 (rw0 (ρ 23) b 0) = ρ by rw [rw0_0, fs_id]] at hf
  refine hf ?_
  refine J_aload_n (M := mX0_forget) dX0_forget_21 rfl rfl ?_
  refine Z_iconst (M := mX0_forget) dX0_forget_22 ?_
  refine J_putI (M := mX0_forget) dX0_forget_23 fi_X0_45 (hk_13 (by first | exact rfl | assumption | exact Or.inl (by assumption) | exact Or.inr rfl | (show 0 ≤ _ ∧ _ < _; omega))) (Nat.le_of_ble_eq_true rfl) ?_
  refine Z_h (M := mX0_forget) (hkp_20 (by first | exact rfl | assumption | exact Or.inl (by assumption) | exact Or.inr rfl | (show 0 ≤ _ ∧ _ < _; omega))) ?_
  refine J_aload_n (M := mX0_forget) dX0_forget_26 rfl rfl ?_
  refine Z_iconst (M := mX0_forget) dX0_forget_27 ?_
  refine J_putI (M := mX0_forget) dX0_forget_28 fi_X0_17 (hk_13 (by first | exact rfl | assumption | exact Or.inl (by assumption) | exact Or.inr rfl | (show 0 ≤ _ ∧ _ < _; omega))) (Nat.le_of_ble_eq_true rfl) ?_
  refine Z_h (M := mX0_forget) (hkp_21 (by first | exact rfl | assumption | exact Or.inl (by assumption) | exact Or.inr rfl | (show 0 ≤ _ ∧ _ < _; omega))) ?_
  refine J_aload_n (M := mX0_forget) dX0_forget_31 rfl rfl ?_
  refine Z_iconst (M := mX0_forget) dX0_forget_32 ?_
  refine J_putI (M := mX0_forget) dX0_forget_33 fi_X0_21 (hk_13 (by first | exact rfl | assumption | exact Or.inl (by assumption) | exact Or.inr rfl | (show 0 ≤ _ ∧ _ < _; omega))) (Nat.le_of_ble_eq_true rfl) ?_
  refine Z_h (M := mX0_forget) (hkp_22 (by first | exact rfl | assumption | exact Or.inl (by assumption) | exact Or.inr rfl | (show 0 ≤ _ ∧ _ < _; omega))) ?_
  refine J_aload_n (M := mX0_forget) dX0_forget_36 rfl rfl ?_
  refine J_getf (M := mX0_forget) dX0_forget_37 fi_X0_27 (hk_13 (by first | exact rfl | assumption | exact Or.inl (by assumption) | exact Or.inr rfl | (show 0 ≤ _ ∧ _ < _; omega))) rfl ?_
  refine J_aload_n (M := mX0_forget) dX0_forget_40 rfl rfl ?_
  refine J_getf (M := mX0_forget) dX0_forget_41 fi_X0_27 (hk_13 (by first | exact rfl | assumption | exact Or.inl (by assumption) | exact Or.inr rfl | (show 0 ≤ _ ∧ _ < _; omega))) rfl ?_
  refine J_getf (M := mX0_forget) dX0_forget_44 fi_X0_51 (hk_15 (by first | exact rfl | assumption | exact Or.inl (by assumption) | exact Or.inr rfl | (show 0 ≤ _ ∧ _ < _; omega))) rfl ?_
  refine Z_wb (M := mX0_forget) (g := ρ 24) (wk24 V) rfl (fun wb_24_17 => ?_)
  refine J_callV (M := mX0_forget) (as := [_]) dX0_forget_47 ca_X0_41 ⟨by decide, by decide⟩ (hk_15 (by first | exact rfl | assumption | exact Or.inl (by assumption) | exact Or.inr rfl | (show 0 ≤ _ ∧ _ < _; omega))) rfl (Nat.le_of_ble_eq_true rfl) (k' := 0) (n' := 0) (by decide) (by decide) (kX5_restart e15) (fun v_47 h_47 hv_47 => ?_)
  obtain ⟨r_47, rfl, hv_47⟩ := hv_47
  obtain ⟨rfl, e_47⟩ := hv_47
  rw [e_47]
  rw [hz]
  refine K_vret dX0_forget_50 rfl ?_
  exact And.intro rfl rfl

theorem WK_ca {ρ : TS} (V : WK ρ) {b x y : Int} (hx : 0 ≤ x ∧ x ≤ 12) (hy : 0 ≤ y ∧ y ≤ 12) : WK (ts (ts (ts ρ 24 82 (gl3 b)) 25 82 x) 26 82 y) := by
  have := gl3_r (b := b)
  exact WK_ts (WK_ts (WK_ts V (show (0 : Int) ≤ _ ∧ _ ≤ (5 : Int) by omega)) hx) hy
set_option maxRecDepth 100000 in
set_option maxHeartbeats 4000000 in
theorem ca_l {X : GX} {h : LH} {ρ τ : TS} {k n : Nat} (W : WF τ) (V : WK ρ) (R : WR ρ τ) {b : Int} (B : BR ρ τ b) : ∀ (m i : Nat), (i : Int) + m = τ 10 b → J X mX0_countAnew 13 [some (vR (some (13, b))), some (vR (some (15, 82))), some (vI (iI i)), none] [] (hk h (ts (ts (ts ρ 24 82 (gl3 b)) 25 82 (tlF (gl3 b) (tch τ b) i).1) 26 82 (tlF (gl3 b) (tch τ b) i).2.1)) k n (QK h (fun v r => v = none ∧ r = ts (ts (ts ρ 24 82 (gl3 b)) 25 82 (te τ b).1) 26 82 (te τ b).2.1)) := by
  obtain ⟨g1, g2, g3, g4, g5, g6⟩ := id B
  have e15 : CE ρ 15 b := Or.inl g2
  have b10 := wf10 W b
  have b20 := wk20 V b
  have e82 : ∀ u : TS, CE u 15 82 := fun u => Or.inr rfl
  have b17 := wk17 V b
  have q17 : ρ 17 b = 0 ∨ ρ 17 b = 1 := by omega
  intro m
  induction m with
  | zero =>
    intro i hi
    have ei : (τ 10 b).toNat = i := by omega
    refine J_iload_n (M := mX0_countAnew) dX0_countAnew_13 rfl rfl ?_
    refine J_aload_n (M := mX0_countAnew) dX0_countAnew_14 rfl rfl ?_
    refine J_getf (M := mX0_countAnew) dX0_countAnew_15 fi_X0_45 (hk_13 (by first | exact rfl | assumption | exact Or.inl (by assumption) | exact Or.inr rfl | (show 0 ≤ _ ∧ _ < _; omega))) rfl ?_
    refine Z_wb (M := mX0_countAnew) (g := ρ 20) (wk20 V) rfl (fun wb_20_3 => ?_)
    refine Z_ic_ge (M := mX0_countAnew) (tgt := 53) (by first | assumption | exact pI_rg _ | (unfold rg; omega)) (by first | assumption | exact pI_rg _ | (unfold rg; omega)) dX0_countAnew_18 (by decide) (fun c_18 => ?_) (fun c_18 => ?_)
    · refine K_vret dX0_countAnew_53 rfl ?_
      exact And.intro rfl (by rw [← ei]; rfl)
    · omega
  | succ m ih =>
    intro i hi
    obtain ⟨p1, p2⟩ := g6 i (by omega) (by omega)
    obtain ⟨a1, a2, a3, a4, a5, a6⟩ := tl_ok (g := gl3 b) (T := tch τ b) gl3_r.1 (tch_rg b) i
    have g9 := gl3_r (b := b)
    have V' : WK (ts (ts (ts ρ 24 82 (gl3 b)) 25 82 (tlF (gl3 b) (tch τ b) i).1) 26 82 (tlF (gl3 b) (tch τ b) i).2.1) := WK_ca V (by omega) (by omega)
    have P' : PH (ts (ts (ts ρ 24 82 (gl3 b)) 25 82 (tlF (gl3 b) (tch τ b) i).1) 26 82 (tlF (gl3 b) (tch τ b) i).2.1) τ (ρ 23 (12 * b + i)) (12 * b + i) := p1
    have R' : WR (ts (ts (ts ρ 24 82 (gl3 b)) 25 82 (tlF (gl3 b) (tch τ b) i).1) 26 82 (tlF (gl3 b) (tch τ b) i).2.1) τ := R
    have p0 := p1.1
    have P3 := p1.2.2.1
    have P4 := p1.2.2.2.1
    have b28 := wk28 V (ρ 23 (12 * b + i))
    have b29 := wk29 V (ρ 23 (12 * b + i))
    have b36 := jd_rg W (ph := 12 * b + i) (by omega)
    have hs := tl_st (g := gl3 b) (T := tch τ b) gl3_r.1 (tch_rg b) i
    have e1 : (tad (gl3 b) (tch τ b i) ((tlF (gl3 b) (tch τ b) i).1, (tlF (gl3 b) (tch τ b) i).2.1)).1 = (tlF (gl3 b) (tch τ b) (i + 1)).1 := by rw [hs]
    have e2 : (tad (gl3 b) (tch τ b i) ((tlF (gl3 b) (tch τ b) i).1, (tlF (gl3 b) (tch τ b) i).2.1)).2 = (tlF (gl3 b) (tch τ b) (i + 1)).2.1 := by rw [hs]
    have ha : (if 0 ≤ (i : Int) ∧ (i : Int) < ρ 20 b then ρ 23 (12 * b + i) else -1) = ρ 23 (12 * b + i) := if_pos (by omega)
    have hx : 0 ≤ tch τ b i ∧ tch τ b i ≤ 3 := tch_rg _ _
    have hst : ts (ts (ts (ts (ts ρ 24 82 (gl3 b)) 25 82 (tlF (gl3 b) (tch τ b) i).1) 26 82 (tlF (gl3 b) (tch τ b) i).2.1) 25 82 (tad (gl3 b) (tch τ b i) ((tlF (gl3 b) (tch τ b) i).1, (tlF (gl3 b) (tch τ b) i).2.1)).1) 26 82 (tad (gl3 b) (tch τ b i) ((tlF (gl3 b) (tch τ b) i).1, (tlF (gl3 b) (tch τ b) i).2.1)).2 = (ts (ts (ts ρ 24 82 (gl3 b)) 25 82 (tlF (gl3 b) (tch τ b) (i + 1)).1) 26 82 (tlF (gl3 b) (tch τ b) (i + 1)).2.1) := by
      rw [e1, e2, ts_cm (k := 26) (j := 25) (by decide), ts_ts, ts_ts]
    have h25 : (ts (ts (ts ρ 24 82 (gl3 b)) 25 82 (tlF (gl3 b) (tch τ b) i).1) 26 82 (tlF (gl3 b) (tch τ b) i).2.1) 25 82 = (tlF (gl3 b) (tch τ b) i).1 := by rw [tsN (by decide), ts_self]
    have h26 : (ts (ts (ts ρ 24 82 (gl3 b)) 25 82 (tlF (gl3 b) (tch τ b) i).1) 26 82 (tlF (gl3 b) (tch τ b) i).2.1) 26 82 = (tlF (gl3 b) (tch τ b) i).2.1 := ts_self
    have h24 : (ts (ts (ts ρ 24 82 (gl3 b)) 25 82 (tlF (gl3 b) (tch τ b) i).1) 26 82 (tlF (gl3 b) (tch τ b) i).2.1) 24 82 = gl3 b := by rw [tsN (by decide), tsN (by decide), ts_self]
    refine J_iload_n (M := mX0_countAnew) dX0_countAnew_13 rfl rfl ?_
    refine J_aload_n (M := mX0_countAnew) dX0_countAnew_14 rfl rfl ?_
    refine J_getf (M := mX0_countAnew) dX0_countAnew_15 fi_X0_45 (hk_13 (by first | exact rfl | assumption | exact Or.inl (by assumption) | exact Or.inr rfl | (show 0 ≤ _ ∧ _ < _; omega))) rfl ?_
    refine Z_wb (M := mX0_countAnew) (g := ρ 20) (wk20 V) rfl (fun wb_20_3 => ?_)
    refine Z_ic_ge (M := mX0_countAnew) (tgt := 53) (by first | assumption | exact pI_rg _ | (unfold rg; omega)) (by first | assumption | exact pI_rg _ | (unfold rg; omega)) dX0_countAnew_18 (by decide) (fun c_18 => ?_) (fun c_18 => ?_)
    · omega
    · refine J_aload_n (M := mX0_countAnew) dX0_countAnew_21 rfl rfl ?_
      refine J_iload_n (M := mX0_countAnew) dX0_countAnew_22 rfl rfl ?_
      refine J_callV (M := mX0_countAnew) (as := [_]) dX0_countAnew_23 ca_X0_61 ⟨by decide, by decide⟩ (hk_13 (by first | exact rfl | assumption | exact Or.inl (by assumption) | exact Or.inr rfl | (show 0 ≤ _ ∧ _ < _; omega))) rfl (Nat.le_of_ble_eq_true rfl) (k' := k) (n' := n) (Nat.le_refl _) (Nat.le_refl _) (kX0_phraseAt V' g2 (by unfold rg; omega)) (fun v_23 h_23 hv_23 => ?_)
      obtain ⟨r_23, rfl, hv_23⟩ := hv_23
      obtain ⟨rfl, e_23⟩ := hv_23
      rw [e_23]
      refine Z_rfe (M := mX0_countAnew) ha ?_
      refine J_astore_n (M := mX0_countAnew) dX0_countAnew_26 rfl (by decide) ?_
      refine J_aload_n (M := mX0_countAnew) dX0_countAnew_27 rfl rfl ?_
      first | refine Z_some (M := mX0_countAnew) (by omega) ?_ | skip
      first | refine Z_uns (M := mX0_countAnew) (by omega) ?_ | skip
      refine K_ifnull (tgt := 47) dX0_countAnew_28 (by decide) (fun c_28 => ?_) (fun c_28 => ?_)
      · omega
      · refine J_aload_n (M := mX0_countAnew) dX0_countAnew_31 rfl rfl ?_
        first | refine Z_some (M := mX0_countAnew) (by omega) ?_ | skip
        refine J_aload_n (M := mX0_countAnew) dX0_countAnew_32 rfl rfl ?_
        first | refine Z_some (M := mX0_countAnew) (by omega) ?_ | skip
        refine J_aload_n (M := mX0_countAnew) dX0_countAnew_33 rfl rfl ?_
        first | refine Z_some (M := mX0_countAnew) (by omega) ?_ | skip
        refine J_callV (M := mX0_countAnew) (as := []) dX0_countAnew_34 ca_X0_72 ⟨by decide, by decide⟩ (hk_16 (by first | exact rfl | assumption | exact Or.inl (by assumption) | exact Or.inr rfl | (show 0 ≤ _ ∧ _ < _; omega))) rfl (Nat.le_of_ble_eq_true rfl) (k' := k) (n' := n) (Nat.le_refl _) (Nat.le_refl _) (kX2_judge W V' P' (by omega)) (fun v_34 h_34 hv_34 => ?_)
        obtain ⟨r_34, rfl, hv_34⟩ := hv_34
        obtain ⟨rfl, e_34⟩ := hv_34
        rw [e_34]
        refine J_aload_n (M := mX0_countAnew) dX0_countAnew_37 rfl rfl ?_
        refine J_getf (M := mX0_countAnew) dX0_countAnew_38 fi_X0_31 (hk_13 (by first | exact rfl | assumption | exact Or.inl (by assumption) | exact Or.inr rfl | (show 0 ≤ _ ∧ _ < _; omega))) rfl ?_
        refine Z_wb (M := mX0_countAnew) (g := ρ 17) (wk17 V) rfl (fun wb_17_28 => ?_)
        refine J_callV (M := mX0_countAnew) (as := [_, _]) dX0_countAnew_41 ca_X0_57 ⟨by decide, by decide⟩ (hk_16 (by first | exact rfl | assumption | exact Or.inl (by assumption) | exact Or.inr rfl | (show 0 ≤ _ ∧ _ < _; omega))) rfl (Nat.le_of_ble_eq_true rfl) (k' := k) (n' := n) (Nat.le_refl _) (Nat.le_refl _) (kX2_withoutStruck V' p0 (by show 0 ≤ ρ 28 _ ∧ ρ 28 _ < ρ 47 1; omega) (by show 0 ≤ ρ 29 _ ∧ ρ 29 _ < ρ 47 1; omega) (by omega) q17) (fun v_41 h_41 hv_41 => ?_)
        obtain ⟨r_41, rfl, hv_41⟩ := hv_41
        obtain ⟨rfl, e_41⟩ := hv_41
        rw [e_41]
        refine Z_eq (M := mX0_countAnew) (b := tch τ b i) (wsv_t V' R' W (by omega) P' g3) ?_
        refine J_callV (M := mX0_countAnew) (as := [_]) dX0_countAnew_44 ca_X0_69 ⟨by decide, by decide⟩ (hk_15 (by first | exact rfl | assumption | exact Or.inl (by assumption) | exact Or.inr rfl | (show 0 ≤ _ ∧ _ < _; omega))) rfl (Nat.le_of_ble_eq_true rfl) (k' := k) (n' := n) (Nat.le_refl _) (Nat.le_refl _) (kX5_add V' (e82 _) hx) (fun v_44 h_44 hv_44 => ?_)
        obtain ⟨r_44, rfl, hv_44⟩ := hv_44
        obtain ⟨rfl, e_44⟩ := hv_44
        rw [e_44]
        rw [h24, h25, h26, hst]
        refine Z_iinc (M := mX0_countAnew) dX0_countAnew_47 rfl (by decide) ?_
        refine J_goto (M := mX0_countAnew) (tgt := 13) dX0_countAnew_50 (by decide) ?_
        exact J_sub (ih (i + 1) (by omega)) (And.intro rfl (And.intro rfl (And.intro (vz (by push_cast; omega)) trivial)))

set_option maxRecDepth 100000 in
set_option maxHeartbeats 4000000 in
theorem kX0_countAnew {X : GX} {h : LH} {ρ τ : TS} (W : WF τ) (V : WK ρ) (R : WR ρ τ) {b : Int} (B : BR ρ τ b) : CK X mX0_countAnew [vR (some (13, b)), vR (some (15, 82))] h ρ (fun v r => v = none ∧ r = ts (ts (ts ρ 24 82 (gl3 b)) 25 82 (te τ b).1) 26 82 (te τ b).2.1) := by
  obtain ⟨g1, g2, g3, g4, g5, g6⟩ := id B
  have e15 : CE ρ 15 b := Or.inl g2
  have b10 := wf10 W b
  have b20 := wk20 V b
  refine CT_of (by decide +kernel) rfl (Nat.le_of_ble_eq_true rfl) ?_
  refine J_aload_n (M := mX0_countAnew) dX0_countAnew_0 rfl rfl ?_
  first | refine Z_some (M := mX0_countAnew) (by omega) ?_ | skip
  refine J_aload_n (M := mX0_countAnew) dX0_countAnew_1 rfl rfl ?_
  refine J_getf (M := mX0_countAnew) dX0_countAnew_2 fi_X0_27 (hk_13 (by first | exact rfl | assumption | exact Or.inl (by assumption) | exact Or.inr rfl | (show 0 ≤ _ ∧ _ < _; omega))) rfl ?_
  refine J_getf (M := mX0_countAnew) dX0_countAnew_5 fi_X0_51 (hk_15 (by first | exact rfl | assumption | exact Or.inl (by assumption) | exact Or.inr rfl | (show 0 ≤ _ ∧ _ < _; omega))) rfl ?_
  refine Z_wb (M := mX0_countAnew) (g := ρ 24) (wk24 V) rfl (fun wb_24_5 => ?_)
  refine J_callV (M := mX0_countAnew) (as := [_]) dX0_countAnew_8 ca_X0_41 ⟨by decide, by decide⟩ (hk_15 (by first | exact rfl | assumption | exact Or.inl (by assumption) | exact Or.inr rfl | (show 0 ≤ _ ∧ _ < _; omega))) rfl (Nat.le_of_ble_eq_true rfl) (k' := 0) (n' := 0) (by decide) (by decide) (kX5_restart (Or.inr rfl)) (fun v_8 h_8 hv_8 => ?_)
  obtain ⟨r_8, rfl, hv_8⟩ := hv_8
  obtain ⟨rfl, e_8⟩ := hv_8
  rw [e_8]
  rw [g4]
  refine Z_iconst (M := mX0_countAnew) dX0_countAnew_11 ?_
  refine J_istore_n (M := mX0_countAnew) dX0_countAnew_12 rfl (by decide) ?_
  exact ca_l W V R B (τ 10 b).toNat 0 (by omega)

def pst (ρ : TS) (x b v w : Int) : TS := ts (ts (ts (ts (ts (ts ρ 37 0 x) 38 0 b) 39 0 v) 40 0 w) 41 0 (-1)) 42 0 0
set_option maxRecDepth 100000 in
set_option maxHeartbeats 4000000 in
theorem kX3_take {X : GX} {h : LH} {ρ : TS} {x b v w : Int} {B V U : Option Tg} (eB : B = rfo 13 b) (eV : V = rfo 12 v) (eU : U = rfo 12 w) : CK X mX3_take [vR (some (5, 0)), vI (iI x), vR B, vR V, vR U] h ρ (fun v' r => v' = none ∧ r = pst ρ x b v w) := by
  subst eB
  subst eV
  subst eU
  refine CT_of (by decide +kernel) rfl (Nat.le_of_ble_eq_true rfl) ?_
  refine J_aload_n (M := mX3_take) dX3_take_0 rfl rfl ?_
  refine J_iload_n (M := mX3_take) dX3_take_1 rfl rfl ?_
  refine J_putI (M := mX3_take) dX3_take_2 fi_X3_9 (hk_5 (by first | exact rfl | assumption | exact Or.inl (by assumption) | exact Or.inr rfl | (show 0 ≤ _ ∧ _ < _; omega))) (Nat.le_of_ble_eq_true rfl) ?_
  refine Z_h (M := mX3_take) (hkp_37 (by first | exact rfl | assumption | exact Or.inl (by assumption) | exact Or.inr rfl | (show 0 ≤ _ ∧ _ < _; omega))) ?_
  refine J_aload_n (M := mX3_take) dX3_take_5 rfl rfl ?_
  refine J_aload_n (M := mX3_take) dX3_take_6 rfl rfl ?_
  first | refine Z_some (M := mX3_take) (by omega) ?_ | skip
  first | refine Z_uns (M := mX3_take) (by omega) ?_ | refine Z_unn (M := mX3_take) 13 ?_ | skip
  refine J_putR (M := mX3_take) dX3_take_7 fi_X3_15 rfl (hk_5 (by first | exact rfl | assumption | exact Or.inl (by assumption) | exact Or.inr rfl | (show 0 ≤ _ ∧ _ < _; omega))) (Nat.le_of_ble_eq_true rfl) ?_
  refine Z_h (M := mX3_take) (hkp_38 (by first | exact rfl | assumption | exact Or.inl (by assumption) | exact Or.inr rfl | (show 0 ≤ _ ∧ _ < _; omega))) ?_
  refine J_aload_n (M := mX3_take) dX3_take_10 rfl rfl ?_
  refine J_aload_n (M := mX3_take) dX3_take_11 rfl rfl ?_
  first | refine Z_some (M := mX3_take) (by omega) ?_ | skip
  first | refine Z_uns (M := mX3_take) (by omega) ?_ | refine Z_unn (M := mX3_take) 12 ?_ | skip
  refine J_putR (M := mX3_take) dX3_take_12 fi_X3_19 rfl (hk_5 (by first | exact rfl | assumption | exact Or.inl (by assumption) | exact Or.inr rfl | (show 0 ≤ _ ∧ _ < _; omega))) (Nat.le_of_ble_eq_true rfl) ?_
  refine Z_h (M := mX3_take) (hkp_39 (by first | exact rfl | assumption | exact Or.inl (by assumption) | exact Or.inr rfl | (show 0 ≤ _ ∧ _ < _; omega))) ?_
  refine J_aload_n (M := mX3_take) dX3_take_15 rfl rfl ?_
  refine J_aload (M := mX3_take) dX3_take_16 rfl ?_
  first | refine Z_some (M := mX3_take) (by omega) ?_ | skip
  first | refine Z_uns (M := mX3_take) (by omega) ?_ | refine Z_unn (M := mX3_take) 12 ?_ | skip
  refine J_putR (M := mX3_take) dX3_take_18 fi_X3_23 rfl (hk_5 (by first | exact rfl | assumption | exact Or.inl (by assumption) | exact Or.inr rfl | (show 0 ≤ _ ∧ _ < _; omega))) (Nat.le_of_ble_eq_true rfl) ?_
  refine Z_h (M := mX3_take) (hkp_40 (by first | exact rfl | assumption | exact Or.inl (by assumption) | exact Or.inr rfl | (show 0 ≤ _ ∧ _ < _; omega))) ?_
  refine J_aload_n (M := mX3_take) dX3_take_21 rfl rfl ?_
  refine J_null (M := mX3_take) dX3_take_22 ?_
  first | refine Z_uns (M := mX3_take) (by omega) ?_ | refine Z_unn (M := mX3_take) 16 ?_ | skip
  refine J_putR (M := mX3_take) dX3_take_23 fi_X3_26 rfl (hk_5 (by first | exact rfl | assumption | exact Or.inl (by assumption) | exact Or.inr rfl | (show 0 ≤ _ ∧ _ < _; omega))) (Nat.le_of_ble_eq_true rfl) ?_
  refine Z_h (M := mX3_take) (hkp_41 (by first | exact rfl | assumption | exact Or.inl (by assumption) | exact Or.inr rfl | (show 0 ≤ _ ∧ _ < _; omega))) ?_
  refine J_aload_n (M := mX3_take) dX3_take_26 rfl rfl ?_
  refine Z_iconst (M := mX3_take) dX3_take_27 ?_
  refine J_putZ (M := mX3_take) dX3_take_28 fi_X3_30 (by first | exact pI_zb _ | exact zb_of (Or.inl rfl) | exact zb_of (Or.inr rfl) | exact zb_of (by omega)) (hk_5 (by first | exact rfl | assumption | exact Or.inl (by assumption) | exact Or.inr rfl | (show 0 ≤ _ ∧ _ < _; omega))) (Nat.le_of_ble_eq_true rfl) ?_
  refine Z_h (M := mX3_take) (hkp_42 (by first | exact rfl | assumption | exact Or.inl (by assumption) | exact Or.inr rfl | (show 0 ≤ _ ∧ _ < _; omega))) ?_
  refine K_vret dX3_take_31 rfl ?_
  exact And.intro rfl rfl

set_option maxRecDepth 100000 in
set_option maxHeartbeats 4000000 in
theorem kX3_empty {X : GX} {h : LH} {ρ : TS}  : CK X mX3_empty [vR (some (5, 0))] h ρ (fun v r => v = none ∧ r = pst ρ (-1) (-1) (-1) (-1)) := by
  refine CT_of (by decide +kernel) rfl (Nat.le_of_ble_eq_true rfl) ?_
  refine J_aload_n (M := mX3_empty) dX3_empty_0 rfl rfl ?_
  refine Z_iconst (M := mX3_empty) dX3_empty_1 ?_
  refine J_null (M := mX3_empty) dX3_empty_2 ?_
  refine J_null (M := mX3_empty) dX3_empty_3 ?_
  refine J_null (M := mX3_empty) dX3_empty_4 ?_
  refine J_callV (M := mX3_empty) (as := [_, _, _, _]) dX3_empty_5 ca_X3_34 ⟨by decide, by decide⟩ (hk_5 (by first | exact rfl | assumption | exact Or.inl (by assumption) | exact Or.inr rfl | (show 0 ≤ _ ∧ _ < _; omega))) rfl (Nat.le_of_ble_eq_true rfl) (k' := 0) (n' := 0) (by decide) (by decide) (kX3_take (b := -1) (v := -1) (w := -1) rfl rfl rfl) (fun v_5 h_5 hv_5 => ?_)
  obtain ⟨r_5, rfl, hv_5⟩ := hv_5
  obtain ⟨rfl, e_5⟩ := hv_5
  rw [e_5]
  refine K_vret dX3_empty_8 rfl ?_
  exact And.intro rfl rfl

set_option maxRecDepth 100000 in
set_option maxHeartbeats 4000000 in
theorem kX3_weaponNumber {X : GX} {h : LH} {ρ : TS} (V : WK ρ) {s : Int} (hs : rg s) (h1 : 0 ≤ ρ 39 0 → ρ 39 0 < ρ 47 1) (h2 : 0 ≤ ρ 40 0 → ρ 40 0 < ρ 47 1) : CK X mX3_weaponNumber [vR (some (5, 0)), vI (iI s)] h ρ (fun v r => v = some (vI (iI (if s = 0 then (if ρ 39 0 < 0 then -1 else ρ 13 (ρ 39 0)) else (if ρ 40 0 < 0 then -1 else ρ 13 (ρ 40 0))))) ∧ r = ρ) := by
  refine CT_of (by decide +kernel) rfl (Nat.le_of_ble_eq_true rfl) ?_
  refine J_iload_n (M := mX3_weaponNumber) dX3_weaponNumber_0 rfl rfl ?_
  first
    | refine Z_pt (M := mX3_weaponNumber) (tgt := 11) dX3_weaponNumber_1 (by decide) (fun c_1 => ?_) (fun c_1 => ?_)
    | refine Z_if_ne (M := mX3_weaponNumber) (tgt := 11) (by first | assumption | exact pI_rg _ | (unfold rg; omega)) dX3_weaponNumber_1 (by decide) (fun c_1 => ?_) (fun c_1 => ?_)
  · refine J_aload_n (M := mX3_weaponNumber) dX3_weaponNumber_11 rfl rfl ?_
    refine J_getf (M := mX3_weaponNumber) dX3_weaponNumber_12 fi_X3_23 (hk_5 (by first | exact rfl | assumption | exact Or.inl (by assumption) | exact Or.inr rfl | (show 0 ≤ _ ∧ _ < _; omega))) rfl ?_
    refine Z_rwb (M := mX3_weaponNumber) (g := ρ 40) (wk40 V) rfl (fun wb_40_4 => ?_)
    first | refine Z_some (M := mX3_weaponNumber) (by omega) ?_ | skip
    refine J_astore_n (M := mX3_weaponNumber) dX3_weaponNumber_15 rfl (by decide) ?_
    refine J_aload_n (M := mX3_weaponNumber) dX3_weaponNumber_16 rfl rfl ?_
    first | refine Z_some (M := mX3_weaponNumber) (by omega) ?_ | skip
    first | refine Z_uns (M := mX3_weaponNumber) (by omega) ?_ | skip
    refine K_ifnonnull (tgt := 24) dX3_weaponNumber_17 (by decide) (fun c_17 => ?_) (fun c_17 => ?_)
    · refine J_aload_n (M := mX3_weaponNumber) dX3_weaponNumber_24 rfl rfl ?_
      first | refine Z_some (M := mX3_weaponNumber) (by omega) ?_ | skip
      refine J_getf (M := mX3_weaponNumber) dX3_weaponNumber_25 fi_X3_38 (hk_12 (by first | exact rfl | assumption | exact Or.inl (by assumption) | exact Or.inr rfl | (show 0 ≤ _ ∧ _ < _; omega))) rfl ?_
      refine Z_wb (M := mX3_weaponNumber) (g := ρ 13) (wk13 V) rfl (fun wb_13_13 => ?_)
      refine K_iret dX3_weaponNumber_28 rfl ?_
      first
        | exact And.intro (by rw [if_pos c_1, if_pos (by omega)]) rfl
        | exact And.intro (by rw [if_pos c_1, if_neg (by omega)]) rfl
        | exact And.intro (by rw [if_neg c_1, if_pos (by omega)]) rfl
        | exact And.intro (by rw [if_neg c_1, if_neg (by omega)]) rfl
    · refine Z_iconst (M := mX3_weaponNumber) dX3_weaponNumber_20 ?_
      refine J_goto (M := mX3_weaponNumber) (tgt := 28) dX3_weaponNumber_21 (by decide) ?_
      refine K_iret dX3_weaponNumber_28 rfl ?_
      first
        | exact And.intro (by rw [if_pos c_1, if_pos (by omega)]) rfl
        | exact And.intro (by rw [if_pos c_1, if_neg (by omega)]) rfl
        | exact And.intro (by rw [if_neg c_1, if_pos (by omega)]) rfl
        | exact And.intro (by rw [if_neg c_1, if_neg (by omega)]) rfl
  · refine J_aload_n (M := mX3_weaponNumber) dX3_weaponNumber_4 rfl rfl ?_
    refine J_getf (M := mX3_weaponNumber) dX3_weaponNumber_5 fi_X3_19 (hk_5 (by first | exact rfl | assumption | exact Or.inl (by assumption) | exact Or.inr rfl | (show 0 ≤ _ ∧ _ < _; omega))) rfl ?_
    refine Z_rwb (M := mX3_weaponNumber) (g := ρ 39) (wk39 V) rfl (fun wb_39_22 => ?_)
    first | refine Z_some (M := mX3_weaponNumber) (by omega) ?_ | skip
    refine J_goto (M := mX3_weaponNumber) (tgt := 15) dX3_weaponNumber_8 (by decide) ?_
    refine J_astore_n (M := mX3_weaponNumber) dX3_weaponNumber_15 rfl (by decide) ?_
    refine J_aload_n (M := mX3_weaponNumber) dX3_weaponNumber_16 rfl rfl ?_
    first | refine Z_some (M := mX3_weaponNumber) (by omega) ?_ | skip
    first | refine Z_uns (M := mX3_weaponNumber) (by omega) ?_ | skip
    refine K_ifnonnull (tgt := 24) dX3_weaponNumber_17 (by decide) (fun c_17 => ?_) (fun c_17 => ?_)
    · refine J_aload_n (M := mX3_weaponNumber) dX3_weaponNumber_24 rfl rfl ?_
      first | refine Z_some (M := mX3_weaponNumber) (by omega) ?_ | skip
      refine J_getf (M := mX3_weaponNumber) dX3_weaponNumber_25 fi_X3_38 (hk_12 (by first | exact rfl | assumption | exact Or.inl (by assumption) | exact Or.inr rfl | (show 0 ≤ _ ∧ _ < _; omega))) rfl ?_
      refine Z_wb (M := mX3_weaponNumber) (g := ρ 13) (wk13 V) rfl (fun wb_13_32 => ?_)
      refine K_iret dX3_weaponNumber_28 rfl ?_
      first
        | exact And.intro (by rw [if_pos c_1, if_pos (by omega)]) rfl
        | exact And.intro (by rw [if_pos c_1, if_neg (by omega)]) rfl
        | exact And.intro (by rw [if_neg c_1, if_pos (by omega)]) rfl
        | exact And.intro (by rw [if_neg c_1, if_neg (by omega)]) rfl
    · refine Z_iconst (M := mX3_weaponNumber) dX3_weaponNumber_20 ?_
      refine J_goto (M := mX3_weaponNumber) (tgt := 28) dX3_weaponNumber_21 (by decide) ?_
      refine K_iret dX3_weaponNumber_28 rfl ?_
      first
        | exact And.intro (by rw [if_pos c_1, if_pos (by omega)]) rfl
        | exact And.intro (by rw [if_pos c_1, if_neg (by omega)]) rfl
        | exact And.intro (by rw [if_neg c_1, if_pos (by omega)]) rfl
        | exact And.intro (by rw [if_neg c_1, if_neg (by omega)]) rfl

set_option maxRecDepth 100000 in
set_option maxHeartbeats 4000000 in
theorem kX3_arm {X : GX} {h : LH} {ρ : TS} {s w : Int} (hs : rg s) (hw : 0 ≤ w) : CK X mX3_arm [vR (some (5, 0)), vI (iI s), vR (some (12, w))] h ρ (fun v r => v = none ∧ r = (if s = 0 then ts ρ 39 0 w else ts ρ 40 0 w)) := by
  refine CT_of (by decide +kernel) rfl (Nat.le_of_ble_eq_true rfl) ?_
  refine J_iload_n (M := mX3_arm) dX3_arm_0 rfl rfl ?_
  first
    | refine Z_pt (M := mX3_arm) (tgt := 12) dX3_arm_1 (by decide) (fun c_1 => ?_) (fun c_1 => ?_)
    | refine Z_if_ne (M := mX3_arm) (tgt := 12) (by first | assumption | exact pI_rg _ | (unfold rg; omega)) dX3_arm_1 (by decide) (fun c_1 => ?_) (fun c_1 => ?_)
  · refine J_aload_n (M := mX3_arm) dX3_arm_12 rfl rfl ?_
    refine J_aload_n (M := mX3_arm) dX3_arm_13 rfl rfl ?_
    first | refine Z_some (M := mX3_arm) (by omega) ?_ | skip
    first | refine Z_uns (M := mX3_arm) (by omega) ?_ | refine Z_unn (M := mX3_arm) 12 ?_ | skip
    refine J_putR (M := mX3_arm) dX3_arm_14 fi_X3_23 rfl (hk_5 (by first | exact rfl | assumption | exact Or.inl (by assumption) | exact Or.inr rfl | (show 0 ≤ _ ∧ _ < _; omega))) (Nat.le_of_ble_eq_true rfl) ?_
    refine Z_h (M := mX3_arm) (hkp_40 (by first | exact rfl | assumption | exact Or.inl (by assumption) | exact Or.inr rfl | (show 0 ≤ _ ∧ _ < _; omega))) ?_
    refine K_vret dX3_arm_17 rfl ?_
    first
      | exact And.intro rfl (if_pos (by omega)).symm
      | exact And.intro rfl (if_neg (by omega)).symm
  · refine J_aload_n (M := mX3_arm) dX3_arm_4 rfl rfl ?_
    refine J_aload_n (M := mX3_arm) dX3_arm_5 rfl rfl ?_
    first | refine Z_some (M := mX3_arm) (by omega) ?_ | skip
    first | refine Z_uns (M := mX3_arm) (by omega) ?_ | refine Z_unn (M := mX3_arm) 12 ?_ | skip
    refine J_putR (M := mX3_arm) dX3_arm_6 fi_X3_19 rfl (hk_5 (by first | exact rfl | assumption | exact Or.inl (by assumption) | exact Or.inr rfl | (show 0 ≤ _ ∧ _ < _; omega))) (Nat.le_of_ble_eq_true rfl) ?_
    refine Z_h (M := mX3_arm) (hkp_39 (by first | exact rfl | assumption | exact Or.inl (by assumption) | exact Or.inr rfl | (show 0 ≤ _ ∧ _ < _; omega))) ?_
    refine J_goto (M := mX3_arm) (tgt := 17) dX3_arm_9 (by decide) ?_
    refine K_vret dX3_arm_17 rfl ?_
    first
      | exact And.intro rfl (if_pos (by omega)).symm
      | exact And.intro rfl (if_neg (by omega)).symm

set_option maxRecDepth 100000 in
set_option maxHeartbeats 4000000 in
theorem kX4_isDrawn {X : GX} {h : LH} {ρ : TS} (V : WK ρ) : CK X mX4_isDrawn [vR (some (6, 0))] h ρ (fun v r => v = some (vI (iI (pI (0 < ρ 43 0)))) ∧ r = ρ) := by
  refine CT_of (by decide +kernel) rfl (Nat.le_of_ble_eq_true rfl) ?_
  refine J_aload_n (M := mX4_isDrawn) dX4_isDrawn_0 rfl rfl ?_
  refine J_getf (M := mX4_isDrawn) dX4_isDrawn_1 fi_X4_24 (hk_6 (by first | exact rfl | assumption | exact Or.inl (by assumption) | exact Or.inr rfl | (show 0 ≤ _ ∧ _ < _; omega))) rfl ?_
  refine Z_wb (M := mX4_isDrawn) (g := ρ 43) (wk43 V) rfl (fun wb_43_2 => ?_)
  refine Z_if_le (M := mX4_isDrawn) (tgt := 11) (by first | assumption | exact pI_rg _ | (unfold rg; omega)) dX4_isDrawn_4 (by decide) (fun c_4 => ?_) (fun c_4 => ?_)
  · refine Z_iconst (M := mX4_isDrawn) dX4_isDrawn_11 ?_
    refine K_zret dX4_isDrawn_12 rfl (by first | exact pI_01 _ | exact Or.inl rfl | exact Or.inr rfl | omega) ?_
    exact And.intro (r0 (by omega)) rfl
  · refine Z_iconst (M := mX4_isDrawn) dX4_isDrawn_7 ?_
    refine J_goto (M := mX4_isDrawn) (tgt := 12) dX4_isDrawn_8 (by decide) ?_
    refine K_zret dX4_isDrawn_12 rfl (by first | exact pI_01 _ | exact Or.inl rfl | exact Or.inr rfl | omega) ?_
    exact And.intro (r1 (by omega)) rfl

set_option maxRecDepth 100000 in
set_option maxHeartbeats 4000000 in
theorem kX4_hasNode {X : GX} {h : LH} {ρ : TS} (V : WK ρ) {n : Int} (hn : rg n) : CK X mX4_hasNode [vR (some (6, 0)), vI (iI n)] h ρ (fun v r => v = some (vI (iI (pI (1 ≤ n ∧ n < 2 * ρ 43 0)))) ∧ r = ρ) := by
  have b43 := wk43 V 0
  refine CT_of (by decide +kernel) rfl (Nat.le_of_ble_eq_true rfl) ?_
  refine J_iload_n (M := mX4_hasNode) dX4_hasNode_0 rfl rfl ?_
  refine Z_iconst (M := mX4_hasNode) dX4_hasNode_1 ?_
  refine Z_ic_lt (M := mX4_hasNode) (tgt := 25) (by first | assumption | exact pI_rg _ | (unfold rg; omega)) (by first | assumption | exact pI_rg _ | (unfold rg; omega)) dX4_hasNode_2 (by decide) (fun c_2 => ?_) (fun c_2 => ?_)
  · refine Z_iconst (M := mX4_hasNode) dX4_hasNode_25 ?_
    refine K_zret dX4_hasNode_26 rfl (by first | exact pI_01 _ | exact Or.inl rfl | exact Or.inr rfl | omega) ?_
    exact And.intro (r0 (by omega)) rfl
  · refine J_iload_n (M := mX4_hasNode) dX4_hasNode_5 rfl rfl ?_
    refine Z_iconst (M := mX4_hasNode) dX4_hasNode_6 ?_
    refine J_aload_n (M := mX4_hasNode) dX4_hasNode_7 rfl rfl ?_
    refine J_getf (M := mX4_hasNode) dX4_hasNode_8 fi_X4_24 (hk_6 (by first | exact rfl | assumption | exact Or.inl (by assumption) | exact Or.inr rfl | (show 0 ≤ _ ∧ _ < _; omega))) rfl ?_
    refine Z_wb (M := mX4_hasNode) (g := ρ 43) (wk43 V) rfl (fun wb_43_10 => ?_)
    refine Z_imul (M := mX4_hasNode) dX4_hasNode_11 ?_
    refine Z_ic_ge (M := mX4_hasNode) (tgt := 25) (by first | assumption | exact pI_rg _ | (unfold rg; omega)) (by first | assumption | exact pI_rg _ | (unfold rg; omega)) dX4_hasNode_12 (by decide) (fun c_12 => ?_) (fun c_12 => ?_)
    · refine Z_iconst (M := mX4_hasNode) dX4_hasNode_25 ?_
      refine K_zret dX4_hasNode_26 rfl (by first | exact pI_01 _ | exact Or.inl rfl | exact Or.inr rfl | omega) ?_
      exact And.intro (r0 (by omega)) rfl
    · refine J_iload_n (M := mX4_hasNode) dX4_hasNode_15 rfl rfl ?_
      refine Z_bipush (M := mX4_hasNode) dX4_hasNode_16 rfl ?_
      refine Z_ic_ge (M := mX4_hasNode) (tgt := 25) (by first | assumption | exact pI_rg _ | (unfold rg; omega)) (by first | assumption | exact pI_rg _ | (unfold rg; omega)) dX4_hasNode_18 (by decide) (fun c_18 => ?_) (fun c_18 => ?_)
      · refine Z_iconst (M := mX4_hasNode) dX4_hasNode_25 ?_
        refine K_zret dX4_hasNode_26 rfl (by first | exact pI_01 _ | exact Or.inl rfl | exact Or.inr rfl | omega) ?_
        exact And.intro (r0 (by omega)) rfl
      · refine Z_iconst (M := mX4_hasNode) dX4_hasNode_21 ?_
        refine J_goto (M := mX4_hasNode) (tgt := 26) dX4_hasNode_22 (by decide) ?_
        refine K_zret dX4_hasNode_26 rfl (by first | exact pI_01 _ | exact Or.inl rfl | exact Or.inr rfl | omega) ?_
        exact And.intro (r1 (by omega)) rfl

set_option maxRecDepth 100000 in
set_option maxHeartbeats 4000000 in
theorem kX4_winnerAt {X : GX} {h : LH} {ρ : TS} (V : WK ρ) {n : Int} (hn : rg n) : CK X mX4_winnerAt [vR (some (6, 0)), vI (iI n)] h ρ (fun v r => v = some (vI (iI (if 1 ≤ n ∧ n < 2 * ρ 43 0 then ρ 46 n else -1))) ∧ r = ρ) := by
  have b43 := wk43 V 0
  refine CT_of (by decide +kernel) rfl (Nat.le_of_ble_eq_true rfl) ?_
  refine J_aload_n (M := mX4_winnerAt) dX4_winnerAt_0 rfl rfl ?_
  refine J_iload_n (M := mX4_winnerAt) dX4_winnerAt_1 rfl rfl ?_
  refine J_callV (M := mX4_winnerAt) (as := [_]) dX4_winnerAt_2 ca_X4_28 ⟨by decide, by decide⟩ (hk_6 (by first | exact rfl | assumption | exact Or.inl (by assumption) | exact Or.inr rfl | (show 0 ≤ _ ∧ _ < _; omega))) rfl (Nat.le_of_ble_eq_true rfl) (k' := 0) (n' := 0) (by decide) (by decide) (kX4_hasNode V hn) (fun v_2 h_2 hv_2 => ?_)
  obtain ⟨r_2, rfl, hv_2⟩ := hv_2
  obtain ⟨rfl, e_2⟩ := hv_2
  rw [e_2]
  first
    | refine Z_pf (M := mX4_winnerAt) (tgt := 17) dX4_winnerAt_5 (by decide) (fun c_5 => ?_) (fun c_5 => ?_)
    | refine Z_if_eq (M := mX4_winnerAt) (tgt := 17) (by first | assumption | exact pI_rg _ | (unfold rg; omega)) dX4_winnerAt_5 (by decide) (fun c_5 => ?_) (fun c_5 => ?_)
  · refine Z_iconst (M := mX4_winnerAt) dX4_winnerAt_17 ?_
    refine K_iret dX4_winnerAt_18 rfl ?_
    first
      | exact And.intro (by rw [if_pos (by omega)]) rfl
      | exact And.intro (by rw [if_neg (by omega)]) rfl
  · refine J_aload_n (M := mX4_winnerAt) dX4_winnerAt_8 rfl rfl ?_
    refine J_getf (M := mX4_winnerAt) dX4_winnerAt_9 fi_X4_15 (hk_6 (by first | exact rfl | assumption | exact Or.inl (by assumption) | exact Or.inr rfl | (show 0 ≤ _ ∧ _ < _; omega))) rfl ?_
    refine J_iload_n (M := mX4_winnerAt) dX4_winnerAt_12 rfl rfl ?_
    refine Z_iald (M := mX4_winnerAt) dX4_winnerAt_13 (hk_8 (by first | exact rfl | assumption | exact Or.inl (by assumption) | exact Or.inr rfl | (show 0 ≤ _ ∧ _ < _; omega))) (by decide) (by omega) (by omega) ?_
    refine Z_eq (M := mX4_winnerAt) (sub_at ⟨by omega, by omega⟩) ?_
    refine Z_wb (M := mX4_winnerAt) (g := ρ 46) (wk46 V) (congrArg (ρ 46) (z0 _ _)) (fun wb_46_14 => ?_)
    refine J_goto (M := mX4_winnerAt) (tgt := 18) dX4_winnerAt_14 (by decide) ?_
    refine K_iret dX4_winnerAt_18 rfl ?_
    first
      | exact And.intro (by rw [if_pos (by omega)]) rfl
      | exact And.intro (by rw [if_neg (by omega)]) rfl

set_option maxRecDepth 100000 in
set_option maxHeartbeats 4000000 in
theorem kX4_boutAt {X : GX} {h : LH} {ρ : TS} (V : WK ρ) {n : Int} (hn : rg n) : CK X mX4_boutAt [vR (some (6, 0)), vI (iI n)] h ρ (fun v r => v = some (vR (rfo 13 (if 1 ≤ n ∧ n < ρ 43 0 then ρ 7 n else -1))) ∧ r = ρ) := by
  have b43 := wk43 V 0
  refine CT_of (by decide +kernel) rfl (Nat.le_of_ble_eq_true rfl) ?_
  refine J_iload_n (M := mX4_boutAt) dX4_boutAt_0 rfl rfl ?_
  refine Z_iconst (M := mX4_boutAt) dX4_boutAt_1 ?_
  refine Z_ic_lt (M := mX4_boutAt) (tgt := 28) (by first | assumption | exact pI_rg _ | (unfold rg; omega)) (by first | assumption | exact pI_rg _ | (unfold rg; omega)) dX4_boutAt_2 (by decide) (fun c_2 => ?_) (fun c_2 => ?_)
  · refine J_null (M := mX4_boutAt) dX4_boutAt_28 ?_
    first | refine Z_uns (M := mX4_boutAt) (by omega) ?_ | refine Z_unn (M := mX4_boutAt) 13 ?_ | skip
    refine J_aret (M := mX4_boutAt) dX4_boutAt_29 rfl (QK_ok ?_)
    first
      | (exfalso; omega)
      | exact And.intro (by rw [if_pos (by omega)]) rfl
      | exact And.intro (by rw [if_neg (by omega)]) rfl
  · refine J_iload_n (M := mX4_boutAt) dX4_boutAt_5 rfl rfl ?_
    refine J_aload_n (M := mX4_boutAt) dX4_boutAt_6 rfl rfl ?_
    refine J_getf (M := mX4_boutAt) dX4_boutAt_7 fi_X4_24 (hk_6 (by first | exact rfl | assumption | exact Or.inl (by assumption) | exact Or.inr rfl | (show 0 ≤ _ ∧ _ < _; omega))) rfl ?_
    refine Z_wb (M := mX4_boutAt) (g := ρ 43) (wk43 V) rfl (fun wb_43_9 => ?_)
    refine Z_ic_ge (M := mX4_boutAt) (tgt := 28) (by first | assumption | exact pI_rg _ | (unfold rg; omega)) (by first | assumption | exact pI_rg _ | (unfold rg; omega)) dX4_boutAt_10 (by decide) (fun c_10 => ?_) (fun c_10 => ?_)
    · refine J_null (M := mX4_boutAt) dX4_boutAt_28 ?_
      first | refine Z_uns (M := mX4_boutAt) (by omega) ?_ | refine Z_unn (M := mX4_boutAt) 13 ?_ | skip
      refine J_aret (M := mX4_boutAt) dX4_boutAt_29 rfl (QK_ok ?_)
      first
        | (exfalso; omega)
        | exact And.intro (by rw [if_pos (by omega)]) rfl
        | exact And.intro (by rw [if_neg (by omega)]) rfl
    · refine J_iload_n (M := mX4_boutAt) dX4_boutAt_13 rfl rfl ?_
      refine Z_bipush (M := mX4_boutAt) dX4_boutAt_14 rfl ?_
      refine Z_ic_ge (M := mX4_boutAt) (tgt := 28) (by first | assumption | exact pI_rg _ | (unfold rg; omega)) (by first | assumption | exact pI_rg _ | (unfold rg; omega)) dX4_boutAt_16 (by decide) (fun c_16 => ?_) (fun c_16 => ?_)
      · refine J_null (M := mX4_boutAt) dX4_boutAt_28 ?_
        first | refine Z_uns (M := mX4_boutAt) (by omega) ?_ | refine Z_unn (M := mX4_boutAt) 13 ?_ | skip
        refine J_aret (M := mX4_boutAt) dX4_boutAt_29 rfl (QK_ok ?_)
        first
          | (exfalso; omega)
          | exact And.intro (by rw [if_pos (by omega)]) rfl
          | exact And.intro (by rw [if_neg (by omega)]) rfl
      · refine J_aload_n (M := mX4_boutAt) dX4_boutAt_19 rfl rfl ?_
        refine J_getf (M := mX4_boutAt) dX4_boutAt_20 fi_X4_20 (hk_6 (by first | exact rfl | assumption | exact Or.inl (by assumption) | exact Or.inr rfl | (show 0 ≤ _ ∧ _ < _; omega))) rfl ?_
        refine J_iload_n (M := mX4_boutAt) dX4_boutAt_23 rfl rfl ?_
        refine Z_aald (M := mX4_boutAt) dX4_boutAt_24 (by decide) rfl (hk_9 (by first | exact rfl | assumption | exact Or.inl (by assumption) | exact Or.inr rfl | (show 0 ≤ _ ∧ _ < _; omega))) (by decide) (by omega) (by omega) ?_
        refine Z_req (M := mX4_boutAt) (rar_at (by omega)) ?_
        refine Z_rfe (M := mX4_boutAt) (sub_at ⟨by omega, by omega⟩) ?_
        refine Z_rwb (M := mX4_boutAt) (g := ρ 7) (wk7 V) (congrArg (ρ 7) (z0 _ _)) (fun wb_7_25 => ?_)
        first | refine Z_some (M := mX4_boutAt) (by omega) ?_ | skip
        refine J_goto (M := mX4_boutAt) (tgt := 29) dX4_boutAt_25 (by decide) ?_
        first | refine Z_uns (M := mX4_boutAt) (by omega) ?_ | refine Z_unn (M := mX4_boutAt) 13 ?_ | skip
        refine J_aret (M := mX4_boutAt) dX4_boutAt_29 rfl (QK_ok ?_)
        first
          | (exfalso; omega)
          | exact And.intro (by rw [if_pos (by omega)]) rfl
          | exact And.intro (by rw [if_neg (by omega)]) rfl

def wnv (ρ τ : TS) (n b : Int) : Int := if ρ 43 0 ≤ 2 * n ∧ ρ 18 b = -1 then ρ 19 b else if ρ 43 0 ≤ 2 * n ∧ ρ 19 b = -1 then ρ 18 b else wfn ρ τ b
set_option maxRecDepth 100000 in
set_option maxHeartbeats 4000000 in
theorem kX4_winnerNow {X : GX} {h : LH} {ρ τ : TS} (V : WK ρ) (W : WF τ) {n b : Int} (hn : 0 ≤ n ∧ n ≤ 100) (e : CE ρ 13 b) (h24 : ρ 24 b = gl3 b) (h20 : ρ 20 b = τ 10 b) (T : TL ρ τ b) : CK X mX4_winnerNow [vR (some (6, 0)), vI (iI n), vR (some (13, b))] h ρ (fun v r => v = some (vI (iI (wnv ρ τ n b))) ∧ r = ρ) := by
  have b43 := wk43 V 0
  have b18 := wk18 V b
  have b19 := wk19 V b
  refine CT_of (by decide +kernel) rfl (Nat.le_of_ble_eq_true rfl) ?_
  refine Z_bj (M := mX4_winnerNow) (pcB := 15) (ρ 43 0 ≤ 2 * n) (fun hj_15 => ?_) ?_
  · refine Z_iconst (M := mX4_winnerNow) dX4_winnerNow_0 ?_
    refine J_iload_n (M := mX4_winnerNow) dX4_winnerNow_1 rfl rfl ?_
    refine Z_imul (M := mX4_winnerNow) dX4_winnerNow_2 ?_
    refine J_aload_n (M := mX4_winnerNow) dX4_winnerNow_3 rfl rfl ?_
    refine J_getf (M := mX4_winnerNow) dX4_winnerNow_4 fi_X4_24 (hk_6 (by first | exact rfl | assumption | exact Or.inl (by assumption) | exact Or.inr rfl | (show 0 ≤ _ ∧ _ < _; omega))) rfl ?_
    refine Z_wb (M := mX4_winnerNow) (g := ρ 43) (wk43 V) rfl (fun wb_43_5 => ?_)
    refine Z_ic_lt (M := mX4_winnerNow) (tgt := 14) (by first | assumption | exact pI_rg _ | (unfold rg; omega)) (by first | assumption | exact pI_rg _ | (unfold rg; omega)) dX4_winnerNow_7 (by decide) (fun c_7 => ?_) (fun c_7 => ?_)
    · refine Z_iconst (M := mX4_winnerNow) dX4_winnerNow_14 ?_
      exact hj_15 _ (pI_f (by omega)).symm
    · refine Z_iconst (M := mX4_winnerNow) dX4_winnerNow_10 ?_
      refine J_goto (M := mX4_winnerNow) (tgt := 15) dX4_winnerNow_11 (by decide) ?_
      exact hj_15 _ (pI_t (by omega)).symm
  refine J_istore_n (M := mX4_winnerNow) dX4_winnerNow_15 rfl (by decide) ?_
  refine J_iload_n (M := mX4_winnerNow) dX4_winnerNow_16 rfl rfl ?_
  first
    | refine Z_pf (M := mX4_winnerNow) (tgt := 33) dX4_winnerNow_17 (by decide) (fun c_17 => ?_) (fun c_17 => ?_)
    | refine Z_if_eq (M := mX4_winnerNow) (tgt := 33) (by first | assumption | exact pI_rg _ | (unfold rg; omega)) dX4_winnerNow_17 (by decide) (fun c_17 => ?_) (fun c_17 => ?_)
  · refine J_iload_n (M := mX4_winnerNow) dX4_winnerNow_33 rfl rfl ?_
    first
      | refine Z_pf (M := mX4_winnerNow) (tgt := 50) dX4_winnerNow_34 (by decide) (fun c_34 => ?_) (fun c_34 => ?_)
      | refine Z_if_eq (M := mX4_winnerNow) (tgt := 50) (by first | assumption | exact pI_rg _ | (unfold rg; omega)) dX4_winnerNow_34 (by decide) (fun c_34 => ?_) (fun c_34 => ?_)
    · refine J_aload_n (M := mX4_winnerNow) dX4_winnerNow_50 rfl rfl ?_
      first | refine Z_some (M := mX4_winnerNow) (by omega) ?_ | skip
      refine J_callV (M := mX4_winnerNow) (as := []) dX4_winnerNow_51 ca_X4_63 ⟨by decide, by decide⟩ (hk_13 (by first | exact rfl | assumption | exact Or.inl (by assumption) | exact Or.inr rfl | (show 0 ≤ _ ∧ _ < _; omega))) rfl (Nat.le_of_ble_eq_true rfl) (k' := 0) (n' := 0) (by decide) (by decide) (kX0_winningFencer V W e h24 h20 T) (fun v_51 h_51 hv_51 => ?_)
      obtain ⟨r_51, rfl, hv_51⟩ := hv_51
      obtain ⟨rfl, e_51⟩ := hv_51
      rw [e_51]
      refine K_iret dX4_winnerNow_54 rfl ?_
      exact And.intro (by
        unfold wnv
        first
          | (exfalso; omega)
          | (rw [if_pos (by omega)]; done)
          | (rw [if_neg (by omega), if_pos (by omega)]; done)
          | (rw [if_neg (by omega), if_neg (by omega)]; done)) rfl
    · refine J_aload_n (M := mX4_winnerNow) dX4_winnerNow_37 rfl rfl ?_
      first | refine Z_some (M := mX4_winnerNow) (by omega) ?_ | skip
      refine J_getf (M := mX4_winnerNow) dX4_winnerNow_38 fi_X4_52 (hk_13 (by first | exact rfl | assumption | exact Or.inl (by assumption) | exact Or.inr rfl | (show 0 ≤ _ ∧ _ < _; omega))) rfl ?_
      refine Z_wb (M := mX4_winnerNow) (g := ρ 19) (wk19 V) rfl (fun wb_19_16 => ?_)
      refine Z_iconst (M := mX4_winnerNow) dX4_winnerNow_41 ?_
      refine Z_ic_ne (M := mX4_winnerNow) (tgt := 50) (by first | assumption | exact pI_rg _ | (unfold rg; omega)) (by first | assumption | exact pI_rg _ | (unfold rg; omega)) dX4_winnerNow_42 (by decide) (fun c_42 => ?_) (fun c_42 => ?_)
      · refine J_aload_n (M := mX4_winnerNow) dX4_winnerNow_50 rfl rfl ?_
        first | refine Z_some (M := mX4_winnerNow) (by omega) ?_ | skip
        refine J_callV (M := mX4_winnerNow) (as := []) dX4_winnerNow_51 ca_X4_63 ⟨by decide, by decide⟩ (hk_13 (by first | exact rfl | assumption | exact Or.inl (by assumption) | exact Or.inr rfl | (show 0 ≤ _ ∧ _ < _; omega))) rfl (Nat.le_of_ble_eq_true rfl) (k' := 0) (n' := 0) (by decide) (by decide) (kX0_winningFencer V W e h24 h20 T) (fun v_51 h_51 hv_51 => ?_)
        obtain ⟨r_51, rfl, hv_51⟩ := hv_51
        obtain ⟨rfl, e_51⟩ := hv_51
        rw [e_51]
        refine K_iret dX4_winnerNow_54 rfl ?_
        exact And.intro (by
          unfold wnv
          first
            | (exfalso; omega)
            | (rw [if_pos (by omega)]; done)
            | (rw [if_neg (by omega), if_pos (by omega)]; done)
            | (rw [if_neg (by omega), if_neg (by omega)]; done)) rfl
      · refine J_aload_n (M := mX4_winnerNow) dX4_winnerNow_45 rfl rfl ?_
        first | refine Z_some (M := mX4_winnerNow) (by omega) ?_ | skip
        refine J_getf (M := mX4_winnerNow) dX4_winnerNow_46 fi_X4_49 (hk_13 (by first | exact rfl | assumption | exact Or.inl (by assumption) | exact Or.inr rfl | (show 0 ≤ _ ∧ _ < _; omega))) rfl ?_
        refine Z_wb (M := mX4_winnerNow) (g := ρ 18) (wk18 V) rfl (fun wb_18_29 => ?_)
        refine K_iret dX4_winnerNow_49 rfl ?_
        exact And.intro (by
          unfold wnv
          first
            | (exfalso; omega)
            | (rw [if_pos (by omega)]; done)
            | (rw [if_neg (by omega), if_pos (by omega)]; done)
            | (rw [if_neg (by omega), if_neg (by omega)]; done)) rfl
  · refine J_aload_n (M := mX4_winnerNow) dX4_winnerNow_20 rfl rfl ?_
    first | refine Z_some (M := mX4_winnerNow) (by omega) ?_ | skip
    refine J_getf (M := mX4_winnerNow) dX4_winnerNow_21 fi_X4_49 (hk_13 (by first | exact rfl | assumption | exact Or.inl (by assumption) | exact Or.inr rfl | (show 0 ≤ _ ∧ _ < _; omega))) rfl ?_
    refine Z_wb (M := mX4_winnerNow) (g := ρ 18) (wk18 V) rfl (fun wb_18_35 => ?_)
    refine Z_iconst (M := mX4_winnerNow) dX4_winnerNow_24 ?_
    refine Z_ic_ne (M := mX4_winnerNow) (tgt := 33) (by first | assumption | exact pI_rg _ | (unfold rg; omega)) (by first | assumption | exact pI_rg _ | (unfold rg; omega)) dX4_winnerNow_25 (by decide) (fun c_25 => ?_) (fun c_25 => ?_)
    · refine J_iload_n (M := mX4_winnerNow) dX4_winnerNow_33 rfl rfl ?_
      first
        | refine Z_pf (M := mX4_winnerNow) (tgt := 50) dX4_winnerNow_34 (by decide) (fun c_34 => ?_) (fun c_34 => ?_)
        | refine Z_if_eq (M := mX4_winnerNow) (tgt := 50) (by first | assumption | exact pI_rg _ | (unfold rg; omega)) dX4_winnerNow_34 (by decide) (fun c_34 => ?_) (fun c_34 => ?_)
      · refine J_aload_n (M := mX4_winnerNow) dX4_winnerNow_50 rfl rfl ?_
        first | refine Z_some (M := mX4_winnerNow) (by omega) ?_ | skip
        refine J_callV (M := mX4_winnerNow) (as := []) dX4_winnerNow_51 ca_X4_63 ⟨by decide, by decide⟩ (hk_13 (by first | exact rfl | assumption | exact Or.inl (by assumption) | exact Or.inr rfl | (show 0 ≤ _ ∧ _ < _; omega))) rfl (Nat.le_of_ble_eq_true rfl) (k' := 0) (n' := 0) (by decide) (by decide) (kX0_winningFencer V W e h24 h20 T) (fun v_51 h_51 hv_51 => ?_)
        obtain ⟨r_51, rfl, hv_51⟩ := hv_51
        obtain ⟨rfl, e_51⟩ := hv_51
        rw [e_51]
        refine K_iret dX4_winnerNow_54 rfl ?_
        exact And.intro (by
          unfold wnv
          first
            | (exfalso; omega)
            | (rw [if_pos (by omega)]; done)
            | (rw [if_neg (by omega), if_pos (by omega)]; done)
            | (rw [if_neg (by omega), if_neg (by omega)]; done)) rfl
      · refine J_aload_n (M := mX4_winnerNow) dX4_winnerNow_37 rfl rfl ?_
        first | refine Z_some (M := mX4_winnerNow) (by omega) ?_ | skip
        refine J_getf (M := mX4_winnerNow) dX4_winnerNow_38 fi_X4_52 (hk_13 (by first | exact rfl | assumption | exact Or.inl (by assumption) | exact Or.inr rfl | (show 0 ≤ _ ∧ _ < _; omega))) rfl ?_
        refine Z_wb (M := mX4_winnerNow) (g := ρ 19) (wk19 V) rfl (fun wb_19_50 => ?_)
        refine Z_iconst (M := mX4_winnerNow) dX4_winnerNow_41 ?_
        refine Z_ic_ne (M := mX4_winnerNow) (tgt := 50) (by first | assumption | exact pI_rg _ | (unfold rg; omega)) (by first | assumption | exact pI_rg _ | (unfold rg; omega)) dX4_winnerNow_42 (by decide) (fun c_42 => ?_) (fun c_42 => ?_)
        · refine J_aload_n (M := mX4_winnerNow) dX4_winnerNow_50 rfl rfl ?_
          first | refine Z_some (M := mX4_winnerNow) (by omega) ?_ | skip
          refine J_callV (M := mX4_winnerNow) (as := []) dX4_winnerNow_51 ca_X4_63 ⟨by decide, by decide⟩ (hk_13 (by first | exact rfl | assumption | exact Or.inl (by assumption) | exact Or.inr rfl | (show 0 ≤ _ ∧ _ < _; omega))) rfl (Nat.le_of_ble_eq_true rfl) (k' := 0) (n' := 0) (by decide) (by decide) (kX0_winningFencer V W e h24 h20 T) (fun v_51 h_51 hv_51 => ?_)
          obtain ⟨r_51, rfl, hv_51⟩ := hv_51
          obtain ⟨rfl, e_51⟩ := hv_51
          rw [e_51]
          refine K_iret dX4_winnerNow_54 rfl ?_
          exact And.intro (by
            unfold wnv
            first
              | (exfalso; omega)
              | (rw [if_pos (by omega)]; done)
              | (rw [if_neg (by omega), if_pos (by omega)]; done)
              | (rw [if_neg (by omega), if_neg (by omega)]; done)) rfl
        · refine J_aload_n (M := mX4_winnerNow) dX4_winnerNow_45 rfl rfl ?_
          first | refine Z_some (M := mX4_winnerNow) (by omega) ?_ | skip
          refine J_getf (M := mX4_winnerNow) dX4_winnerNow_46 fi_X4_49 (hk_13 (by first | exact rfl | assumption | exact Or.inl (by assumption) | exact Or.inr rfl | (show 0 ≤ _ ∧ _ < _; omega))) rfl ?_
          refine Z_wb (M := mX4_winnerNow) (g := ρ 18) (wk18 V) rfl (fun wb_18_63 => ?_)
          refine K_iret dX4_winnerNow_49 rfl ?_
          exact And.intro (by
            unfold wnv
            first
              | (exfalso; omega)
              | (rw [if_pos (by omega)]; done)
              | (rw [if_neg (by omega), if_pos (by omega)]; done)
              | (rw [if_neg (by omega), if_neg (by omega)]; done)) rfl
    · refine J_aload_n (M := mX4_winnerNow) dX4_winnerNow_28 rfl rfl ?_
      first | refine Z_some (M := mX4_winnerNow) (by omega) ?_ | skip
      refine J_getf (M := mX4_winnerNow) dX4_winnerNow_29 fi_X4_52 (hk_13 (by first | exact rfl | assumption | exact Or.inl (by assumption) | exact Or.inr rfl | (show 0 ≤ _ ∧ _ < _; omega))) rfl ?_
      refine Z_wb (M := mX4_winnerNow) (g := ρ 19) (wk19 V) rfl (fun wb_19_69 => ?_)
      refine K_iret dX4_winnerNow_32 rfl ?_
      exact And.intro (by
        unfold wnv
        first
          | (exfalso; omega)
          | (rw [if_pos (by omega)]; done)
          | (rw [if_neg (by omega), if_pos (by omega)]; done)
          | (rw [if_neg (by omega), if_neg (by omega)]; done)) rfl

def drp (ρ : TS) (b : Int) : TS :=
  let u := fgt (ts ρ 44 0 (ρ 44 0 + (if 0 < ρ 20 b then 1 else 0))) b
  if ρ 38 0 = b then pst u (-1) (-1) (-1) (-1) else u
set_option maxRecDepth 100000 in
set_option maxHeartbeats 4000000 in
theorem kX4_drop {X : GX} {h : LH} {ρ : TS} (V : WK ρ) {b : Int} (hb : 0 ≤ b) (e : CE ρ 13 b) : CK X mX4_drop [vR (some (6, 0)), vR (some (13, b)), vR (some (5, 0))] h ρ (fun v r => v = none ∧ r = drp ρ b) := by
  have b20 := wk20 V b
  have V4 : ∀ x : Int, WK (ts ρ 44 0 x) := fun x => WK_44 V
  have ez : ts ρ 44 0 (ρ 44 0 + 0) = ρ := by rw [Int.add_zero]; exact ts_id
  refine CT_of (by decide +kernel) rfl (Nat.le_of_ble_eq_true rfl) ?_
  refine J_aload_n (M := mX4_drop) dX4_drop_0 rfl rfl ?_
  first | refine Z_some (M := mX4_drop) (by omega) ?_ | skip
  first | refine Z_uns (M := mX4_drop) (by omega) ?_ | skip
  refine K_ifnonnull (tgt := 5) dX4_drop_1 (by decide) (fun c_1 => ?_) (fun c_1 => ?_)
  · refine J_aload_n (M := mX4_drop) dX4_drop_5 rfl rfl ?_
    first | refine Z_some (M := mX4_drop) (by omega) ?_ | skip
    refine J_getf (M := mX4_drop) dX4_drop_6 fi_X4_67 (hk_13 (by first | exact rfl | assumption | exact Or.inl (by assumption) | exact Or.inr rfl | (show 0 ≤ _ ∧ _ < _; omega))) rfl ?_
    refine Z_wb (M := mX4_drop) (g := ρ 20) (wk20 V) rfl (fun wb_20_6 => ?_)
    refine Z_if_le (M := mX4_drop) (tgt := 22) (by first | assumption | exact pI_rg _ | (unfold rg; omega)) dX4_drop_9 (by decide) (fun c_9 => ?_) (fun c_9 => ?_)
    · refine J_aload_n (M := mX4_drop) dX4_drop_22 rfl rfl ?_
      first | refine Z_some (M := mX4_drop) (by omega) ?_ | skip
      refine J_callV (M := mX4_drop) (as := []) dX4_drop_23 ca_X4_73 ⟨by decide, by decide⟩ (hk_13 (by first | exact rfl | assumption | exact Or.inl (by assumption) | exact Or.inr rfl | (show 0 ≤ _ ∧ _ < _; omega))) rfl (Nat.le_of_ble_eq_true rfl) (k' := 0) (n' := 0) (by decide) (by decide) (by first | exact kX0_forget (V4 _) e | exact kX0_forget V e) (fun v_23 h_23 hv_23 => ?_)
      obtain ⟨r_23, rfl, hv_23⟩ := hv_23
      obtain ⟨rfl, e_23⟩ := hv_23
      rw [e_23]
      refine J_aload_n (M := mX4_drop) dX4_drop_26 rfl rfl ?_
      first | refine Z_some (M := mX4_drop) (by omega) ?_ | skip
      refine J_getf (M := mX4_drop) dX4_drop_27 fi_X4_76 (hk_5 (by first | exact rfl | assumption | exact Or.inl (by assumption) | exact Or.inr rfl | (show 0 ≤ _ ∧ _ < _; omega))) rfl ?_
      refine Z_rwb (M := mX4_drop) (g := ρ 38) (wk38 V) rfl (fun wb_38_16 => ?_)
      first | refine Z_some (M := mX4_drop) (by omega) ?_ | skip
      refine J_aload_n (M := mX4_drop) dX4_drop_30 rfl rfl ?_
      first | refine Z_some (M := mX4_drop) (by omega) ?_ | skip
      refine K_acne (tgt := 38) dX4_drop_31 (by decide) (by omega) (fun c_31 => ?_) (fun c_31 => ?_)
      · refine K_vret dX4_drop_38 rfl ?_
        exact And.intro rfl (by
          unfold drp
          dsimp only
          first
            | rw [if_pos (show 0 < ρ 20 b by omega)]
            | rw [if_neg (show ¬ 0 < ρ 20 b by omega), ez]
          first
            | rw [if_pos c_31]
            | rw [if_neg c_31])
      · refine J_aload_n (M := mX4_drop) dX4_drop_34 rfl rfl ?_
        first | refine Z_some (M := mX4_drop) (by omega) ?_ | skip
        refine J_callV (M := mX4_drop) (as := []) dX4_drop_35 ca_X4_82 ⟨by decide, by decide⟩ (hk_5 (by first | exact rfl | assumption | exact Or.inl (by assumption) | exact Or.inr rfl | (show 0 ≤ _ ∧ _ < _; omega))) rfl (Nat.le_of_ble_eq_true rfl) (k' := 0) (n' := 0) (by decide) (by decide) kX3_empty (fun v_35 h_35 hv_35 => ?_)
        obtain ⟨r_35, rfl, hv_35⟩ := hv_35
        obtain ⟨rfl, e_35⟩ := hv_35
        rw [e_35]
        refine K_vret dX4_drop_38 rfl ?_
        exact And.intro rfl (by
          unfold drp
          dsimp only
          first
            | rw [if_pos (show 0 < ρ 20 b by omega)]
            | rw [if_neg (show ¬ 0 < ρ 20 b by omega), ez]
          first
            | rw [if_pos c_31]
            | rw [if_neg c_31])
    · refine J_aload_n (M := mX4_drop) dX4_drop_12 rfl rfl ?_
      refine J_dup (M := mX4_drop) dX4_drop_13 rfl ?_
      refine J_getf (M := mX4_drop) dX4_drop_14 fi_X4_70 (hk_6 (by first | exact rfl | assumption | exact Or.inl (by assumption) | exact Or.inr rfl | (show 0 ≤ _ ∧ _ < _; omega))) rfl ?_
      refine Z_eq (M := mX4_drop) (b := ρ 44 _) rfl ?_
      refine Z_iconst (M := mX4_drop) dX4_drop_17 ?_
      refine Z_iadd (M := mX4_drop) dX4_drop_18 ?_
      refine J_putI (M := mX4_drop) dX4_drop_19 fi_X4_70 (hk_6 (by first | exact rfl | assumption | exact Or.inl (by assumption) | exact Or.inr rfl | (show 0 ≤ _ ∧ _ < _; omega))) (Nat.le_of_ble_eq_true rfl) ?_
      refine Z_h (M := mX4_drop) (hkp_44 (by first | exact rfl | assumption | exact Or.inl (by assumption) | exact Or.inr rfl | (show 0 ≤ _ ∧ _ < _; omega))) ?_
      refine J_aload_n (M := mX4_drop) dX4_drop_22 rfl rfl ?_
      first | refine Z_some (M := mX4_drop) (by omega) ?_ | skip
      refine J_callV (M := mX4_drop) (as := []) dX4_drop_23 ca_X4_73 ⟨by decide, by decide⟩ (hk_13 (by first | exact rfl | assumption | exact Or.inl (by assumption) | exact Or.inr rfl | (show 0 ≤ _ ∧ _ < _; omega))) rfl (Nat.le_of_ble_eq_true rfl) (k' := 0) (n' := 0) (by decide) (by decide) (by first | exact kX0_forget (V4 _) e | exact kX0_forget V e) (fun v_23 h_23 hv_23 => ?_)
      obtain ⟨r_23, rfl, hv_23⟩ := hv_23
      obtain ⟨rfl, e_23⟩ := hv_23
      rw [e_23]
      refine J_aload_n (M := mX4_drop) dX4_drop_26 rfl rfl ?_
      first | refine Z_some (M := mX4_drop) (by omega) ?_ | skip
      refine J_getf (M := mX4_drop) dX4_drop_27 fi_X4_76 (hk_5 (by first | exact rfl | assumption | exact Or.inl (by assumption) | exact Or.inr rfl | (show 0 ≤ _ ∧ _ < _; omega))) rfl ?_
      refine Z_rwb (M := mX4_drop) (g := ρ 38) (wk38 V) rfl (fun wb_38_46 => ?_)
      first | refine Z_some (M := mX4_drop) (by omega) ?_ | skip
      refine J_aload_n (M := mX4_drop) dX4_drop_30 rfl rfl ?_
      first | refine Z_some (M := mX4_drop) (by omega) ?_ | skip
      refine K_acne (tgt := 38) dX4_drop_31 (by decide) (by omega) (fun c_31 => ?_) (fun c_31 => ?_)
      · refine K_vret dX4_drop_38 rfl ?_
        exact And.intro rfl (by
          unfold drp
          dsimp only
          first
            | rw [if_pos (show 0 < ρ 20 b by omega)]
            | rw [if_neg (show ¬ 0 < ρ 20 b by omega), ez]
          first
            | rw [if_pos c_31]
            | rw [if_neg c_31])
      · refine J_aload_n (M := mX4_drop) dX4_drop_34 rfl rfl ?_
        first | refine Z_some (M := mX4_drop) (by omega) ?_ | skip
        refine J_callV (M := mX4_drop) (as := []) dX4_drop_35 ca_X4_82 ⟨by decide, by decide⟩ (hk_5 (by first | exact rfl | assumption | exact Or.inl (by assumption) | exact Or.inr rfl | (show 0 ≤ _ ∧ _ < _; omega))) rfl (Nat.le_of_ble_eq_true rfl) (k' := 0) (n' := 0) (by decide) (by decide) kX3_empty (fun v_35 h_35 hv_35 => ?_)
        obtain ⟨r_35, rfl, hv_35⟩ := hv_35
        obtain ⟨rfl, e_35⟩ := hv_35
        rw [e_35]
        refine K_vret dX4_drop_38 rfl ?_
        exact And.intro rfl (by
          unfold drp
          dsimp only
          first
            | rw [if_pos (show 0 < ρ 20 b by omega)]
            | rw [if_neg (show ¬ 0 < ρ 20 b by omega), ez]
          first
            | rw [if_pos c_31]
            | rw [if_neg c_31])
  · omega

set_option maxRecDepth 100000 in
set_option maxHeartbeats 4000000 in
theorem kX4_dropN {X : GX} {h : LH} {ρ : TS}  : CK X mX4_drop [vR (some (6, 0)), vR none, vR (some (5, 0))] h ρ (fun v r => v = none ∧ r = ρ) := by
  refine CT_of (by decide +kernel) rfl (Nat.le_of_ble_eq_true rfl) ?_
  refine J_aload_n (M := mX4_drop) dX4_drop_0 rfl rfl ?_
  refine J_ifnonnull (M := mX4_drop) (tgt := 5) dX4_drop_1 (by decide) (fun u c => nomatch c) (fun _ => ?_)
  refine K_vret dX4_drop_4 rfl ?_
  exact And.intro rfl rfl

def wg (g v : Int → Int) (a i : Int) : Int → Int := fun z => if a ≤ z ∧ z < i then v z else g z
theorem wg_0 {g v : Int → Int} {a i : Int} (h : i ≤ a) : wg g v a i = g := by
  funext z
  unfold wg
  rw [if_neg (by omega)]
theorem wg_s {g v : Int → Int} {a i : Int} (h : a ≤ i) : upZ (wg g v a i) i (v i) = wg g v a (i + 1) := by
  funext z
  unfold upZ wg
  by_cases e : z = i
  · rw [if_pos e, if_pos (by omega), e]
  · rw [if_neg e]
    by_cases q : a ≤ z ∧ z < i
    · rw [if_pos q, if_pos (by omega)]
    · rw [if_neg q, if_neg (by omega)]
/-- the bouts from a on up to i counted anew -/
def rct (ρ τ : TS) (a i : Int) : TS := fs (fs ρ 25 (wg (ρ 25) (fun z => (te τ z).1) a i)) 26 (wg (ρ 26) (fun z => (te τ z).2.1) a i)
theorem rct_0 {ρ τ : TS} {a i : Int} (h : i ≤ a) : rct ρ τ a i = ρ := by
  unfold rct
  rw [wg_0 h, wg_0 h, fs_id]
  exact fs_id
theorem fs_fs {τ : TS} {k : Nat} {g g' : Int → Int} : fs (fs τ k g) k g' = fs τ k g' := by
  funext k'
  by_cases h : k' = k
  · subst h; rw [fs_s, fs_s]
  · rw [fs_n h, fs_n h, fs_n h]
theorem fs_cm {τ : TS} {k j : Nat} {g g' : Int → Int} (h : k ≠ j) : fs (fs τ k g) j g' = fs (fs τ j g') k g := by
  funext k'
  by_cases h1 : k' = k
  · subst h1; rw [fs_n h, fs_s, fs_s]
  · by_cases h2 : k' = j
    · subst h2; rw [fs_s, fs_n h1, fs_s]
    · rw [fs_n h2, fs_n h1, fs_n h1, fs_n h2]
theorem rct_s {ρ τ : TS} {a i : Int} (h : a ≤ i) : ts (ts (rct ρ τ a i) 25 i (te τ i).1) 26 i (te τ i).2.1 = rct ρ τ a (i + 1) := by
  have e1 : ts (rct ρ τ a i) 25 i (te τ i).1 = fs (fs ρ 25 (wg (ρ 25) (fun z => (te τ z).1) a (i + 1))) 26 (wg (ρ 26) (fun z => (te τ z).2.1) a i) := by
    unfold rct
    rw [fs_cm (k := 25) (j := 26) (by decide), ts_fs, fs_cm (k := 26) (j := 25) (by decide)]
    have := wg_s (g := ρ 25) (v := fun z => (te τ z).1) h
    rw [← this]
  rw [e1, ts_fs]
  unfold rct
  have := wg_s (g := ρ 26) (v := fun z => (te τ z).2.1) h
  rw [← this]
theorem WK_rct {ρ τ : TS} (V : WK ρ) (W : WF τ) {a i : Int} : WK (rct ρ τ a i) := by
  intro k j h1 h2
  have b25 := wk25 V j
  have b26 := wk26 V j
  obtain ⟨q1, q2, q3, q4, -⟩ := te_rg W j
  by_cases e1 : k = 26
  · subst e1
    show (0 : Int) ≤ wg (ρ 26) (fun z => (te τ z).2.1) a i j ∧ wg (ρ 26) (fun z => (te τ z).2.1) a i j ≤ 12
    unfold wg
    split
    · exact ⟨q3, q4⟩
    · exact b26
  · by_cases e2 : k = 25
    · subst e2
      show (0 : Int) ≤ wg (ρ 25) (fun z => (te τ z).1) a i j ∧ wg (ρ 25) (fun z => (te τ z).1) a i j ≤ 12
      unfold wg
      split
      · exact ⟨q1, q2⟩
      · exact b25
    · unfold rct
      rw [fs_n e1, fs_n e2]
      exact V k j h1 h2
set_option maxRecDepth 100000 in
set_option maxHeartbeats 4000000 in
theorem tr_l {X : GX} {h : LH} {ρ τ : TS} {k n : Nat} (W : WF τ) (V : WK ρ) (R : WR ρ τ) (hn : ∀ i, 1 ≤ i → i < ρ 43 0 → ρ 7 i = 66 + i ∧ BR ρ τ (66 + i)) : ∀ (m : Nat) (i : Int), 1 ≤ i → i + m = ρ 43 0 → J X mX4_recount 2 [some (vR (some (6, 0))), some (vI (iI i)), none] [] (hk h (rct ρ τ 67 (66 + i))) k n (QK h (fun v r => v = none ∧ r = rct ρ τ 67 (66 + ρ 43 0))) := by
  have b43 := wk43 V 0
  intro m
  induction m with
  | zero =>
    intro i h1 hi
    have ei : ρ 43 0 = i := by omega
    refine J_iload_n (M := mX4_recount) dX4_recount_2 rfl rfl ?_
    refine J_aload_n (M := mX4_recount) dX4_recount_3 rfl rfl ?_
    refine J_getf (M := mX4_recount) dX4_recount_4 fi_X4_24 (hk_6 (by first | exact rfl | assumption | exact Or.inl (by assumption) | exact Or.inr rfl | (show 0 ≤ _ ∧ _ < _; omega))) rfl ?_
    refine Z_wb (M := mX4_recount) (g := ρ 43) (wk43 V) rfl (fun wb_43_3 => ?_)
    refine Z_ic_ge (M := mX4_recount) (tgt := 30) (by first | assumption | exact pI_rg _ | (unfold rg; omega)) (by first | assumption | exact pI_rg _ | (unfold rg; omega)) dX4_recount_7 (by decide) (fun c_7 => ?_) (fun c_7 => ?_)
    · refine K_vret dX4_recount_30 rfl ?_
      exact And.intro rfl (by rw [ei])
    · omega
  | succ m ih =>
    intro i h1 hi
    obtain ⟨e7, B⟩ := hn i h1 (by omega)
    have V' : WK (rct ρ τ 67 (66 + i)) := WK_rct V W
    have B' : BR (rct ρ τ 67 (66 + i)) τ (66 + i) := B
    have R' : WR (rct ρ τ 67 (66 + i)) τ := R
    have g2 := B.2.1
    have ha : (if 1 ≤ i ∧ i < rct ρ τ 67 (66 + i) 43 0 then rct ρ τ 67 (66 + i) 7 i else -1) = 66 + i := by
      show (if 1 ≤ i ∧ i < ρ 43 0 then ρ 7 i else -1) = 66 + i
      rw [if_pos (by omega), e7]
    have hs := rct_s (ρ := ρ) (τ := τ) (a := 67) (i := 66 + i) (by omega)
    have e9 : 66 + i + 1 = 66 + (i + 1) := by omega
    rw [e9] at hs
    refine J_iload_n (M := mX4_recount) dX4_recount_2 rfl rfl ?_
    refine J_aload_n (M := mX4_recount) dX4_recount_3 rfl rfl ?_
    refine J_getf (M := mX4_recount) dX4_recount_4 fi_X4_24 (hk_6 (by first | exact rfl | assumption | exact Or.inl (by assumption) | exact Or.inr rfl | (show 0 ≤ _ ∧ _ < _; omega))) rfl ?_
    refine Z_wb (M := mX4_recount) (g := ρ 43) (wk43 V) rfl (fun wb_43_3 => ?_)
    refine Z_ic_ge (M := mX4_recount) (tgt := 30) (by first | assumption | exact pI_rg _ | (unfold rg; omega)) (by first | assumption | exact pI_rg _ | (unfold rg; omega)) dX4_recount_7 (by decide) (fun c_7 => ?_) (fun c_7 => ?_)
    · omega
    · refine J_aload_n (M := mX4_recount) dX4_recount_10 rfl rfl ?_
      refine J_iload_n (M := mX4_recount) dX4_recount_11 rfl rfl ?_
      refine J_callV (M := mX4_recount) (as := [_]) dX4_recount_12 ca_X4_38 ⟨by decide, by decide⟩ (hk_6 (by first | exact rfl | assumption | exact Or.inl (by assumption) | exact Or.inr rfl | (show 0 ≤ _ ∧ _ < _; omega))) rfl (Nat.le_of_ble_eq_true rfl) (k' := k) (n' := n) (Nat.le_refl _) (Nat.le_refl _) (kX4_boutAt V' (by unfold rg; omega)) (fun v_12 h_12 hv_12 => ?_)
      obtain ⟨r_12, rfl, hv_12⟩ := hv_12
      obtain ⟨rfl, e_12⟩ := hv_12
      rw [e_12]
      refine Z_rfe (M := mX4_recount) ha ?_
      refine J_astore_n (M := mX4_recount) dX4_recount_15 rfl (by decide) ?_
      refine J_aload_n (M := mX4_recount) dX4_recount_16 rfl rfl ?_
      first | refine Z_some (M := mX4_recount) (by omega) ?_ | skip
      first | refine Z_uns (M := mX4_recount) (by omega) ?_ | skip
      refine K_ifnull (tgt := 24) dX4_recount_17 (by decide) (fun c_17 => ?_) (fun c_17 => ?_)
      · omega
      · refine J_aload_n (M := mX4_recount) dX4_recount_20 rfl rfl ?_
        first | refine Z_some (M := mX4_recount) (by omega) ?_ | skip
        refine J_callV (M := mX4_recount) (as := []) dX4_recount_21 ca_X4_42 ⟨by decide, by decide⟩ (hk_13 (by first | exact rfl | assumption | exact Or.inl (by assumption) | exact Or.inr rfl | (show 0 ≤ _ ∧ _ < _; omega))) rfl (Nat.le_of_ble_eq_true rfl) (k' := k) (n' := n) (Nat.le_refl _) (Nat.le_refl _) (kX0_recount W V' R' B') (fun v_21 h_21 hv_21 => ?_)
        obtain ⟨r_21, rfl, hv_21⟩ := hv_21
        obtain ⟨rfl, e_21⟩ := hv_21
        rw [e_21]
        rw [hs]
        refine Z_iinc (M := mX4_recount) dX4_recount_24 rfl (by decide) ?_
        refine J_goto (M := mX4_recount) (tgt := 2) dX4_recount_27 (by decide) ?_
        exact J_sub (ih (i + 1) (by omega) (by omega)) (And.intro rfl (And.intro rfl trivial))

set_option maxRecDepth 100000 in
set_option maxHeartbeats 4000000 in
theorem kX4_recount {X : GX} {h : LH} {ρ τ : TS} (W : WF τ) (V : WK ρ) (R : WR ρ τ) (hn : ∀ i, 1 ≤ i → i < ρ 43 0 → ρ 7 i = 66 + i ∧ BR ρ τ (66 + i)) : CK X mX4_recount [vR (some (6, 0))] h ρ (fun v r => v = none ∧ r = rct ρ τ 67 (66 + ρ 43 0)) := by
  have b43 := wk43 V 0
  refine CT_of (by decide +kernel) rfl (Nat.le_of_ble_eq_true rfl) ?_
  by_cases q : 1 ≤ ρ 43 0
  · refine Z_iconst (M := mX4_recount) dX4_recount_0 ?_
    refine J_istore_n (M := mX4_recount) dX4_recount_1 rfl (by decide) ?_
    have e9 := tr_l (X := X) (h := h) (k := (mR mX4_recount).cells) (n := (mR mX4_recount).slots) W V R hn (ρ 43 0 - 1).toNat 1 (by omega) (by omega)
    rw [rct_0 (by omega)] at e9
    exact e9
  · refine Z_iconst (M := mX4_recount) dX4_recount_0 ?_
    refine J_istore_n (M := mX4_recount) dX4_recount_1 rfl (by decide) ?_
    refine J_iload_n (M := mX4_recount) dX4_recount_2 rfl rfl ?_
    refine J_aload_n (M := mX4_recount) dX4_recount_3 rfl rfl ?_
    refine J_getf (M := mX4_recount) dX4_recount_4 fi_X4_24 (hk_6 (by first | exact rfl | assumption | exact Or.inl (by assumption) | exact Or.inr rfl | (show 0 ≤ _ ∧ _ < _; omega))) rfl ?_
    refine Z_wb (M := mX4_recount) (g := ρ 43) (wk43 V) rfl (fun wb_43_5 => ?_)
    refine Z_ic_ge (M := mX4_recount) (tgt := 30) (by first | assumption | exact pI_rg _ | (unfold rg; omega)) (by first | assumption | exact pI_rg _ | (unfold rg; omega)) dX4_recount_7 (by decide) (fun c_7 => ?_) (fun c_7 => ?_)
    · refine K_vret dX4_recount_30 rfl ?_
      exact And.intro rfl (rct_0 (by omega)).symm
    · omega
