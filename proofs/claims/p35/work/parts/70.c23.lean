/-! THE CLASS: the tableau laid, its state -/
theorem its_r {F : Int} : (its F = 2 ∨ its F = 4 ∨ its F = 8 ∨ its F = 16) ∧ (F ≤ 12 → F ≤ its F) ∧ (2 < its F → its F < 2 * F) := by
  rw [its_e]
  by_cases a : F ≤ 2
  · rw [if_pos a]; omega
  · rw [if_neg a]
    by_cases b : F ≤ 4
    · rw [if_pos b]; omega
    · rw [if_neg b]
      by_cases c : F ≤ 8
      · rw [if_pos c]; omega
      · rw [if_neg c]; omega
theorem itd_r {F : Int} : 1 ≤ itd F ∧ itd F ≤ 4 := by unfold itd; split; omega; split; omega; split <;> omega
theorem itd_2 {F : Int} (hF : F ≤ 16) {d : Nat} (h1 : 1 ≤ d) (h2 : d < itd F) : ((2 ^ d : Nat) : Int) < F ∧ ((2 ^ d : Nat) : Int) < 16 := by
  have h4 := (itd_r (F := F)).2
  have hd : d = 1 ∨ d = 2 ∨ d = 3 := by omega
  unfold itd at h2
  by_cases a : F ≤ 2
  · rw [if_pos a] at h2; omega
  · rw [if_neg a] at h2
    by_cases b : F ≤ 4
    · rw [if_pos b] at h2
      rcases hd with rfl | rfl | rfl
      · refine ⟨?_, by decide⟩; show (2 : Int) < F; omega
      · omega
      · omega
    · rw [if_neg b] at h2
      by_cases c : F ≤ 8
      · rw [if_pos c] at h2
        rcases hd with rfl | rfl | rfl
        · refine ⟨?_, by decide⟩; show (2 : Int) < F; omega
        · refine ⟨?_, by decide⟩; show (4 : Int) < F; omega
        · omega
      · rw [if_neg c] at h2
        rcases hd with rfl | rfl | rfl
        · refine ⟨?_, by decide⟩; show (2 : Int) < F; omega
        · refine ⟨?_, by decide⟩; show (4 : Int) < F; omega
        · refine ⟨?_, by decide⟩; show (8 : Int) < F; omega
def lyB (ρ : TS) (F : Int) : TS := fs (ts ρ 43 0 (its F)) 46 (wg (ρ 46) (fun _ => -1) 0 32)
def lyR (ρ : TS) (F : Int) : TS := fs (lbN (lyB ρ F) (its F - 1).toNat) 45 (sq0 (ρ 45) (itd F))
theorem lyB_k {ρ : TS} {F : Int} {k : Nat} (h : ¬ k = 43 ∧ ¬ k = 46) : lyB ρ F k = ρ k := by
  unfold lyB
  rw [fs_n h.2, ts_n h.1]
set_option maxRecDepth 100000 in
set_option maxHeartbeats 4000000 in
theorem ly_1 {X : GX} {h : LH} {ρ : TS} {k n : Nat} {Q : LO → LH → Prop} {F : Int} (hF : 0 ≤ F ∧ F ≤ 12) (kk : J X mX4_lay 20 [some (vR (some (6, 0))), some (vI (iI F)), some (vI (iI (its F))), none] [] (hk h ρ) k n Q) : ∀ (m d : Nat), 1 ≤ d → d + m = itd F → J X mX4_lay 2 [some (vR (some (6, 0))), some (vI (iI F)), some (vI (iI ((2 ^ d : Nat) : Int))), none] [] (hk h ρ) k n Q := by
  intro m
  have hi := its_r (F := F)
  induction m with
  | zero =>
    intro d h1 hd
    have ed : ((2 ^ d : Nat) : Int) = its F := by unfold its; rw [show d = itd F by omega]
    rw [ed]
    refine J_iload_n (M := mX4_lay) dX4_lay_2 rfl rfl ?_
    refine J_iload_n (M := mX4_lay) dX4_lay_3 rfl rfl ?_
    refine Z_ic_ge (M := mX4_lay) (tgt := 20) (by first | assumption | exact pI_rg _ | (unfold rg; omega)) (by first | assumption | exact pI_rg _ | (unfold rg; omega)) dX4_lay_4 (by decide) (fun c_4 => ?_) (fun c_4 => ?_)
    · exact J_sub kk (And.intro rfl (And.intro rfl (And.intro rfl trivial)))
    · refine J_iload_n (M := mX4_lay) dX4_lay_7 rfl rfl ?_
      refine Z_bipush (M := mX4_lay) dX4_lay_8 rfl ?_
      refine Z_ic_ge (M := mX4_lay) (tgt := 20) (by first | assumption | exact pI_rg _ | (unfold rg; omega)) (by first | assumption | exact pI_rg _ | (unfold rg; omega)) dX4_lay_10 (by decide) (fun c_10 => ?_) (fun c_10 => ?_)
      · exact J_sub kk (And.intro rfl (And.intro rfl (And.intro rfl trivial)))
      · omega
  | succ m ih =>
    intro d h1 hd
    have hp := p2 (d := d)
    have h2 := itd_2 (F := F) (by omega) h1 (by omega)
    have ih2 := ih (d + 1) (by omega) (by omega)
    refine J_iload_n (M := mX4_lay) dX4_lay_2 rfl rfl ?_
    refine J_iload_n (M := mX4_lay) dX4_lay_3 rfl rfl ?_
    refine Z_ic_ge (M := mX4_lay) (tgt := 20) (by first | assumption | exact pI_rg _ | (unfold rg; omega)) (by first | assumption | exact pI_rg _ | (unfold rg; omega)) dX4_lay_4 (by decide) (fun c_4 => ?_) (fun c_4 => ?_)
    · omega
    · refine J_iload_n (M := mX4_lay) dX4_lay_7 rfl rfl ?_
      refine Z_bipush (M := mX4_lay) dX4_lay_8 rfl ?_
      refine Z_ic_ge (M := mX4_lay) (tgt := 20) (by first | assumption | exact pI_rg _ | (unfold rg; omega)) (by first | assumption | exact pI_rg _ | (unfold rg; omega)) dX4_lay_10 (by decide) (fun c_10 => ?_) (fun c_10 => ?_)
      · omega
      · refine J_iload_n (M := mX4_lay) dX4_lay_13 rfl rfl ?_
        refine Z_iconst (M := mX4_lay) dX4_lay_14 ?_
        refine Z_imul (M := mX4_lay) dX4_lay_15 ?_
        refine J_istore_n (M := mX4_lay) dX4_lay_16 rfl (by decide) ?_
        refine J_goto (M := mX4_lay) (tgt := 2) dX4_lay_17 (by decide) ?_
        exact J_sub ih2 (And.intro rfl (And.intro rfl (And.intro (vz (by omega)) trivial)))

set_option maxRecDepth 100000 in
set_option maxHeartbeats 4000000 in
theorem ly_2 {X : GX} {h : LH} {ρ : TS} {k n : Nat} {Q : LO → LH → Prop} {F y : Int} {g : Int → Int} (kk : J X mX4_lay 46 [some (vR (some (6, 0))), some (vI (iI F)), none, none] [] (hk h (fs ρ 46 (wg g (fun _ => -1) 0 32))) k n Q) : ∀ (m : Nat) (i : Int), 0 ≤ i → i + m = 32 → J X mX4_lay 27 [some (vR (some (6, 0))), some (vI (iI F)), some (vI (iI y)), some (vI (iI i))] [] (hk h (fs ρ 46 (wg g (fun _ => -1) 0 i))) k n Q := by
  intro m
  induction m with
  | zero =>
    intro i h0 hi
    have ei : i = 32 := by omega
    subst ei
    refine J_iload_n (M := mX4_lay) dX4_lay_27 rfl rfl ?_
    refine Z_bipush (M := mX4_lay) dX4_lay_28 rfl ?_
    refine Z_ic_ge (M := mX4_lay) (tgt := 46) (by first | assumption | exact pI_rg _ | (unfold rg; omega)) (by first | assumption | exact pI_rg _ | (unfold rg; omega)) dX4_lay_30 (by decide) (fun c_30 => ?_) (fun c_30 => ?_)
    · exact J_sub kk (And.intro rfl (And.intro rfl trivial))
    · omega
  | succ m ih =>
    intro i h0 hi
    have hs := wg_s (g := g) (v := fun _ => -1) (a := 0) (i := i) h0
    refine J_iload_n (M := mX4_lay) dX4_lay_27 rfl rfl ?_
    refine Z_bipush (M := mX4_lay) dX4_lay_28 rfl ?_
    refine Z_ic_ge (M := mX4_lay) (tgt := 46) (by first | assumption | exact pI_rg _ | (unfold rg; omega)) (by first | assumption | exact pI_rg _ | (unfold rg; omega)) dX4_lay_30 (by decide) (fun c_30 => ?_) (fun c_30 => ?_)
    · omega
    · refine J_aload_n (M := mX4_lay) dX4_lay_33 rfl rfl ?_
      refine J_getf (M := mX4_lay) dX4_lay_34 fi_X4_15 (hk_6 (by first | exact rfl | assumption | exact Or.inl (by assumption) | exact Or.inr rfl | (show 0 ≤ _ ∧ _ < _; omega))) rfl ?_
      refine J_iload_n (M := mX4_lay) dX4_lay_37 rfl rfl ?_
      refine Z_iconst (M := mX4_lay) dX4_lay_38 ?_
      refine Z_iast (M := mX4_lay) dX4_lay_39 (hk_8 (by first | exact rfl | assumption | exact Or.inl (by assumption) | exact Or.inr rfl | (show 0 ≤ _ ∧ _ < _; omega))) (by decide) (by omega) (by omega) ?_
      refine Z_h (M := mX4_lay) (hkq_46 ⟨by omega, by omega⟩) ?_
      refine Z_iinc (M := mX4_lay) dX4_lay_40 rfl (by decide) ?_
      refine J_goto (M := mX4_lay) (tgt := 27) dX4_lay_43 (by decide) ?_
      rw [ts_fs, hs]
      exact J_sub (ih (i + 1) (by omega) (by omega)) (And.intro rfl (And.intro rfl (And.intro rfl (And.intro rfl trivial))))

set_option maxRecDepth 100000 in
set_option maxHeartbeats 4000000 in
theorem kX4_lay {X : GX} {h : LH} {ρ : TS} {F : Int} (hF : 0 ≤ F ∧ F ≤ 12) (hf : ∀ b, 66 < b → b < 82 → ¬ ρ 48 b = 1) : CK X mX4_lay [vR (some (6, 0)), vI (iI F)] h ρ (fun v r => v = none ∧ r = lyR ρ F) := by
  have hi := its_r (F := F)
  have he := itd_r (F := F)
  have h43 : lyB ρ F 43 0 = its F := rfl
  have hl43 : lbN (lyB ρ F) (its F - 1).toNat 43 0 = ((2 ^ itd F : Nat) : Int) := by rw [lbN_k (by decide)]; exact h43
  have hl45 : lbN (lyB ρ F) (its F - 1).toNat 45 = ρ 45 := by rw [lbN_k (by decide), lyB_k (by decide)]
  have hseed : J X mX4_lay 84 [some (vR (some (6, 0))), some (vI (iI F)), none, none] [] (hk h (lbN (lyB ρ F) (its F - 1).toNat)) 0 0 (QK h (fun v r => v = none ∧ r = lyR ρ F)) := by
    refine J_aload_n (M := mX4_lay) dX4_lay_84 rfl rfl ?_
    refine J_callV (M := mX4_lay) (as := []) dX4_lay_85 ca_X4_35 ⟨by decide, by decide⟩ (hk_6 (by first | exact rfl | assumption | exact Or.inl (by assumption) | exact Or.inr rfl | (show 0 ≤ _ ∧ _ < _; omega))) rfl (Nat.le_of_ble_eq_true rfl) (k' := 0) (n' := 0) (by decide) (by decide) (kX4_laySeeds he hl43) (fun v_85 h_85 hv_85 => ?_)
    obtain ⟨r_85, rfl, hv_85⟩ := hv_85
    obtain ⟨rfl, e_85⟩ := hv_85
    rw [e_85]
    rw [hl45]
    refine K_vret dX4_lay_88 rfl ?_
    exact And.intro rfl rfl
  have hb := ly_b (X := X) (h := h) (ρ := lyB ρ F) (k := 0) (n := 0) (F := F) h43 (by omega) (fun b b0 b1 => by rw [lyB_k (by decide)]; exact hf b b0 (by omega)) hseed (its F - 1).toNat 0 (by omega)
  have h2 := ly_2 (X := X) (h := h) (ρ := ts ρ 43 0 (its F)) (k := 0 + 3 * (its F - 1).toNat) (n := 0 + 23 * (its F - 1).toNat) (F := F) (y := its F) (g := ρ 46) (Q := QK h (fun v r => v = none ∧ r = lyR ρ F)) (by
    refine Z_iconst (M := mX4_lay) dX4_lay_46 ?_
    refine J_istore_n (M := mX4_lay) dX4_lay_47 rfl (by decide) ?_
    exact J_sub hb (And.intro rfl (And.intro rfl (And.intro rfl trivial)))) 32 0 (by omega) (by omega)
  rw [wg_0 (by omega), show fs (ts ρ 43 0 (its F)) 46 (ρ 46) = ts ρ 43 0 (its F) from by rw [show ρ 46 = ts ρ 43 0 (its F) 46 from rfl]; exact fs_id] at h2
  refine CT_of (by decide +kernel) rfl (Nat.le_of_ble_eq_true rfl) ?_
  refine Z_iconst (M := mX4_lay) dX4_lay_0 ?_
  refine J_istore_n (M := mX4_lay) dX4_lay_1 rfl (by decide) ?_
  refine J_le (M := mX4_lay) (k' := 0 + 3 * (its F - 1).toNat) (n' := 0 + 23 * (its F - 1).toNat) (by show _ ≤ 45; omega) (by show _ ≤ 345; omega) ?_
  refine J_sub (M := mX4_lay) (ly_1 hF ?_ (itd F - 1) 1 (by omega) (by omega)) (And.intro rfl (And.intro rfl (And.intro rfl trivial)))
  refine J_aload_n (M := mX4_lay) dX4_lay_20 rfl rfl ?_
  refine J_iload_n (M := mX4_lay) dX4_lay_21 rfl rfl ?_
  refine J_putI (M := mX4_lay) dX4_lay_22 fi_X4_24 (hk_6 (by first | exact rfl | assumption | exact Or.inl (by assumption) | exact Or.inr rfl | (show 0 ≤ _ ∧ _ < _; omega))) (Nat.le_of_ble_eq_true rfl) ?_
  refine Z_h (M := mX4_lay) (hkp_43 (by first | exact rfl | assumption | exact Or.inl (by assumption) | exact Or.inr rfl | (show 0 ≤ _ ∧ _ < _; omega))) ?_
  refine Z_iconst (M := mX4_lay) dX4_lay_25 ?_
  refine J_istore_n (M := mX4_lay) dX4_lay_26 rfl (by decide) ?_
  exact J_sub h2 (And.intro rfl (And.intro rfl (And.intro rfl (And.intro rfl trivial))))

theorem nb2_ot {ρ : TS} {b c F f s : Int} {k : Nat} (h : ¬ c = b) (hk : 17 ≤ k ∧ k ≤ 26 ∧ ¬ k = 23) : nb2 ρ b F f s k c = ρ k c := by
  have hk2 : k = 17 ∨ k = 18 ∨ k = 19 ∨ k = 20 ∨ k = 21 ∨ k = 22 ∨ k = 24 ∨ k = 25 ∨ k = 26 := by omega
  unfold nb2
  rcases hk2 with rfl | rfl | rfl | rfl | rfl | rfl | rfl | rfl | rfl
  · rw [tsN (by decide), tsN (by decide), tsN (by decide), nbt_17, upZ_ne h]
  · rw [tsN (by decide), tsN (by decide), tsN (by decide), nbt_18, upZ_ne h]
  · rw [tsN (by decide), tsN (by decide), tsN (by decide), nbt_19, upZ_ne h]
  · rw [tsN (by decide), tsN (by decide), tsN (by decide), nbt_20, upZ_ne h]
  · rw [tsN (by decide), tsN (by decide), tsN (by decide), nbt_21, upZ_ne h]
  · rw [tsN (by decide), tsN (by decide), tsN (by decide), nbt_22, upZ_ne h]
  · rw [tsN (by decide), tsN (by decide), ts_else h, nbt_24, upZ_ne h]
  · rw [tsN (by decide), ts_else h, tsN (by decide), nbt_25, upZ_ne h]
  · rw [ts_else h, tsN (by decide), tsN (by decide), nbt_26, upZ_ne h]
theorem nb2_23 {ρ : TS} {b F f s : Int} : nb2 ρ b F f s 23 = rw0 (ρ 23) b 12 := by
  unfold nb2
  rw [ts_n (by decide), ts_n (by decide), ts_n (by decide), nbt_23]
theorem nb2_48 {ρ : TS} {b F f s : Int} : nb2 ρ b F f s 48 = upZ (ρ 48) b 1 := by
  unfold nb2
  rw [ts_n (by decide), ts_n (by decide), ts_n (by decide), nbt_48]
/-- a new bout of a node -/
def nwB (r : TS) (b : Int) : Prop := r 17 b = 0 ∧ r 18 b = -1 ∧ r 19 b = -1 ∧ r 20 b = 0 ∧ r 21 b = 2 ∧ r 22 b = 2 ∧ r 24 b = 5 ∧ r 25 b = 0 ∧ r 26 b = 0 ∧ r 48 b = 1
theorem nb2_at {ρ : TS} {b : Int} : nwB (nb2 ρ b 0 (-1) (-1)) b := by
  refine ⟨?_, ?_, ?_, ?_, ?_, ?_, ?_, ?_, ?_, ?_⟩
  · unfold nb2; rw [tsN (by decide), tsN (by decide), tsN (by decide), nbt_17, upZ_at]
  · unfold nb2; rw [tsN (by decide), tsN (by decide), tsN (by decide), nbt_18, upZ_at]
  · unfold nb2; rw [tsN (by decide), tsN (by decide), tsN (by decide), nbt_19, upZ_at]
  · unfold nb2; rw [tsN (by decide), tsN (by decide), tsN (by decide), nbt_20, upZ_at]
  · unfold nb2; rw [tsN (by decide), tsN (by decide), tsN (by decide), nbt_21, upZ_at]
  · unfold nb2; rw [tsN (by decide), tsN (by decide), tsN (by decide), nbt_22, upZ_at]
  · unfold nb2; rw [tsN (by decide), tsN (by decide), ts_self]; rfl
  · unfold nb2; rw [tsN (by decide), ts_self]
  · unfold nb2; rw [ts_self]
  · rw [nb2_48, upZ_at]
theorem nwB_q {r r' : TS} {b : Int} (h : ∀ k, (17 ≤ k ∧ k ≤ 26 ∧ ¬ k = 23) ∨ k = 48 → r' k b = r k b) (N : nwB r b) : nwB r' b := by
  unfold nwB at *
  rw [h 17 (by decide), h 18 (by decide), h 19 (by decide), h 20 (by decide), h 21 (by decide), h 22 (by decide), h 24 (by decide), h 25 (by decide), h 26 (by decide), h 48 (by decide)]
  exact N
theorem lbN_lo {ρ : TS} {b : Int} (hb : b < 67) : ∀ n : Nat, (∀ k, 17 ≤ k ∧ k ≤ 26 ∧ ¬ k = 23 → lbN ρ n k b = ρ k b) ∧ (∀ z, z < 804 → lbN ρ n 23 z = ρ 23 z)
  | 0 => ⟨fun _ _ => rfl, fun _ _ => rfl⟩
  | n + 1 => by
    obtain ⟨e1, e2⟩ := lbN_lo (ρ := ρ) hb n
    refine ⟨fun k hk => ?_, fun z hz => ?_⟩
    · unfold lbN
      rw [tsN (by omega), nb2_ot (by omega) hk, e1 k hk]
    · unfold lbN
      rw [tsN (by decide), nb2_23]
      unfold rw0
      rw [if_neg (by omega), e2 z hz]
theorem lbN_hi {ρ : TS} : ∀ (n : Nat) (j : Int), 1 ≤ j → j ≤ n → nwB (lbN ρ n) (66 + j) ∧ lbN ρ n 7 j = 66 + j
  | 0, j, h0, h1 => by omega
  | n + 1, j, h0, h1 => by
    unfold lbN
    by_cases e : j = (n : Int) + 1
    · subst e
      exact ⟨nwB_q (fun k hk => tsN (by omega)) nb2_at, ts_self⟩
    · obtain ⟨a1, a2⟩ := lbN_hi (ρ := ρ) n j h0 (by omega)
      refine ⟨nwB_q (fun k hk => ?_) a1, ?_⟩
      · rw [tsN (by omega)]
        rcases hk with hk | hk
        · exact nb2_ot (by omega) hk
        · rw [hk, nb2_48, upZ_ne (by omega)]
      · rw [ts_else e, nb2_k (by decide)]
        exact a2
theorem WK_nb2 {ρ : TS} (V : WK ρ) {b : Int} : WK (nb2 ρ b 0 (-1) (-1)) := by
  have hr : ∀ i, (-1 : Int) ≤ rw0 (ρ 23) b 12 i ∧ rw0 (ρ 23) b 12 i ≤ 100000 := fun i => by
    have := wk23 V i
    unfold rw0
    split <;> omega
  have V1 : WK (nbt ρ b 0 (-1) (-1)) := by
    intro k j k1 k2
    unfold nbt
    rw [ts_n (by omega)]
    exact WK_ts (WK_ts (WK_ts (WK_ts (WK_ts (WK_ts (WK_ts (WK_ts (WK_ts (WK_fs V hr) (by decide)) (by decide)) (by decide)) (by decide)) (by decide)) (by decide)) (by decide)) (by decide)) (by decide) k j k1 k2
  exact WK_ts (WK_ts (WK_ts V1 (by decide)) (by decide)) (by decide)
theorem WK_lbN {ρ : TS} (V : WK ρ) : ∀ n : Nat, n ≤ 15 → WK (lbN ρ n)
  | 0, _ => V
  | n + 1, h => WK_ts (WK_nb2 (WK_lbN V n (by omega))) (show (-1 : Int) ≤ _ ∧ _ ≤ (81 : Int) by omega)
theorem sq_b {s : Int → Int} (hs : ∀ i, (0 : Int) ≤ s i ∧ s i ≤ 64) {F : Int} (i : Int) : (0 : Int) ≤ sq0 s (itd F) i ∧ sq0 s (itd F) i ≤ 64 := by
  have hi := its_r (F := F)
  have e9 : ((2 ^ itd F : Nat) : Int) = its F := rfl
  by_cases q : 0 ≤ i ∧ i < its F
  · have := sq_rg (s := s) (itd F) i q.1 q.2
    omega
  · rw [sq_out _ _ (by omega)]
    exact hs i
theorem WK_lyR {ρ : TS} (V : WK ρ) {F : Int} : WK (lyR ρ F) := by
  have hi := its_r (F := F)
  refine WK_fs (WK_lbN (WK_fs (WK_ts V (show (0 : Int) ≤ _ ∧ _ ≤ (16 : Int) by omega)) (fun i => ?_)) _ (by omega)) (fun i => sq_b (wk45 V) i)
  show (-1 : Int) ≤ wg (ρ 46) (fun _ => -1) 0 32 i ∧ wg (ρ 46) (fun _ => -1) 0 32 i ≤ 11
  have := wk46 V i
  unfold wg
  split
  · show (-1 : Int) ≤ -1 ∧ (-1 : Int) ≤ 11
    decide
  · exact this
theorem ly_k {ρ : TS} {F : Int} {k : Nat} (h : ¬ (17 ≤ k ∧ k ≤ 26) ∧ ¬ k = 48 ∧ ¬ k = 7 ∧ ¬ k = 43 ∧ ¬ k = 45 ∧ ¬ k = 46) : lyR ρ F k = ρ k := by
  unfold lyR
  rw [fs_n (by omega), lbN_k (by omega), lyB_k (by omega)]
theorem ly_43 {ρ : TS} {F : Int} : lyR ρ F 43 0 = its F := by
  unfold lyR
  rw [fs_n (by decide), lbN_k (by decide)]
  rfl
theorem ly_45 {ρ : TS} {F : Int} : lyR ρ F 45 = sq0 (ρ 45) (itd F) := by unfold lyR; exact fs_s
theorem ly_46 {ρ : TS} {F y : Int} (h : 0 ≤ y ∧ y < 32) : lyR ρ F 46 y = -1 := by
  unfold lyR
  rw [fs_n (by decide), lbN_k (by decide)]
  unfold lyB
  rw [fs_s]
  unfold wg
  rw [if_pos h]
theorem ly_lo {ρ : TS} {F b : Int} (hb : b < 67) {k : Nat} (hk : 17 ≤ k ∧ k ≤ 26 ∧ ¬ k = 23) : lyR ρ F k b = ρ k b := by
  unfold lyR
  rw [fs_n (by omega), (lbN_lo hb _).1 k hk, lyB_k (by omega)]
theorem ly_23 {ρ : TS} {F z : Int} (hz : z < 804) : lyR ρ F 23 z = ρ 23 z := by
  unfold lyR
  rw [fs_n (by decide), (lbN_lo (b := 0) (by decide) _).2 z hz, lyB_k (by decide)]
theorem ly_48 {ρ : TS} {F b : Int} (hb : b < 67 ∨ 66 + its F ≤ b) : lyR ρ F 48 b = ρ 48 b := by
  have hi := its_r (F := F)
  unfold lyR
  rw [fs_n (by decide), lbN_48 _ (by omega), lyB_k (by decide)]
theorem ly_hi {ρ : TS} {F j : Int} (h1 : 1 ≤ j) (h2 : j < its F) : nwB (lyR ρ F) (66 + j) ∧ lyR ρ F 7 j = 66 + j := by
  obtain ⟨a1, a2⟩ := lbN_hi (ρ := lyB ρ F) (its F - 1).toNat j h1 (by omega)
  unfold lyR
  exact ⟨nwB_q (fun k hk => by rw [fs_n (by omega)]) a1, by rw [fs_n (by decide)]; exact a2⟩
