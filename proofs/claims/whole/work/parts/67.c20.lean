/-! THE CLASS: the pools drawn -/
def nb2 (ρ : TS) (b F f s : Int) : TS := ts (ts (ts (nbt ρ b F f s) 24 b (if F = 0 then 5 else 3)) 25 b 0) 26 b 0
/-- one more bout of the pools -/
def ib (ρ : TS) (f s : Int) : TS := ts (ts (nb2 ρ (ρ 3 0) 1 f s) 6 (ρ 3 0) (ρ 3 0)) 3 0 (ρ 3 0 + 1)
def ibL : TS → List (Int × Int) → TS
  | ρ, [] => ρ
  | ρ, x :: l => ibL (ib ρ x.1 x.2) l
theorem ibL_app : ∀ (l r : List (Int × Int)) (ρ : TS), ibL ρ (l ++ r) = ibL (ibL ρ l) r
  | [], _, _ => rfl
  | x :: l, r, ρ => ibL_app l r (ib ρ x.1 x.2)
theorem nb2_k {ρ : TS} {b F f s : Int} {k : Nat} (h : ¬ (17 ≤ k ∧ k ≤ 26) ∧ ¬ k = 48) : nb2 ρ b F f s k = ρ k := by
  unfold nb2
  rw [ts_n (by omega), ts_n (by omega), ts_n (by omega), nbt_k h]
theorem ib_k {ρ : TS} {f s : Int} {k : Nat} (h : ¬ (17 ≤ k ∧ k ≤ 26) ∧ ¬ k = 48 ∧ ¬ k = 3 ∧ ¬ k = 6) : ib ρ f s k = ρ k := by
  unfold ib
  rw [ts_n (by omega), ts_n (by omega), nb2_k (by omega)]
theorem ib_3 {ρ : TS} {f s : Int} : ib ρ f s 3 0 = ρ 3 0 + 1 := ts_self
theorem ib_48 {ρ : TS} {f s : Int} : ib ρ f s 48 = upZ (ρ 48) (ρ 3 0) 1 := by
  unfold ib nb2
  rw [ts_n (by decide), ts_n (by decide), ts_n (by decide), ts_n (by decide), ts_n (by decide), nbt_48]
/-- what the draw wants of the state -/
def dpC (ρ : TS) (F : Int) (l : Nat) : Prop := ρ 1 0 = F ∧ 0 ≤ ρ 3 0 ∧ ρ 3 0 + l ≤ 66 ∧ ∀ b, ρ 3 0 ≤ b → b < 66 → ¬ ρ 48 b = 1
theorem dpC_s {ρ : TS} {F f s : Int} {l : Nat} (h : dpC ρ F (l + 1)) : dpC (ib ρ f s) F l := by
  obtain ⟨h1, h2, h3, h4⟩ := h
  refine ⟨by rw [ib_k (by decide)]; exact h1, by rw [ib_3]; omega, by rw [ib_3]; omega, fun b b0 b1 => ?_⟩
  rw [ib_3] at b0
  rw [ib_48, upZ_ne (by omega)]
  exact h4 b (by omega) b1
theorem dpC_L : ∀ (l : List (Int × Int)) (ρ : TS) (F : Int) (n : Nat), dpC ρ F (l.length + n) → dpC (ibL ρ l) F n
  | [], ρ, F, n, h => by rw [List.length_nil, Nat.zero_add] at h; exact h
  | x :: l, ρ, F, n, h => dpC_L l _ F n (dpC_s (by rw [List.length_cons, show l.length + 1 + n = l.length + n + 1 by omega] at h; exact h))
theorem dpC_le {ρ : TS} {F : Int} {n m : Nat} (h : dpC ρ F n) (hm : m ≤ n) : dpC ρ F m := ⟨h.1, h.2.1, by have := h.2.2.1; omega, h.2.2.2⟩
set_option maxRecDepth 100000 in
set_option maxHeartbeats 4000000 in
theorem cdj {X : GX} {h : LH} {k n : Nat} {Q : LO → LH → Prop} {F m p q : Int} (hF : 0 ≤ F ∧ F ≤ 12) (hm1 : 1 ≤ m ∧ m ≤ 4) (hq : 0 ≤ q ∧ q ≤ 11) : ∀ (f : Nat) (j : Int) (ρ : TS), 0 ≤ j → j ≤ 20 → F ≤ j + f → dpC ρ F (pJ F m q f j).length → J X mX7_drawPool 72 [some (vR (some (1, 0))), some (vI (iI p)), some (vI (iI m)), some (vI (iI q)), none] [] (hk h (ibL ρ (pJ F m q f j))) k n Q → J X mX7_drawPool 15 [some (vR (some (1, 0))), some (vI (iI p)), some (vI (iI m)), some (vI (iI q)), some (vI (iI j))] [] (hk h ρ) (k + 3 * (pJ F m q f j).length) (n + 23 * (pJ F m q f j).length) Q := by
  intro f
  induction f with
  | zero =>
    intro j ρ h0 h1 h2 hC kk
    have e1 := hC.1
    refine J_iload (M := mX7_drawPool) dX7_drawPool_15 rfl ?_
    refine J_aload_n (M := mX7_drawPool) dX7_drawPool_17 rfl rfl ?_
    refine J_getf (M := mX7_drawPool) dX7_drawPool_18 fi_X7_52 (hk_1 (by first | exact rfl | assumption | exact Or.inl (by assumption) | exact Or.inr rfl | (show 0 ≤ _ ∧ _ < _; omega))) rfl ?_
    refine Z_eq (M := mX7_drawPool) (b := ρ 1 _) rfl ?_
    refine Z_ic_ge (M := mX7_drawPool) (tgt := 72) (by first | assumption | exact pI_rg _ | (unfold rg; omega)) (by first | assumption | exact pI_rg _ | (unfold rg; omega)) dX7_drawPool_21 (by decide) (fun c_21 => ?_) (fun c_21 => ?_)
    · exact J_sub kk (And.intro rfl (And.intro rfl (And.intro rfl (And.intro rfl trivial))))
    · omega
  | succ f ih =>
    intro j ρ h0 h1 h2 hC kk
    have e1 := hC.1
    by_cases c0 : j < F
    · have eL : pJ F m q (f + 1) j = (q, j) :: pJ F m q f (j + m) := if_pos c0
      rw [eL] at hC kk ⊢
      have hC2 : dpC ρ F ((pJ F m q f (j + m)).length + 1) := hC
      obtain ⟨-, c2, c3, c4⟩ := id hC
      rw [List.length_cons] at c3
      have f13 : ¬ CE ρ 13 (ρ 3 0) := c4 _ (by omega) (by omega)
      have h82 : ¬ ρ 3 0 = 82 := by omega
      have e13 : CE (nb2 ρ (ρ 3 0) 1 q j) 13 (ρ 3 0) := by
        show nb2 ρ (ρ 3 0) 1 q j 48 (ρ 3 0) = 1
        unfold nb2
        rw [ts_n (by decide), ts_n (by decide), ts_n (by decide), nbt_48]
        exact upZ_at
      have e3 : ts (nb2 ρ (ρ 3 0) 1 q j) 6 (ρ 3 0) (ρ 3 0) 3 0 = ρ 3 0 := by rw [tsN (by decide), nb2_k (by decide)]
      refine J_le (k' := (k + 3 * (pJ F m q f (j + m)).length + 2) + 1) (n' := (n + 23 * (pJ F m q f (j + m)).length + 15) + 8) (by rw [List.length_cons]; omega) (by rw [List.length_cons]; omega) ?_
      refine J_iload (M := mX7_drawPool) dX7_drawPool_15 rfl ?_
      refine J_aload_n (M := mX7_drawPool) dX7_drawPool_17 rfl rfl ?_
      refine J_getf (M := mX7_drawPool) dX7_drawPool_18 fi_X7_52 (hk_1 (by first | exact rfl | assumption | exact Or.inl (by assumption) | exact Or.inr rfl | (show 0 ≤ _ ∧ _ < _; omega))) rfl ?_
      refine Z_eq (M := mX7_drawPool) (b := ρ 1 _) rfl ?_
      refine Z_ic_ge (M := mX7_drawPool) (tgt := 72) (by first | assumption | exact pI_rg _ | (unfold rg; omega)) (by first | assumption | exact pI_rg _ | (unfold rg; omega)) dX7_drawPool_21 (by decide) (fun c_21 => ?_) (fun c_21 => ?_)
      · omega
      · refine J_aload_n (M := mX7_drawPool) dX7_drawPool_24 rfl rfl ?_
        refine J_getf (M := mX7_drawPool) dX7_drawPool_25 fi_X7_284 (hk_1 (by first | exact rfl | assumption | exact Or.inl (by assumption) | exact Or.inr rfl | (show 0 ≤ _ ∧ _ < _; omega))) rfl ?_
        refine Z_eq (M := mX7_drawPool) (b := ρ 3 _) rfl ?_
        refine Z_bipush (M := mX7_drawPool) dX7_drawPool_28 rfl ?_
        refine Z_ic_ge (M := mX7_drawPool) (tgt := 63) (by first | assumption | exact pI_rg _ | (unfold rg; omega)) (by first | assumption | exact pI_rg _ | (unfold rg; omega)) dX7_drawPool_30 (by decide) (fun c_30 => ?_) (fun c_30 => ?_)
        · omega
        · refine J_aload_n (M := mX7_drawPool) dX7_drawPool_33 rfl rfl ?_
          refine J_getf (M := mX7_drawPool) dX7_drawPool_34 fi_X7_23 (hk_1 (by first | exact rfl | assumption | exact Or.inl (by assumption) | exact Or.inr rfl | (show 0 ≤ _ ∧ _ < _; omega))) rfl ?_
          refine J_aload_n (M := mX7_drawPool) dX7_drawPool_37 rfl rfl ?_
          refine J_getf (M := mX7_drawPool) dX7_drawPool_38 fi_X7_284 (hk_1 (by first | exact rfl | assumption | exact Or.inl (by assumption) | exact Or.inr rfl | (show 0 ≤ _ ∧ _ < _; omega))) rfl ?_
          refine J_new (M := mX7_drawPool) dX7_drawPool_41 ni_X7_21 (hk_fr (by decide) f13) (tg_ne (by decide)) ?_
          refine J_dup (M := mX7_drawPool) dX7_drawPool_44 rfl ?_
          refine Z_iconst (M := mX7_drawPool) dX7_drawPool_45 ?_
          refine J_iload_n (M := mX7_drawPool) dX7_drawPool_46 rfl rfl ?_
          refine J_iload (M := mX7_drawPool) dX7_drawPool_47 rfl ?_
          refine J_callI (M := mX7_drawPool) (as := [_, _, _]) dX7_drawPool_49 ca_X7_339 rfl ⟨by decide, by decide⟩ rfl (Nat.le_of_ble_eq_true rfl) (k' := k + 3 * (pJ F m q f (j + m)).length) (n' := n + 23 * (pJ F m q f (j + m)).length) (by show _ + 2 ≤ _; omega) (by show _ + 15 ≤ _; omega) (kX0_init (F := 1) h82 f13 (Or.inr rfl)) (fun v_49 h_49 hv_49 => ?_)
          obtain ⟨r_49, rfl, rfl, e_49⟩ := hv_49
          rw [e_49, show ts (ts (ts (nbt ρ (ρ 3 0) 1 q j) 24 (ρ 3 0) (if (1 : Int) = 0 then 5 else 3)) 25 (ρ 3 0) 0) 26 (ρ 3 0) 0 = nb2 ρ (ρ 3 0) 1 q j from rfl]
          refine J_aast (M := mX7_drawPool) dX7_drawPool_52 (by decide) rfl rfl (hk_4 rfl) (hk_13 e13) (ix_iI (by omega) (by omega) (by decide)) ?_
          refine Z_h (M := mX7_drawPool) (hkqa_6 (by omega) ⟨by omega, by omega⟩) ?_
          refine J_aload_n (M := mX7_drawPool) dX7_drawPool_53 rfl rfl ?_
          refine J_dup (M := mX7_drawPool) dX7_drawPool_54 rfl ?_
          refine J_getf (M := mX7_drawPool) dX7_drawPool_55 fi_X7_284 (hk_1 (by first | exact rfl | assumption | exact Or.inl (by assumption) | exact Or.inr rfl | (show 0 ≤ _ ∧ _ < _; omega))) rfl ?_
          refine Z_iconst (M := mX7_drawPool) dX7_drawPool_58 ?_
          refine Z_iadd (M := mX7_drawPool) dX7_drawPool_59 ?_
          refine J_putI (M := mX7_drawPool) dX7_drawPool_60 fi_X7_284 (hk_1 (by first | exact rfl | assumption | exact Or.inl (by assumption) | exact Or.inr rfl | (show 0 ≤ _ ∧ _ < _; omega))) (Nat.le_of_ble_eq_true rfl) ?_
          refine Z_h (M := mX7_drawPool) (hkp_3 (by first | exact rfl | assumption | exact Or.inl (by assumption) | exact Or.inr rfl | (show 0 ≤ _ ∧ _ < _; omega))) ?_
          refine J_iload (M := mX7_drawPool) dX7_drawPool_63 rfl ?_
          refine J_iload_n (M := mX7_drawPool) dX7_drawPool_65 rfl rfl ?_
          refine Z_iadd (M := mX7_drawPool) dX7_drawPool_66 ?_
          refine J_istore (M := mX7_drawPool) dX7_drawPool_67 (by decide) ?_
          refine J_goto (M := mX7_drawPool) (tgt := 15) dX7_drawPool_69 (by decide) ?_
          exact J_sub (ih (j + m) (ib ρ q j) (by omega) (by omega) (by omega) (dpC_s hC2) kk) (And.intro rfl (And.intro rfl (And.intro rfl (And.intro rfl (And.intro rfl trivial)))))
    · have eL : pJ F m q (f + 1) j = [] := if_neg c0
      rw [eL] at hC kk ⊢
      refine J_iload (M := mX7_drawPool) dX7_drawPool_15 rfl ?_
      refine J_aload_n (M := mX7_drawPool) dX7_drawPool_17 rfl rfl ?_
      refine J_getf (M := mX7_drawPool) dX7_drawPool_18 fi_X7_52 (hk_1 (by first | exact rfl | assumption | exact Or.inl (by assumption) | exact Or.inr rfl | (show 0 ≤ _ ∧ _ < _; omega))) rfl ?_
      refine Z_eq (M := mX7_drawPool) (b := ρ 1 _) rfl ?_
      refine Z_ic_ge (M := mX7_drawPool) (tgt := 72) (by first | assumption | exact pI_rg _ | (unfold rg; omega)) (by first | assumption | exact pI_rg _ | (unfold rg; omega)) dX7_drawPool_21 (by decide) (fun c_21 => ?_) (fun c_21 => ?_)
      · exact J_sub kk (And.intro rfl (And.intro rfl (And.intro rfl (And.intro rfl trivial))))
      · omega

set_option maxRecDepth 100000 in
set_option maxHeartbeats 4000000 in
theorem cdk {X : GX} {h : LH} {k n : Nat} {Q : LO → LH → Prop} {F m p : Int} (hF : 0 ≤ F ∧ F ≤ 12) (hm1 : 1 ≤ m ∧ m ≤ 4) : ∀ (f : Nat) (q : Int) (ρ : TS), 0 ≤ q → q ≤ 20 → F ≤ q + f → dpC ρ F (pK F m f q).length → J X mX7_drawPool 79 [some (vR (some (1, 0))), some (vI (iI p)), some (vI (iI m)), none, none] [] (hk h (ibL ρ (pK F m f q))) k n Q → J X mX7_drawPool 2 [some (vR (some (1, 0))), some (vI (iI p)), some (vI (iI m)), some (vI (iI q)), none] [] (hk h ρ) (k + 3 * (pK F m f q).length) (n + 23 * (pK F m f q).length) Q := by
  intro f
  induction f with
  | zero =>
    intro q ρ h0 h1 h2 hC kk
    have e1 := hC.1
    refine J_iload_n (M := mX7_drawPool) dX7_drawPool_2 rfl rfl ?_
    refine J_aload_n (M := mX7_drawPool) dX7_drawPool_3 rfl rfl ?_
    refine J_getf (M := mX7_drawPool) dX7_drawPool_4 fi_X7_52 (hk_1 (by first | exact rfl | assumption | exact Or.inl (by assumption) | exact Or.inr rfl | (show 0 ≤ _ ∧ _ < _; omega))) rfl ?_
    refine Z_eq (M := mX7_drawPool) (b := ρ 1 _) rfl ?_
    refine Z_ic_ge (M := mX7_drawPool) (tgt := 79) (by first | assumption | exact pI_rg _ | (unfold rg; omega)) (by first | assumption | exact pI_rg _ | (unfold rg; omega)) dX7_drawPool_7 (by decide) (fun c_7 => ?_) (fun c_7 => ?_)
    · exact J_sub kk (And.intro rfl (And.intro rfl (And.intro rfl trivial)))
    · omega
  | succ f ih =>
    intro q ρ h0 h1 h2 hC kk
    have e1 := hC.1
    by_cases c0 : q < F
    · have eL : pK F m (f + 1) q = pJ F m q 13 (q + m) ++ pK F m f (q + m) := if_pos c0
      rw [eL] at hC kk ⊢
      rw [List.length_append] at hC ⊢
      rw [ibL_app] at kk
      refine J_le (k' := (k + 3 * (pK F m f (q + m)).length) + 3 * (pJ F m q 13 (q + m)).length) (n' := (n + 23 * (pK F m f (q + m)).length) + 23 * (pJ F m q 13 (q + m)).length) (by omega) (by omega) ?_
      have hj := cdj (X := X) (h := h) (p := p) (k := k + 3 * (pK F m f (q + m)).length) (n := n + 23 * (pK F m f (q + m)).length) (Q := Q) hF hm1 (q := q) (by omega) 13 (q + m) ρ (by omega) (by omega) (by omega) (dpC_le hC (by omega)) (by
        have ih2 := ih (q + m) (ibL ρ (pJ F m q 13 (q + m))) (by omega) (by omega) (by omega) (dpC_L _ ρ F _ hC) kk
        refine J_iload_n (M := mX7_drawPool) dX7_drawPool_72 rfl rfl ?_
        refine J_iload_n (M := mX7_drawPool) dX7_drawPool_73 rfl rfl ?_
        refine Z_iadd (M := mX7_drawPool) dX7_drawPool_74 ?_
        refine J_istore_n (M := mX7_drawPool) dX7_drawPool_75 rfl (by decide) ?_
        refine J_goto (M := mX7_drawPool) (tgt := 2) dX7_drawPool_76 (by decide) ?_
        exact J_sub ih2 (And.intro rfl (And.intro rfl (And.intro rfl (And.intro rfl trivial)))))
      refine J_iload_n (M := mX7_drawPool) dX7_drawPool_2 rfl rfl ?_
      refine J_aload_n (M := mX7_drawPool) dX7_drawPool_3 rfl rfl ?_
      refine J_getf (M := mX7_drawPool) dX7_drawPool_4 fi_X7_52 (hk_1 (by first | exact rfl | assumption | exact Or.inl (by assumption) | exact Or.inr rfl | (show 0 ≤ _ ∧ _ < _; omega))) rfl ?_
      refine Z_eq (M := mX7_drawPool) (b := ρ 1 _) rfl ?_
      refine Z_ic_ge (M := mX7_drawPool) (tgt := 79) (by first | assumption | exact pI_rg _ | (unfold rg; omega)) (by first | assumption | exact pI_rg _ | (unfold rg; omega)) dX7_drawPool_7 (by decide) (fun c_7 => ?_) (fun c_7 => ?_)
      · omega
      · refine J_iload_n (M := mX7_drawPool) dX7_drawPool_10 rfl rfl ?_
        refine J_iload_n (M := mX7_drawPool) dX7_drawPool_11 rfl rfl ?_
        refine Z_iadd (M := mX7_drawPool) dX7_drawPool_12 ?_
        refine J_istore (M := mX7_drawPool) dX7_drawPool_13 (by decide) ?_
        exact J_sub hj (And.intro rfl (And.intro rfl (And.intro rfl (And.intro rfl (And.intro rfl trivial)))))
    · have eL : pK F m (f + 1) q = [] := if_neg c0
      rw [eL] at hC kk ⊢
      refine J_iload_n (M := mX7_drawPool) dX7_drawPool_2 rfl rfl ?_
      refine J_aload_n (M := mX7_drawPool) dX7_drawPool_3 rfl rfl ?_
      refine J_getf (M := mX7_drawPool) dX7_drawPool_4 fi_X7_52 (hk_1 (by first | exact rfl | assumption | exact Or.inl (by assumption) | exact Or.inr rfl | (show 0 ≤ _ ∧ _ < _; omega))) rfl ?_
      refine Z_eq (M := mX7_drawPool) (b := ρ 1 _) rfl ?_
      refine Z_ic_ge (M := mX7_drawPool) (tgt := 79) (by first | assumption | exact pI_rg _ | (unfold rg; omega)) (by first | assumption | exact pI_rg _ | (unfold rg; omega)) dX7_drawPool_7 (by decide) (fun c_7 => ?_) (fun c_7 => ?_)
      · exact J_sub kk (And.intro rfl (And.intro rfl (And.intro rfl trivial)))
      · omega

set_option maxRecDepth 100000 in
set_option maxHeartbeats 4000000 in
theorem kX7_drawPool {X : GX} {h : LH} {ρ : TS} {F m p : Int} (hF : 0 ≤ F ∧ F ≤ 12) (hm1 : 1 ≤ m ∧ m ≤ 4) (hp : 0 ≤ p ∧ p ≤ 4) (hC : dpC ρ F (pK F m 13 p).length) : CK X mX7_drawPool [vR (some (1, 0)), vI (iI p), vI (iI m)] h ρ (fun v r => v = none ∧ r = ibL ρ (pK F m 13 p)) := by
  have hlen : (pK F m 13 p).length ≤ 66 := by have := hC.2.2.1; have := hC.2.1; omega
  refine CT_of (by decide +kernel) rfl (Nat.le_of_ble_eq_true rfl) ?_
  refine J_iload_n (M := mX7_drawPool) dX7_drawPool_0 rfl rfl ?_
  refine J_istore_n (M := mX7_drawPool) dX7_drawPool_1 rfl (by decide) ?_
  refine J_le (M := mX7_drawPool) (k' := 0 + 3 * (pK F m 13 p).length) (n' := 0 + 23 * (pK F m 13 p).length) (by show _ ≤ 198; omega) (by show _ ≤ 1518; omega) ?_
  refine J_sub (M := mX7_drawPool) (cdk hF hm1 13 p ρ (by omega) (by omega) (by omega) hC ?_) (And.intro rfl (And.intro rfl (And.intro rfl (And.intro rfl trivial))))
  refine K_vret dX7_drawPool_79 rfl ?_
  exact And.intro rfl rfl

