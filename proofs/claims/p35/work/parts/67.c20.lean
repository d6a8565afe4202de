/-! THE CLASS: the pools drawn -/
def nb2 (ρ : TS) (b F f s : Int) : TS := ts (ts (ts (nbt ρ b F f s) 24 b (if F = 0 then 5 else 3)) 25 b 0) 26 b 0
/-- one more bout of the pools -/
def ib (ρ : TS) (f s : Int) : TS := ts (ts (nb2 ρ (ρ 3 0) 1 f s) 6 (ρ 3 0) (ρ 3 0)) 3 0 (ρ 3 0 + 1)
def ibL : TS → List (Int × Int) → TS
  | ρ, [] => ρ
  | ρ, x :: l => ibL (ib ρ x.1 x.2) l
theorem ibL_app : ∀ (l r : List (Int × Int)) (ρ : TS), ibL ρ (l ++ r) = ibL (ibL ρ l) r
  | [], _, _ => rfl
  | x :: l, r, ρ => ibL_app l r (ib ρ x.1 x.2)
theorem nb2_k {ρ : TS} {b F f s : Int} {k : Nat} (h : ¬ (17 ≤ k ∧ k ≤ 26) ∧ ¬ k = 48) : nb2 ρ b F f s k = ρ k := by
  unfold nb2
  rw [ts_n (by omega), ts_n (by omega), ts_n (by omega), nbt_k h]
theorem ib_k {ρ : TS} {f s : Int} {k : Nat} (h : ¬ (17 ≤ k ∧ k ≤ 26) ∧ ¬ k = 48 ∧ ¬ k = 3 ∧ ¬ k = 6) : ib ρ f s k = ρ k := by
  unfold ib
  rw [ts_n (by omega), ts_n (by omega), nb2_k (by omega)]
theorem ib_3 {ρ : TS} {f s : Int} : ib ρ f s 3 0 = ρ 3 0 + 1 := ts_self
theorem ib_48 {ρ : TS} {f s : Int} : ib ρ f s 48 = upZ (ρ 48) (ρ 3 0) 1 := by
  unfold ib nb2
  rw [ts_n (by decide), ts_n (by decide), ts_n (by decide), ts_n (by decide), ts_n (by decide), nbt_48]
/-- what the draw wants of the state -/
def dpC (ρ : TS) (F : Int) (l : Nat) : Prop := ρ 1 0 = F ∧ 0 ≤ ρ 3 0 ∧ ρ 3 0 + l ≤ 66 ∧ ∀ b, ρ 3 0 ≤ b → b < 66 → ¬ ρ 48 b = 1
theorem dpC_s {ρ : TS} {F f s : Int} {l : Nat} (h : dpC ρ F (l + 1)) : dpC (ib ρ f s) F l := by
  obtain ⟨h1, h2, h3, h4⟩ := h
  refine ⟨by rw [ib_k (by decide)]; exact h1, by rw [ib_3]; omega, by rw [ib_3]; omega, fun b b0 b1 => ?_⟩
  rw [ib_3] at b0
  rw [ib_48, upZ_ne (by omega)]
  exact h4 b (by omega) b1
theorem dpC_L : ∀ (l : List (Int × Int)) (ρ : TS) (F : Int) (n : Nat), dpC ρ F (l.length + n) → dpC (ibL ρ l) F n
  | [], ρ, F, n, h => by rw [List.length_nil, Nat.zero_add] at h; exact h
  | x :: l, ρ, F, n, h => dpC_L l _ F n (dpC_s (by rw [List.length_cons, show l.length + 1 + n = l.length + n + 1 by omega] at h; exact h))
theorem dpC_le {ρ : TS} {F : Int} {n m : Nat} (h : dpC ρ F n) (hm : m ≤ n) : dpC ρ F m := ⟨h.1, h.2.1, by have := h.2.2.1; omega, h.2.2.2⟩
/-- the pool's bouts as the class finds them: all pairs, of which those with the pool's remainder count -/
def nJ (F m p q : Int) : Nat → Int → List (Int × Int)
  | 0, _ => []
  | f + 1, j => if j < F then (if q % m = p ∧ j % m = p then (q, j) :: nJ F m p q f (j + 1) else nJ F m p q f (j + 1)) else []
def nK (F m p : Int) : Nat → Int → List (Int × Int)
  | 0, _ => []
  | f + 1, q => if q < F then nJ F m p q 13 (q + 1) ++ nK F m p f (q + 1) else []
theorem nK_pK {F m p : Int} (h : 0 ≤ F ∧ F ≤ 12) (h' : 1 ≤ m ∧ m ≤ 4) (hp : 0 ≤ p ∧ p < m) : nK F m p 13 0 = pK F m 13 p := by
  have e1 : F = 0 ∨ F = 1 ∨ F = 2 ∨ F = 3 ∨ F = 4 ∨ F = 5 ∨ F = 6 ∨ F = 7 ∨ F = 8 ∨ F = 9 ∨ F = 10 ∨ F = 11 ∨ F = 12 := by omega
  have e2 : (m = 1 ∧ p = 0) ∨ (m = 2 ∧ p = 0) ∨ (m = 2 ∧ p = 1) ∨ (m = 3 ∧ p = 0) ∨ (m = 3 ∧ p = 1) ∨ (m = 3 ∧ p = 2) ∨ (m = 4 ∧ p = 0) ∨ (m = 4 ∧ p = 1) ∨ (m = 4 ∧ p = 2) ∨ (m = 4 ∧ p = 3) := by omega
  rcases e1 with rfl | rfl | rfl | rfl | rfl | rfl | rfl | rfl | rfl | rfl | rfl | rfl | rfl <;> rcases e2 with ⟨rfl, rfl⟩ | ⟨rfl, rfl⟩ | ⟨rfl, rfl⟩ | ⟨rfl, rfl⟩ | ⟨rfl, rfl⟩ | ⟨rfl, rfl⟩ | ⟨rfl, rfl⟩ | ⟨rfl, rfl⟩ | ⟨rfl, rfl⟩ | ⟨rfl, rfl⟩ <;> decide +kernel
theorem rg_mod {q m : Int} (hm : 1 ≤ m ∧ m ≤ 4) : rg (q % m) := by
  have h1 := Int.emod_nonneg q (show m ≠ 0 by omega)
  have h2 := Int.emod_lt_of_pos q (show 0 < m by omega)
  unfold rg
  omega
set_option maxRecDepth 100000 in
set_option maxHeartbeats 4000000 in
theorem kX7_poolOf {X : GX} {h : LH} {f m : Int} (hf : 0 ≤ f ∧ f ≤ 100) (hm1 : 1 ≤ m ∧ m ≤ 4) : CT X mX7_poolOf [vI (iI f), vI (iI m)] h (rQ (fun r h' => r = some (vI (iI (f % m))) ∧ h' = h)) := by
  refine CT_of (by decide +kernel) rfl (Nat.le_of_ble_eq_true rfl) ?_
  refine J_iload_n (M := mX7_poolOf) dX7_poolOf_0 rfl rfl ?_
  refine Z_if_le (M := mX7_poolOf) (tgt := 10) (by first | assumption | exact pI_rg _ | (unfold rg; omega)) dX7_poolOf_1 (by decide) (fun c_1 => ?_) (fun c_1 => ?_)
  · omega
  · refine J_iload_n (M := mX7_poolOf) dX7_poolOf_4 rfl rfl ?_
    refine J_iload_n (M := mX7_poolOf) dX7_poolOf_5 rfl rfl ?_
    refine Z_irem (M := mX7_poolOf) (by omega) (by first | assumption | exact pI_rg _ | (unfold rg; omega)) (by omega) (by first | assumption | exact pI_rg _ | (unfold rg; omega)) dX7_poolOf_6 ?_
    refine J_goto (M := mX7_poolOf) (tgt := 11) dX7_poolOf_7 (by decide) ?_
    refine J_iret (M := mX7_poolOf) dX7_poolOf_11 rfl ?_
    exact ⟨rfl, rfl⟩

set_option maxRecDepth 100000 in
set_option maxHeartbeats 4000000 in
theorem kX7_addPoolBout {X : GX} {h : LH} {ρ : TS} {q j : Int} (h3 : 0 ≤ ρ 3 0 ∧ ρ 3 0 < 66) (f13 : ¬ CE ρ 13 (ρ 3 0)) : CK X mX7_addPoolBout [vR (some (1, 0)), vI (iI q), vI (iI j)] h ρ (fun v r => v = none ∧ r = ib ρ q j) := by
  have h82 : ¬ ρ 3 0 = 82 := by omega
  have e13 : CE (nb2 ρ (ρ 3 0) 1 q j) 13 (ρ 3 0) := by
    show nb2 ρ (ρ 3 0) 1 q j 48 (ρ 3 0) = 1
    unfold nb2
    rw [ts_n (by decide), ts_n (by decide), ts_n (by decide), nbt_48]
    exact upZ_at
  have e3 : ts (nb2 ρ (ρ 3 0) 1 q j) 6 (ρ 3 0) (ρ 3 0) 3 0 = ρ 3 0 := by rw [tsN (by decide), nb2_k (by decide)]
  refine CT_of (by decide +kernel) rfl (Nat.le_of_ble_eq_true rfl) ?_
  refine J_le (k' := (0 + 2) + 1) (n' := (0 + 15) + 8) (Nat.le_of_ble_eq_true rfl) (Nat.le_of_ble_eq_true rfl) ?_
  refine J_aload_n (M := mX7_addPoolBout) dX7_addPoolBout_0 rfl rfl ?_
  refine J_getf (M := mX7_addPoolBout) dX7_addPoolBout_1 fi_X7_284 (hk_1 (by first | exact rfl | assumption | exact Or.inl (by assumption) | exact Or.inr rfl | (show 0 ≤ _ ∧ _ < _; omega))) rfl ?_
  refine Z_eq (M := mX7_addPoolBout) (b := ρ 3 _) rfl ?_
  refine Z_bipush (M := mX7_addPoolBout) dX7_addPoolBout_4 rfl ?_
  refine Z_ic_ge (M := mX7_addPoolBout) (tgt := 38) (by first | assumption | exact pI_rg _ | (unfold rg; omega)) (by first | assumption | exact pI_rg _ | (unfold rg; omega)) dX7_addPoolBout_6 (by decide) (fun c_6 => ?_) (fun c_6 => ?_)
  · omega
  · refine J_aload_n (M := mX7_addPoolBout) dX7_addPoolBout_9 rfl rfl ?_
    refine J_getf (M := mX7_addPoolBout) dX7_addPoolBout_10 fi_X7_23 (hk_1 (by first | exact rfl | assumption | exact Or.inl (by assumption) | exact Or.inr rfl | (show 0 ≤ _ ∧ _ < _; omega))) rfl ?_
    refine J_aload_n (M := mX7_addPoolBout) dX7_addPoolBout_13 rfl rfl ?_
    refine J_getf (M := mX7_addPoolBout) dX7_addPoolBout_14 fi_X7_284 (hk_1 (by first | exact rfl | assumption | exact Or.inl (by assumption) | exact Or.inr rfl | (show 0 ≤ _ ∧ _ < _; omega))) rfl ?_
    refine Z_eq (M := mX7_addPoolBout) (b := ρ 3 _) rfl ?_
    refine J_new (M := mX7_addPoolBout) dX7_addPoolBout_17 ni_X7_21 (hk_fr (by decide) f13) (tg_ne (by decide)) ?_
    refine J_dup (M := mX7_addPoolBout) dX7_addPoolBout_20 rfl ?_
    refine Z_iconst (M := mX7_addPoolBout) dX7_addPoolBout_21 ?_
    refine J_iload_n (M := mX7_addPoolBout) dX7_addPoolBout_22 rfl rfl ?_
    refine J_iload_n (M := mX7_addPoolBout) dX7_addPoolBout_23 rfl rfl ?_
    refine J_callI (M := mX7_addPoolBout) (as := [_, _, _]) dX7_addPoolBout_24 ca_X7_346 rfl ⟨by decide, by decide⟩ rfl (Nat.le_of_ble_eq_true rfl) (k' := 0) (n' := 0) (Nat.le_of_ble_eq_true rfl) (Nat.le_of_ble_eq_true rfl) (kX0_init (F := 1) h82 f13 (Or.inr rfl)) (fun v_24 h_24 hv_24 => ?_)
    obtain ⟨r_24, rfl, rfl, e_24⟩ := hv_24
    rw [e_24, show ts (ts (ts (nbt ρ (ρ 3 0) 1 q j) 24 (ρ 3 0) (if (1 : Int) = 0 then 5 else 3)) 25 (ρ 3 0) 0) 26 (ρ 3 0) 0 = nb2 ρ (ρ 3 0) 1 q j from rfl]
    refine J_aast (M := mX7_addPoolBout) dX7_addPoolBout_27 (by decide) rfl rfl (hk_4 rfl) (hk_13 e13) (ix_iI (by omega) (by omega) (by decide)) ?_
    refine Z_h (M := mX7_addPoolBout) (hkqa_6 (by omega) ⟨by omega, by omega⟩) ?_
    refine J_aload_n (M := mX7_addPoolBout) dX7_addPoolBout_28 rfl rfl ?_
    refine J_dup (M := mX7_addPoolBout) dX7_addPoolBout_29 rfl ?_
    refine J_getf (M := mX7_addPoolBout) dX7_addPoolBout_30 fi_X7_284 (hk_1 (by first | exact rfl | assumption | exact Or.inl (by assumption) | exact Or.inr rfl | (show 0 ≤ _ ∧ _ < _; omega))) rfl ?_
    refine Z_eq (M := mX7_addPoolBout) (b := ρ 3 _) rfl ?_
    refine Z_iconst (M := mX7_addPoolBout) dX7_addPoolBout_33 ?_
    refine Z_iadd (M := mX7_addPoolBout) dX7_addPoolBout_34 ?_
    refine J_putI (M := mX7_addPoolBout) dX7_addPoolBout_35 fi_X7_284 (hk_1 (by first | exact rfl | assumption | exact Or.inl (by assumption) | exact Or.inr rfl | (show 0 ≤ _ ∧ _ < _; omega))) (Nat.le_of_ble_eq_true rfl) ?_
    refine Z_h (M := mX7_addPoolBout) (hkp_3 (by first | exact rfl | assumption | exact Or.inl (by assumption) | exact Or.inr rfl | (show 0 ≤ _ ∧ _ < _; omega))) ?_
    first | refine Z_h (M := mX7_addPoolBout) (show hk h _ = hk h (ib ρ q j) from rfl) ?_ | skip
    refine K_vret dX7_addPoolBout_38 rfl ?_
    exact And.intro rfl rfl

set_option maxRecDepth 100000 in
set_option maxHeartbeats 4000000 in
theorem cdj {X : GX} {h : LH} {k n : Nat} {Q : LO → LH → Prop} {F m p q : Int} (hF : 0 ≤ F ∧ F ≤ 12) (hm1 : 1 ≤ m ∧ m ≤ 4) (hpr : rg p) (hq : 0 ≤ q ∧ q ≤ 11) : ∀ (f : Nat) (j : Int) (ρ : TS), 0 ≤ j → j ≤ 20 → F ≤ j + f → dpC ρ F (nJ F m p q f j).length → J X mX7_drawPool 56 [some (vR (some (1, 0))), some (vI (iI p)), some (vI (iI m)), some (vI (iI q)), none] [] (hk h (ibL ρ (nJ F m p q f j))) k n Q → J X mX7_drawPool 15 [some (vR (some (1, 0))), some (vI (iI p)), some (vI (iI m)), some (vI (iI q)), some (vI (iI j))] [] (hk h ρ) (k + 3 * (nJ F m p q f j).length) (n + 23 * (nJ F m p q f j).length) Q := by
  have rq := rg_mod (q := q) hm1
  intro f
  induction f with
  | zero =>
    intro j ρ h0 h1 h2 hC kk
    have e1 := hC.1
    refine J_iload (M := mX7_drawPool) dX7_drawPool_15 rfl ?_
    refine J_aload_n (M := mX7_drawPool) dX7_drawPool_17 rfl rfl ?_
    refine J_getf (M := mX7_drawPool) dX7_drawPool_18 fi_X7_52 (hk_1 (by first | exact rfl | assumption | exact Or.inl (by assumption) | exact Or.inr rfl | (show 0 ≤ _ ∧ _ < _; omega))) rfl ?_
    refine Z_eq (M := mX7_drawPool) (b := ρ 1 _) rfl ?_
    refine Z_ic_ge (M := mX7_drawPool) (tgt := 56) (by first | assumption | exact pI_rg _ | (unfold rg; omega)) (by first | assumption | exact pI_rg _ | (unfold rg; omega)) dX7_drawPool_21 (by decide) (fun c_21 => ?_) (fun c_21 => ?_)
    · exact J_sub kk (And.intro rfl (And.intro rfl (And.intro rfl (And.intro rfl trivial))))
    · omega
  | succ f ih =>
    intro j ρ h0 h1 h2 hC kk
    have e1 := hC.1
    have rj := rg_mod (q := j) hm1
    by_cases c0 : j < F
    · by_cases cq : q % m = p ∧ j % m = p
      · have eL : nJ F m p q (f + 1) j = (q, j) :: nJ F m p q f (j + 1) := (if_pos c0).trans (if_pos cq)
        rw [eL] at hC kk ⊢
        have hC2 : dpC ρ F ((nJ F m p q f (j + 1)).length + 1) := hC
        obtain ⟨-, c2, c3, c4⟩ := id hC
        rw [List.length_cons] at c3
        have f13 : ¬ CE ρ 13 (ρ 3 0) := c4 _ (by omega) (by omega)
        refine J_le (k' := (k + 3 * (nJ F m p q f (j + 1)).length) + 3) (n' := (n + 23 * (nJ F m p q f (j + 1)).length) + 23) (by rw [List.length_cons]; omega) (by rw [List.length_cons]; omega) ?_
        refine J_iload (M := mX7_drawPool) dX7_drawPool_15 rfl ?_
        refine J_aload_n (M := mX7_drawPool) dX7_drawPool_17 rfl rfl ?_
        refine J_getf (M := mX7_drawPool) dX7_drawPool_18 fi_X7_52 (hk_1 (by first | exact rfl | assumption | exact Or.inl (by assumption) | exact Or.inr rfl | (show 0 ≤ _ ∧ _ < _; omega))) rfl ?_
        refine Z_eq (M := mX7_drawPool) (b := ρ 1 _) rfl ?_
        refine Z_ic_ge (M := mX7_drawPool) (tgt := 56) (by first | assumption | exact pI_rg _ | (unfold rg; omega)) (by first | assumption | exact pI_rg _ | (unfold rg; omega)) dX7_drawPool_21 (by decide) (fun c_21 => ?_) (fun c_21 => ?_)
        · omega
        · refine J_iload_n (M := mX7_drawPool) dX7_drawPool_24 rfl rfl ?_
          refine J_iload_n (M := mX7_drawPool) dX7_drawPool_25 rfl rfl ?_
          refine M_callS (M := mX7_drawPool) (as := [_, _]) dX7_drawPool_26 ca_X7_339 ⟨by decide, by decide⟩ rfl (Nat.le_of_ble_eq_true rfl) rfl rfl (kX7_poolOf (by omega) hm1) ?_
          refine J_iload_n (M := mX7_drawPool) dX7_drawPool_29 rfl rfl ?_
          refine Z_ic_ne (M := mX7_drawPool) (tgt := 50) (by first | assumption | exact pI_rg _ | (unfold rg; omega)) (by first | assumption | exact pI_rg _ | (unfold rg; omega)) dX7_drawPool_30 (by decide) (fun c_30 => ?_) (fun c_30 => ?_)
          · exact absurd cq.1 c_30
          · refine J_iload (M := mX7_drawPool) dX7_drawPool_33 rfl ?_
            refine J_iload_n (M := mX7_drawPool) dX7_drawPool_35 rfl rfl ?_
            refine M_callS (M := mX7_drawPool) (as := [_, _]) dX7_drawPool_36 ca_X7_339 ⟨by decide, by decide⟩ rfl (Nat.le_of_ble_eq_true rfl) rfl rfl (kX7_poolOf (by omega) hm1) ?_
            refine J_iload_n (M := mX7_drawPool) dX7_drawPool_39 rfl rfl ?_
            refine Z_ic_ne (M := mX7_drawPool) (tgt := 50) (by first | assumption | exact pI_rg _ | (unfold rg; omega)) (by first | assumption | exact pI_rg _ | (unfold rg; omega)) dX7_drawPool_40 (by decide) (fun c_40 => ?_) (fun c_40 => ?_)
            · exact absurd cq.2 c_40
            · refine J_aload_n (M := mX7_drawPool) dX7_drawPool_43 rfl rfl ?_
              refine J_iload_n (M := mX7_drawPool) dX7_drawPool_44 rfl rfl ?_
              refine J_iload (M := mX7_drawPool) dX7_drawPool_45 rfl ?_
              refine J_callV (M := mX7_drawPool) (as := [_, _]) dX7_drawPool_47 ca_X7_343 ⟨by decide, by decide⟩ (hk_1 (by first | exact rfl | assumption | exact Or.inl (by assumption) | exact Or.inr rfl | (show 0 ≤ _ ∧ _ < _; omega))) rfl (Nat.le_of_ble_eq_true rfl) (k' := k + 3 * (nJ F m p q f (j + 1)).length) (n' := n + 23 * (nJ F m p q f (j + 1)).length) (Nat.le_refl _) (Nat.le_refl _) (kX7_addPoolBout ⟨c2, by omega⟩ f13) (fun v_47 h_47 hv_47 => ?_)
              obtain ⟨r_47, rfl, hv_47⟩ := hv_47
              obtain ⟨rfl, e_47⟩ := hv_47
              rw [e_47]
              refine Z_iinc (M := mX7_drawPool) dX7_drawPool_50 rfl (by decide) ?_
              refine J_goto (M := mX7_drawPool) (tgt := 15) dX7_drawPool_53 (by decide) ?_
              exact J_sub (ih (j + 1) (ib ρ q j) (by omega) (by omega) (by omega) (dpC_s hC2) kk) (And.intro rfl (And.intro rfl (And.intro rfl (And.intro rfl (And.intro rfl trivial)))))
      · have eL : nJ F m p q (f + 1) j = nJ F m p q f (j + 1) := (if_pos c0).trans (if_neg cq)
        rw [eL] at hC kk ⊢
        refine J_iload (M := mX7_drawPool) dX7_drawPool_15 rfl ?_
        refine J_aload_n (M := mX7_drawPool) dX7_drawPool_17 rfl rfl ?_
        refine J_getf (M := mX7_drawPool) dX7_drawPool_18 fi_X7_52 (hk_1 (by first | exact rfl | assumption | exact Or.inl (by assumption) | exact Or.inr rfl | (show 0 ≤ _ ∧ _ < _; omega))) rfl ?_
        refine Z_eq (M := mX7_drawPool) (b := ρ 1 _) rfl ?_
        refine Z_ic_ge (M := mX7_drawPool) (tgt := 56) (by first | assumption | exact pI_rg _ | (unfold rg; omega)) (by first | assumption | exact pI_rg _ | (unfold rg; omega)) dX7_drawPool_21 (by decide) (fun c_21 => ?_) (fun c_21 => ?_)
        · omega
        · refine J_iload_n (M := mX7_drawPool) dX7_drawPool_24 rfl rfl ?_
          refine J_iload_n (M := mX7_drawPool) dX7_drawPool_25 rfl rfl ?_
          refine M_callS (M := mX7_drawPool) (as := [_, _]) dX7_drawPool_26 ca_X7_339 ⟨by decide, by decide⟩ rfl (Nat.le_of_ble_eq_true rfl) rfl rfl (kX7_poolOf (by omega) hm1) ?_
          refine J_iload_n (M := mX7_drawPool) dX7_drawPool_29 rfl rfl ?_
          refine Z_ic_ne (M := mX7_drawPool) (tgt := 50) (by first | assumption | exact pI_rg _ | (unfold rg; omega)) (by first | assumption | exact pI_rg _ | (unfold rg; omega)) dX7_drawPool_30 (by decide) (fun c_30 => ?_) (fun c_30 => ?_)
          · refine Z_iinc (M := mX7_drawPool) dX7_drawPool_50 rfl (by decide) ?_
            refine J_goto (M := mX7_drawPool) (tgt := 15) dX7_drawPool_53 (by decide) ?_
            exact J_sub (ih (j + 1) ρ (by omega) (by omega) (by omega) hC kk) (And.intro rfl (And.intro rfl (And.intro rfl (And.intro rfl (And.intro rfl trivial)))))
          · refine J_iload (M := mX7_drawPool) dX7_drawPool_33 rfl ?_
            refine J_iload_n (M := mX7_drawPool) dX7_drawPool_35 rfl rfl ?_
            refine M_callS (M := mX7_drawPool) (as := [_, _]) dX7_drawPool_36 ca_X7_339 ⟨by decide, by decide⟩ rfl (Nat.le_of_ble_eq_true rfl) rfl rfl (kX7_poolOf (by omega) hm1) ?_
            refine J_iload_n (M := mX7_drawPool) dX7_drawPool_39 rfl rfl ?_
            refine Z_ic_ne (M := mX7_drawPool) (tgt := 50) (by first | assumption | exact pI_rg _ | (unfold rg; omega)) (by first | assumption | exact pI_rg _ | (unfold rg; omega)) dX7_drawPool_40 (by decide) (fun c_40 => ?_) (fun c_40 => ?_)
            · refine Z_iinc (M := mX7_drawPool) dX7_drawPool_50 rfl (by decide) ?_
              refine J_goto (M := mX7_drawPool) (tgt := 15) dX7_drawPool_53 (by decide) ?_
              exact J_sub (ih (j + 1) ρ (by omega) (by omega) (by omega) hC kk) (And.intro rfl (And.intro rfl (And.intro rfl (And.intro rfl (And.intro rfl trivial)))))
            · exact absurd ⟨c_30, c_40⟩ cq
    · have eL : nJ F m p q (f + 1) j = [] := if_neg c0
      rw [eL] at hC kk ⊢
      refine J_iload (M := mX7_drawPool) dX7_drawPool_15 rfl ?_
      refine J_aload_n (M := mX7_drawPool) dX7_drawPool_17 rfl rfl ?_
      refine J_getf (M := mX7_drawPool) dX7_drawPool_18 fi_X7_52 (hk_1 (by first | exact rfl | assumption | exact Or.inl (by assumption) | exact Or.inr rfl | (show 0 ≤ _ ∧ _ < _; omega))) rfl ?_
      refine Z_eq (M := mX7_drawPool) (b := ρ 1 _) rfl ?_
      refine Z_ic_ge (M := mX7_drawPool) (tgt := 56) (by first | assumption | exact pI_rg _ | (unfold rg; omega)) (by first | assumption | exact pI_rg _ | (unfold rg; omega)) dX7_drawPool_21 (by decide) (fun c_21 => ?_) (fun c_21 => ?_)
      · exact J_sub kk (And.intro rfl (And.intro rfl (And.intro rfl (And.intro rfl trivial))))
      · omega

set_option maxRecDepth 100000 in
set_option maxHeartbeats 4000000 in
theorem cdk {X : GX} {h : LH} {k n : Nat} {Q : LO → LH → Prop} {F m p : Int} (hF : 0 ≤ F ∧ F ≤ 12) (hm1 : 1 ≤ m ∧ m ≤ 4) (hpr : rg p) : ∀ (f : Nat) (q : Int) (ρ : TS), 0 ≤ q → q ≤ 20 → F ≤ q + f → dpC ρ F (nK F m p f q).length → J X mX7_drawPool 62 [some (vR (some (1, 0))), some (vI (iI p)), some (vI (iI m)), none, none] [] (hk h (ibL ρ (nK F m p f q))) k n Q → J X mX7_drawPool 2 [some (vR (some (1, 0))), some (vI (iI p)), some (vI (iI m)), some (vI (iI q)), none] [] (hk h ρ) (k + 3 * (nK F m p f q).length) (n + 23 * (nK F m p f q).length) Q := by
  intro f
  induction f with
  | zero =>
    intro q ρ h0 h1 h2 hC kk
    have e1 := hC.1
    refine J_iload_n (M := mX7_drawPool) dX7_drawPool_2 rfl rfl ?_
    refine J_aload_n (M := mX7_drawPool) dX7_drawPool_3 rfl rfl ?_
    refine J_getf (M := mX7_drawPool) dX7_drawPool_4 fi_X7_52 (hk_1 (by first | exact rfl | assumption | exact Or.inl (by assumption) | exact Or.inr rfl | (show 0 ≤ _ ∧ _ < _; omega))) rfl ?_
    refine Z_eq (M := mX7_drawPool) (b := ρ 1 _) rfl ?_
    refine Z_ic_ge (M := mX7_drawPool) (tgt := 62) (by first | assumption | exact pI_rg _ | (unfold rg; omega)) (by first | assumption | exact pI_rg _ | (unfold rg; omega)) dX7_drawPool_7 (by decide) (fun c_7 => ?_) (fun c_7 => ?_)
    · exact J_sub kk (And.intro rfl (And.intro rfl (And.intro rfl trivial)))
    · omega
  | succ f ih =>
    intro q ρ h0 h1 h2 hC kk
    have e1 := hC.1
    by_cases c0 : q < F
    · have eL : nK F m p (f + 1) q = nJ F m p q 13 (q + 1) ++ nK F m p f (q + 1) := if_pos c0
      rw [eL] at hC kk ⊢
      rw [List.length_append] at hC ⊢
      rw [ibL_app] at kk
      refine J_le (k' := (k + 3 * (nK F m p f (q + 1)).length) + 3 * (nJ F m p q 13 (q + 1)).length) (n' := (n + 23 * (nK F m p f (q + 1)).length) + 23 * (nJ F m p q 13 (q + 1)).length) (by omega) (by omega) ?_
      have hj := cdj (X := X) (h := h) (p := p) (k := k + 3 * (nK F m p f (q + 1)).length) (n := n + 23 * (nK F m p f (q + 1)).length) (Q := Q) hF hm1 hpr (q := q) (by omega) 13 (q + 1) ρ (by omega) (by omega) (by omega) (dpC_le hC (by omega)) (by
        have ih2 := ih (q + 1) (ibL ρ (nJ F m p q 13 (q + 1))) (by omega) (by omega) (by omega) (dpC_L _ ρ F _ hC) kk
        refine Z_iinc (M := mX7_drawPool) dX7_drawPool_56 rfl (by decide) ?_
        refine J_goto (M := mX7_drawPool) (tgt := 2) dX7_drawPool_59 (by decide) ?_
        exact J_sub ih2 (And.intro rfl (And.intro rfl (And.intro rfl (And.intro rfl trivial)))))
      refine J_iload_n (M := mX7_drawPool) dX7_drawPool_2 rfl rfl ?_
      refine J_aload_n (M := mX7_drawPool) dX7_drawPool_3 rfl rfl ?_
      refine J_getf (M := mX7_drawPool) dX7_drawPool_4 fi_X7_52 (hk_1 (by first | exact rfl | assumption | exact Or.inl (by assumption) | exact Or.inr rfl | (show 0 ≤ _ ∧ _ < _; omega))) rfl ?_
      refine Z_eq (M := mX7_drawPool) (b := ρ 1 _) rfl ?_
      refine Z_ic_ge (M := mX7_drawPool) (tgt := 62) (by first | assumption | exact pI_rg _ | (unfold rg; omega)) (by first | assumption | exact pI_rg _ | (unfold rg; omega)) dX7_drawPool_7 (by decide) (fun c_7 => ?_) (fun c_7 => ?_)
      · omega
      · refine J_iload_n (M := mX7_drawPool) dX7_drawPool_10 rfl rfl ?_
        refine Z_iconst (M := mX7_drawPool) dX7_drawPool_11 ?_
        refine Z_iadd (M := mX7_drawPool) dX7_drawPool_12 ?_
        refine J_istore (M := mX7_drawPool) dX7_drawPool_13 (by decide) ?_
        exact J_sub hj (And.intro rfl (And.intro rfl (And.intro rfl (And.intro rfl (And.intro rfl trivial)))))
    · have eL : nK F m p (f + 1) q = [] := if_neg c0
      rw [eL] at hC kk ⊢
      refine J_iload_n (M := mX7_drawPool) dX7_drawPool_2 rfl rfl ?_
      refine J_aload_n (M := mX7_drawPool) dX7_drawPool_3 rfl rfl ?_
      refine J_getf (M := mX7_drawPool) dX7_drawPool_4 fi_X7_52 (hk_1 (by first | exact rfl | assumption | exact Or.inl (by assumption) | exact Or.inr rfl | (show 0 ≤ _ ∧ _ < _; omega))) rfl ?_
      refine Z_eq (M := mX7_drawPool) (b := ρ 1 _) rfl ?_
      refine Z_ic_ge (M := mX7_drawPool) (tgt := 62) (by first | assumption | exact pI_rg _ | (unfold rg; omega)) (by first | assumption | exact pI_rg _ | (unfold rg; omega)) dX7_drawPool_7 (by decide) (fun c_7 => ?_) (fun c_7 => ?_)
      · exact J_sub kk (And.intro rfl (And.intro rfl (And.intro rfl trivial)))
      · omega

set_option maxRecDepth 100000 in
set_option maxHeartbeats 4000000 in
theorem kX7_drawPool {X : GX} {h : LH} {ρ : TS} {F m p : Int} (hF : 0 ≤ F ∧ F ≤ 12) (hm1 : 1 ≤ m ∧ m ≤ 4) (hp : 0 ≤ p ∧ p < m) (hC : dpC ρ F (pK F m 13 p).length) : CK X mX7_drawPool [vR (some (1, 0)), vI (iI p), vI (iI m)] h ρ (fun v r => v = none ∧ r = ibL ρ (pK F m 13 p)) := by
  rw [← nK_pK hF hm1 hp] at hC ⊢
  have hlen : (nK F m p 13 0).length ≤ 66 := by have := hC.2.2.1; have := hC.2.1; omega
  refine CT_of (by decide +kernel) rfl (Nat.le_of_ble_eq_true rfl) ?_
  refine Z_iconst (M := mX7_drawPool) dX7_drawPool_0 ?_
  refine J_istore_n (M := mX7_drawPool) dX7_drawPool_1 rfl (by decide) ?_
  refine J_le (M := mX7_drawPool) (k' := 0 + 3 * (nK F m p 13 0).length) (n' := 0 + 23 * (nK F m p 13 0).length) (by show _ ≤ 198; omega) (by show _ ≤ 1518; omega) ?_
  refine J_sub (M := mX7_drawPool) (cdk hF hm1 (by unfold rg; omega) 13 0 ρ (by omega) (by omega) (by omega) hC ?_) (And.intro rfl (And.intro rfl (And.intro rfl (And.intro rfl trivial))))
  refine K_vret dX7_drawPool_62 rfl ?_
  exact And.intro rfl rfl
