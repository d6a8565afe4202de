/-! THE LAW: what it keeps; a weapon is looked for -/
/-- what the law keeps from act to act -/
def IV (σ : TS) (π : Int → Int64) (g : LH) (ρ τ : TS) (c : Int) : Prop := LW σ π τ ∧ WL σ ∧ LM σ ∧ GF g ∧ RR ρ τ c ∧ (0 ≤ σ 37 8 ∧ σ 37 8 ≤ 3 * c) ∧ (0 ≤ c ∧ c ≤ 200)
theorem gl0 {p q r : Prop} (hp : p) (hq : q) (hr : r) : gl (pI p) (pI q) (pI r) = 0 := by
  unfold gl
  rw [pI_t hp, pI_t hq, pI_t hr]
  rfl
theorem gl01 {p q : Prop} (hp : p) (hq : q) : gl (pI p) (pI q) 1 = 0 := by
  unfold gl
  rw [pI_t hp, pI_t hq]
  rfl
theorem gl011 {p : Prop} (hp : p) : gl (pI p) 1 1 = 0 := by
  unfold gl
  rw [pI_t hp]
  rfl
theorem gl1 {p : Prop} {b c : Int} (hp : ¬ p) : gl (pI p) b c = 1 := by
  unfold gl
  rw [pI_f hp]
  rfl
theorem gl2 {p q : Prop} {c : Int} (hp : p) (hq : ¬ q) : gl (pI p) (pI q) c = 2 := by
  unfold gl
  rw [pI_t hp, pI_f hq]
  rfl
theorem gl3' {p q r : Prop} (hp : p) (hq : q) (hr : ¬ r) : gl (pI p) (pI q) (pI r) = 3 := by
  unfold gl
  rw [pI_t hp, pI_t hq, pI_f hr]
  rfl
/-- what is settled follows from itself -/
theorem fol_st {τ : TS} (W : WF τ) (h : ∀ k, 1 ≤ k → k < τ 21 0 → τ 22 k = fwin τ k) : SQ (fol τ) τ := by
  have b21 := wf21 W 0
  have e := fol_cfd W
  rw [cfd_id _ (fun k a b => h k a (by omega))] at e
  exact SQ_symm e
theorem tlF_le {g : Int} {T U : Int → Int} {n : Int} (h : ∀ i : Int, 0 ≤ i → i < n → T i = U i) : tlF g T n.toNat = tlF g U n.toNat := tlF_cg _ (fun i hi => h i (by omega) (by omega))
/-- a new weapon changes nothing that is told -/
theorem te_new {σ : TS} {π : Int → Int64} {τ u : TS} {w : Int} (L : LW σ π τ) (hw : σ 37 0 ≤ w) (hk : ∀ k, ¬ (k = 2 ∨ k = 3 ∨ k = 4 ∨ k = 5) → u k = τ k) (h3 : ∀ a, ¬ a = w → u 3 a = τ 3 a ∧ u 4 a = τ 4 a) {b : Int} (hb : 0 ≤ b ∧ b ≤ 8) : te u (slb b) = te τ (slb b) := by
  have ed : jd u = jd τ := jd_k2 (hk 0 (by decide)) (fun k hk2 => hk k (by omega))
  have q := (L.2.2.2.2.1 b hb.1 hb.2).1
  have h10 : u 10 = τ 10 := hk 10 (by decide)
  have e : ∀ i : Int, 0 ≤ i → i < τ 10 (slb b) → tch u (slb b) i = tch τ (slb b) i := by
    intro i i0 i1
    have P := (L.2.2.2.2.2.2 b i hb.1 hb.2 i0 (by omega)).2.1
    have s : ∀ a, a < σ 37 0 → (stk u a (slb b) ↔ stk τ a (slb b)) := fun a ha => by
      have := h3 a (by omega)
      unfold stk
      rw [this.1, this.2]
    unfold tch
    rw [ed, hk 13 (by decide)]
    by_cases c1 : stk τ (τ 13 (2 * (12 * slb b + i))) (slb b)
    · rw [if_pos c1, if_pos ((s _ P.1).mpr c1)]
      by_cases c2 : stk τ (τ 13 (2 * (12 * slb b + i) + 1)) (slb b)
      · rw [if_pos c2, if_pos ((s _ P.2).mpr c2)]
      · rw [if_neg c2, if_neg (fun z => c2 ((s _ P.2).mp z))]
    · rw [if_neg c1, if_neg (fun z => c1 ((s _ P.1).mp z))]
      by_cases c2 : stk τ (τ 13 (2 * (12 * slb b + i) + 1)) (slb b)
      · rw [if_pos c2, if_pos ((s _ P.2).mpr c2)]
      · rw [if_neg c2, if_neg (fun z => c2 ((s _ P.2).mp z))]
  unfold te
  rw [h10, tlF_le e]
/-- the ghost behind a new weapon that is tested -/
def nwT (τ : TS) (f : Int) : TS := ts (ts (ts (ts (ts τ 2 (τ 5 0) f) 3 (τ 5 0) 0) 5 0 (τ 5 0 + 1)) 3 (τ 5 0) 1) 4 (τ 5 0) 0
def nwS (σ : TS) (f : Int) : TS := ts (ts (ts σ 30 (2 * σ 37 0) f) 30 (2 * σ 37 0 + 1) 1) 37 0 (σ 37 0 + 1)
theorem nwT_k {τ : TS} {f : Int} {k : Nat} (h : ¬ (k = 2 ∨ k = 3 ∨ k = 4 ∨ k = 5)) : nwT τ f k = τ k := by
  unfold nwT
  rw [ts_n (by omega), ts_n (by omega), ts_n (by omega), ts_n (by omega), ts_n (by omega)]
theorem nwS_k {σ : TS} {f : Int} {k : Nat} (h : ¬ (k = 30 ∨ k = 37)) : nwS σ f k = σ k := by
  unfold nwS
  rw [ts_n (by omega), ts_n (by omega), ts_n (by omega)]
theorem nwS_37 {σ : TS} {f z : Int} (h : ¬ z = 0) : nwS σ f 37 z = σ 37 z := by
  unfold nwS
  rw [ts_else h, ts_n (by decide), ts_n (by decide)]
theorem nwS_0 {σ : TS} {f : Int} : nwS σ f 37 0 = σ 37 0 + 1 := ts_self
theorem nwS_30 {σ : TS} {f z : Int} : nwS σ f 30 z = if z = 2 * σ 37 0 + 1 then 1 else if z = 2 * σ 37 0 then f else σ 30 z := by
  unfold nwS
  rw [ts_n (by decide), ts_s, ts_s]
  rfl
theorem LW_new {σ : TS} {π : Int → Int64} {τ : TS} {f : Int} (L : LW σ π τ) (hf : 0 ≤ f ∧ f ≤ 3) (h0 : 0 ≤ σ 37 0) : LW (nwS σ f) π (nwT τ f) := by
  obtain ⟨⟨⟨a1, a2, a3, a4, a5⟩, a6, a7, a8⟩, p, x, ⟨g1, g2⟩, q, n, B⟩ := L
  have n1 : nwS σ f 37 1 = σ 37 1 := nwS_37 (by decide)
  refine ⟨⟨⟨?_, ?_, ?_, ?_, ?_⟩, ?_, ?_, ?_⟩, ?_, ?_, ⟨?_, ?_⟩, ?_, ?_, ?_⟩
  · rw [nwT_k (by decide), nwS_37 (by decide)]; exact a1
  · rw [nwT_k (by decide)]; exact a2
  · rw [nwS_0, ← a3]; rfl
  · rw [nwT_k (by decide)]; exact a4
  · rw [nwT_k (by decide)]; exact a5
  · rw [nwT_k (by decide)]; exact a6
  · rw [nwT_k (by decide), nwS_37 (by decide)]; exact a7
  · rw [nwT_k (by decide), nwS_37 (by decide)]; exact a8
  · unfold LPo
    rw [nwT_k (k := 6) (by decide), nwT_k (k := 7) (by decide)]
    exact p
  · intro i i0 i1
    rw [nwS_0] at i1
    have t2 : nwT τ f 2 i = if i = τ 5 0 then f else τ 2 i := rfl
    have t3 : nwT τ f 3 i = if i = τ 5 0 then 1 else if i = τ 5 0 then 0 else τ 3 i := rfl
    have t4 : nwT τ f 4 i = if i = τ 5 0 then 0 else τ 4 i := rfl
    rw [t2, t3, t4, nwS_30, nwS_30, a3]
    by_cases e : i = σ 37 0
    · subst e
      rw [if_pos rfl, if_pos rfl, if_pos rfl, if_neg (by omega), if_pos rfl, if_pos rfl]
      exact ⟨rfl, by decide, rfl, fun z => absurd rfl z, fun z => absurd z (by decide)⟩
    · rw [if_neg e, if_neg e, if_neg e, if_neg e, if_neg (by omega), if_neg (by omega), if_neg (by omega), if_neg (by omega)]
      exact x i i0 (by omega)
  · intro h
    rw [n1] at h
    rw [nwT_k (by decide)]
    exact g1 h
  · intro h
    rw [n1] at h ⊢
    rw [nwT_k (k := 17) (by decide), nwT_k (k := 18) (by decide), nwT_k (k := 20) (by decide), nwS_37 (z := 2) (by decide), nwS_37 (z := 3) (by decide), nwS_37 (z := 6) (by decide), nwS_37 (z := 7) (by decide), nwS_0]
    obtain ⟨k1, k2, k3, k4⟩ := g2 h
    exact ⟨k1, by omega, by omega, k4⟩
  · unfold LE
    rw [nwT_k (k := 10) (by decide), nwT_k (k := 11) (by decide), nwS_k (k := 32) (by decide), nwS_k (k := 33) (by decide)]
    exact q
  · unfold LN
    rw [nwT_k (k := 22) (by decide), nwS_k (k := 36) (by decide), nwS_k (k := 32) (by decide), nwS_37 (z := 7) (by decide)]
    exact n
  · intro b j b0 b1 j0 j1
    rw [nwS_k (k := 32) (by decide)] at j1
    obtain ⟨q1, ⟨q2, q3⟩, q4, q5⟩ := B b j b0 b1 j0 j1
    have ed : jd (nwT τ f) = jd τ := jd_k2 (nwT_k (by decide)) (fun k hk2 => nwT_k (by omega))
    have ej : jr (nwT τ f) = jr τ := by
      funext u v
      unfold jr
      rw [nwT_k (k := 0) (by decide), nwT_k (k := 12) (by decide), nwT_k (k := 15) (by decide), nwT_k (k := 16) (by decide)]
    unfold PB
    rw [nwT_k (k := 13) (by decide), ed, ej, nwS_0]
    exact ⟨q1, ⟨by omega, by omega⟩, q4, q5⟩
theorem WF_new {τ : TS} {f : Int} (W : WF τ) (hf : 0 ≤ f ∧ f ≤ 3) (h5 : τ 5 0 < 24) : WF (nwT τ f) := by
  have b := wf5 W 0
  have h1 : (bnd 2).1 ≤ f ∧ f ≤ (bnd 2).2 := by show 0 ≤ f ∧ f ≤ 11; omega
  have h2 : (bnd 5).1 ≤ τ 5 0 + 1 ∧ τ 5 0 + 1 ≤ (bnd 5).2 := by show 0 ≤ τ 5 0 + 1 ∧ τ 5 0 + 1 ≤ 24; omega
  exact WF_ts (WF_ts (WF_ts (WF_ts (WF_ts W h1) (by decide)) h2) (by decide)) (by decide)
/-- a new weapon, tested: what the hall is then -/
theorem SQ_new {σ : TS} {π : Int → Int64} {ρ τ : TS} {c f : Int} (L : LW σ π τ) (M : LM σ) (R : RR ρ τ c) (hf : 0 ≤ f ∧ f ≤ 3) (h5 : τ 5 0 < 24) : SQ (fol (nwT τ f)) (nwT τ f) := by
  have W := WF_new R.1 hf h5
  have a3 := L.1.1.2.2.1
  have a7 := L.1.2.2.1
  have m7 := M.2.2.2.2.2.2.1
  refine fol_st W (fun k k0 k1 => ?_)
  rw [nwT_k (k := 21) (by decide)] at k1
  have hs := (R.2.2.2.1.2.2.2.2.1 k k0 k1).2
  have e : slb (5 + k) = 66 + k := by unfold slb; rw [if_neg (by omega)]; omega
  have ht := te_new (u := nwT τ f) (w := τ 5 0) L (by omega) (fun k hk => nwT_k hk) (fun a ha => by
    have t3 : nwT τ f 3 a = if a = τ 5 0 then 1 else if a = τ 5 0 then 0 else τ 3 a := rfl
    have t4 : nwT τ f 4 a = if a = τ 5 0 then 0 else τ 4 a := rfl
    rw [t3, t4, if_neg ha, if_neg ha, if_neg ha]
    exact ⟨rfl, rfl⟩) (b := 5 + k) (by omega)
  rw [e] at ht
  unfold fwin at hs ⊢
  rw [ht, nwT_k (k := 22) (by decide)]
  exact hs
theorem WL_new {σ : TS} {f : Int} (W : WL σ) (hf : 0 ≤ f ∧ f ≤ 3) : WL (nwS σ f) := WL_ts (WL_ts (WL_ts W (Or.inr (show 0 ≤ f ∧ f ≤ 3 from hf))) (Or.inr (by decide))) (Or.inl rfl)
theorem LM_new {σ : TS} {f : Int} (M : LM σ) (h : σ 37 0 < 16) : LM (nwS σ f) := by
  unfold LM at *
  rw [nwS_37 (z := 1) (by decide), nwS_37 (z := 2) (by decide), nwS_37 (z := 3) (by decide), nwS_37 (z := 4) (by decide), nwS_37 (z := 6) (by decide), nwS_37 (z := 7) (by decide), nwS_37 (z := 9) (by decide), nwS_0]
  exact ⟨by omega, M.2⟩
/-- what armed leaves as it was -/
def AS (σ σ' : TS) : Prop := (∀ k, ¬ (k = 30 ∨ k = 37) → σ' k = σ k) ∧ (∀ z, ¬ z = 0 → σ' 37 z = σ 37 z) ∧ σ 37 0 ≤ σ' 37 0 ∧ ∀ i, i < σ 37 0 → σ' 30 (2 * i) = σ 30 (2 * i) ∧ σ' 30 (2 * i + 1) = σ 30 (2 * i + 1)
theorem AS_rf {σ : TS} : AS σ σ := ⟨fun _ _ => rfl, fun _ _ => rfl, Int.le_refl _, fun _ _ => ⟨rfl, rfl⟩⟩
theorem AS_new {σ : TS} {f : Int} : AS σ (nwS σ f) := ⟨fun k hk => nwS_k hk, fun z hz => nwS_37 hz, by rw [nwS_0]; omega, fun i hi => by rw [nwS_30, nwS_30, if_neg (by omega), if_neg (by omega), if_neg (by omega), if_neg (by omega)]; exact ⟨rfl, rfl⟩⟩
/-- what armed answers -/
def AQ (g : LH) (σ : TS) (π : Int → Int64) (f c : Int) : Option LV → LH → Prop := fun v h' => ∃ (σ' ρ' τ' : TS) (x : Int), v = some (vI (iI x)) ∧ h' = HW g σ' π ρ' ∧ IV σ' π g ρ' τ' c ∧ AS σ σ' ∧ (x = -1 ∨ (0 ≤ x ∧ x < σ' 37 0 ∧ σ' 30 (2 * x) = f ∧ σ' 30 (2 * x + 1) = 1))
set_option maxRecDepth 100000 in
set_option maxHeartbeats 4000000 in
theorem armed_l {X : GX} {g : LH} {σ ρ : TS} {π : Int → Int64} {k n : Nat} {Q : LO → LH → Prop} {f z : Int} (W : WL σ) (M : LM σ) (hf : 0 ≤ f ∧ f ≤ 3) (hz : 0 ≤ z ∧ z ≤ 200000000) (hq : ∀ x, 0 ≤ x → x < σ 37 0 → σ 30 (2 * x) = f → σ 30 (2 * x + 1) = 1 → Q (rt (vI (iI x))) (HW g σ π ρ)) : ∀ (a i : Nat), (i : Int) + a = σ 37 0 → J X mL_armed 53 [some (vR (some (1, 0))), some (vR (some (30, 0))), some (vR (some (37, 0))), some (vI (iI f)), some (vI (iI z)), none, none] [] (HW g σ π ρ) k n Q → J X mL_armed 3 [some (vR (some (1, 0))), some (vR (some (30, 0))), some (vR (some (37, 0))), some (vI (iI f)), some (vI (iI z)), some (vI (iI i)), none] [] (HW g σ π ρ) k n Q := by
  obtain ⟨m0, -⟩ := M
  intro a
  induction a with
  | zero =>
    intro i hi kk
    refine J_iload (M := mL_armed) dL_armed_3 rfl ?_
    refine J_aload_n (M := mL_armed) dL_armed_5 rfl rfl ?_
    refine Z_iconst (M := mL_armed) dL_armed_6 ?_
    refine L_iald (M := mL_armed) (kf := 37) (N := 10) dL_armed_7 (by decide) rfl (by decide) (by omega) (by omega) ?_
    refine Z_ic_ge (M := mL_armed) (tgt := 53) (by first | assumption | exact pI_rg _ | (unfold rg; omega)) (by first | assumption | exact pI_rg _ | (unfold rg; omega)) dL_armed_8 (by decide) (fun c_8 => ?_) (fun c_8 => ?_)
    · exact J_sub kk (And.intro rfl (And.intro rfl (And.intro rfl (And.intro rfl (And.intro rfl trivial)))))
    · omega
  | succ a ih =>
    intro i hi kk
    have kk2 := ih (i + 1) (by push_cast; omega) kk
    refine J_iload (M := mL_armed) dL_armed_3 rfl ?_
    refine J_aload_n (M := mL_armed) dL_armed_5 rfl rfl ?_
    refine Z_iconst (M := mL_armed) dL_armed_6 ?_
    refine L_iald (M := mL_armed) (kf := 37) (N := 10) dL_armed_7 (by decide) rfl (by decide) (by omega) (by omega) ?_
    refine Z_ic_ge (M := mL_armed) (tgt := 53) (by first | assumption | exact pI_rg _ | (unfold rg; omega)) (by first | assumption | exact pI_rg _ | (unfold rg; omega)) dL_armed_8 (by decide) (fun c_8 => ?_) (fun c_8 => ?_)
    · omega
    · refine J_iload (M := mL_armed) dL_armed_11 rfl ?_
      refine J_iload (M := mL_armed) dL_armed_13 rfl ?_
      refine Z_iadd (M := mL_armed) dL_armed_15 ?_
      refine J_aload_n (M := mL_armed) dL_armed_16 rfl rfl ?_
      refine Z_iconst (M := mL_armed) dL_armed_17 ?_
      refine L_iald (M := mL_armed) (kf := 37) (N := 10) dL_armed_18 (by decide) rfl (by decide) (by omega) (by omega) ?_
      refine Z_irem (M := mL_armed) (by omega) (by unfold rg; omega) (by omega) (by unfold rg; omega) dL_armed_19 ?_
      obtain ⟨y, hy⟩ : ∃ y, y = ((i : Int) + z) % σ 37 0 := ⟨_, rfl⟩
      have y0 : 0 ≤ y := by rw [hy]; exact Int.emod_nonneg _ (by omega)
      have y1 : y < σ 37 0 := by rw [hy]; exact Int.emod_lt_of_pos _ (by omega)
      refine Z_eq (M := mL_armed) hy.symm ?_
      have b1 := wl30 W (2 * y)
      have b2 := wl30 W (2 * y + 1)
      refine J_istore (M := mL_armed) dL_armed_20 (by decide) ?_
      refine J_aload_n (M := mL_armed) dL_armed_22 rfl rfl ?_
      refine Z_iconst (M := mL_armed) dL_armed_23 ?_
      refine J_iload (M := mL_armed) dL_armed_24 rfl ?_
      refine Z_imul (M := mL_armed) dL_armed_26 ?_
      refine L_iald (M := mL_armed) (kf := 30) (N := 32) dL_armed_27 (by decide) rfl (by decide) (by omega) (by omega) ?_
      refine J_iload_n (M := mL_armed) dL_armed_28 rfl rfl ?_
      refine Z_ic_ne (M := mL_armed) (tgt := 47) (by first | assumption | exact pI_rg _ | (unfold rg; omega)) (by first | assumption | exact pI_rg _ | (unfold rg; omega)) dL_armed_29 (by decide) (fun c_29 => ?_) (fun c_29 => ?_)
      · refine Z_iinc (M := mL_armed) dL_armed_47 rfl (by decide) ?_
        refine J_goto (M := mL_armed) (tgt := 3) dL_armed_50 (by decide) ?_
        exact J_sub kk2 (And.intro rfl (And.intro rfl (And.intro rfl (And.intro rfl (And.intro rfl (And.intro (vz (by push_cast; omega)) trivial))))))
      · refine J_aload_n (M := mL_armed) dL_armed_32 rfl rfl ?_
        refine Z_iconst (M := mL_armed) dL_armed_33 ?_
        refine J_iload (M := mL_armed) dL_armed_34 rfl ?_
        refine Z_imul (M := mL_armed) dL_armed_36 ?_
        refine Z_iconst (M := mL_armed) dL_armed_37 ?_
        refine Z_iadd (M := mL_armed) dL_armed_38 ?_
        refine L_iald (M := mL_armed) (kf := 30) (N := 32) dL_armed_39 (by decide) rfl (by decide) (by omega) (by omega) ?_
        refine Z_iconst (M := mL_armed) dL_armed_40 ?_
        refine Z_ic_ne (M := mL_armed) (tgt := 47) (by first | assumption | exact pI_rg _ | (unfold rg; omega)) (by first | assumption | exact pI_rg _ | (unfold rg; omega)) dL_armed_41 (by decide) (fun c_41 => ?_) (fun c_41 => ?_)
        · refine Z_iinc (M := mL_armed) dL_armed_47 rfl (by decide) ?_
          refine J_goto (M := mL_armed) (tgt := 3) dL_armed_50 (by decide) ?_
          exact J_sub kk2 (And.intro rfl (And.intro rfl (And.intro rfl (And.intro rfl (And.intro rfl (And.intro (vz (by push_cast; omega)) trivial))))))
        · refine J_iload (M := mL_armed) dL_armed_44 rfl ?_
          refine J_iret (M := mL_armed) dL_armed_46 rfl ?_
          exact hq y y0 y1 (by assumption) (by assumption)

set_option maxRecDepth 100000 in
set_option maxHeartbeats 4000000 in
theorem rL_armed {X : GX} {g : LH} {σ ρ τ : TS} {π : Int → Int64} {c f z : Int} (I : IV σ π g ρ τ c) (hf : 0 ≤ f ∧ f ≤ 3) (hz : 0 ≤ z ∧ z ≤ 200000000) : CT X mL_armed [vR (some (1, 0)), vR (some (30, 0)), vR (some (37, 0)), vI (iI f), vI (iI z)] (HW g σ π ρ) (rQ (AQ g σ π f c)) := by
  obtain ⟨L, W, M, G, R, d8, dc⟩ := id I
  obtain ⟨⟨a1, a2, a3, a4, a5⟩, a6, a7, a8⟩ := L.1
  obtain ⟨m0, m1, m2, m3, m4, m6, m7, m9⟩ := id M
  refine CT_of (by decide +kernel) rfl (Nat.le_of_ble_eq_true rfl) ?_
  refine Z_iconst (M := mL_armed) dL_armed_0 ?_
  refine J_istore (M := mL_armed) dL_armed_1 (by decide) ?_
  refine J_sub (M := mL_armed) (armed_l W M hf hz (fun x x0 x1 x2 x3 => ⟨σ, ρ, τ, x, rfl, rfl, I, AS_rf, Or.inr ⟨x0, x1, x2, x3⟩⟩) (σ 37 0).toNat 0 (by omega) ?_) (And.intro rfl (And.intro rfl (And.intro rfl (And.intro rfl (And.intro rfl (And.intro rfl trivial))))))
  refine J_aload_n (M := mL_armed) dL_armed_53 rfl rfl ?_
  refine Z_iconst (M := mL_armed) dL_armed_54 ?_
  refine L_iald (M := mL_armed) (kf := 37) (N := 10) dL_armed_55 (by decide) rfl (by decide) (by omega) (by omega) ?_
  refine Z_bipush (M := mL_armed) dL_armed_56 rfl ?_
  refine Z_ic_eq (M := mL_armed) (tgt := 68) (by first | assumption | exact pI_rg _ | (unfold rg; omega)) (by first | assumption | exact pI_rg _ | (unfold rg; omega)) dL_armed_58 (by decide) (fun c_58 => ?_) (fun c_58 => ?_)
  · refine Z_iconst (M := mL_armed) dL_armed_68 ?_
    refine J_iret (M := mL_armed) dL_armed_69 rfl ?_
    exact ⟨σ, ρ, τ, -1, rfl, rfl, I, AS_rf, Or.inl rfl⟩
  · refine J_aload_n (M := mL_armed) dL_armed_61 rfl rfl ?_
    refine Z_iconst (M := mL_armed) dL_armed_62 ?_
    refine L_iald (M := mL_armed) (kf := 37) (N := 10) dL_armed_63 (by decide) rfl (by decide) (by omega) (by omega) ?_
    refine Z_iconst (M := mL_armed) dL_armed_64 ?_
    refine Z_ic_ne (M := mL_armed) (tgt := 70) (by first | assumption | exact pI_rg _ | (unfold rg; omega)) (by first | assumption | exact pI_rg _ | (unfold rg; omega)) dL_armed_65 (by decide) (fun c_65 => ?_) (fun c_65 => ?_)
    · refine J_aload_n (M := mL_armed) dL_armed_70 rfl rfl ?_
      refine Z_iconst (M := mL_armed) dL_armed_71 ?_
      refine J_aload_n (M := mL_armed) dL_armed_72 rfl rfl ?_
      refine Z_iconst (M := mL_armed) dL_armed_73 ?_
      refine L_iald (M := mL_armed) (kf := 37) (N := 10) dL_armed_74 (by decide) rfl (by decide) (by omega) (by omega) ?_
      refine Z_imul (M := mL_armed) dL_armed_75 ?_
      refine J_iload_n (M := mL_armed) dL_armed_76 rfl rfl ?_
      refine L_iast (M := mL_armed) (kf := 30) (N := 32) dL_armed_77 (by decide) rfl (by decide) (by omega) (by omega) ?_
      refine J_aload_n (M := mL_armed) dL_armed_78 rfl rfl ?_
      refine Z_iconst (M := mL_armed) dL_armed_79 ?_
      refine J_aload_n (M := mL_armed) dL_armed_80 rfl rfl ?_
      refine Z_iconst (M := mL_armed) dL_armed_81 ?_
      refine L_iald (M := mL_armed) (kf := 37) (N := 10) dL_armed_82 (by decide) rfl (by decide) (by omega) (by omega) ?_
      refine Z_eq (M := mL_armed) (b := σ 37 0) rfl ?_
      refine Z_imul (M := mL_armed) dL_armed_83 ?_
      refine Z_iconst (M := mL_armed) dL_armed_84 ?_
      refine Z_iadd (M := mL_armed) dL_armed_85 ?_
      refine Z_iconst (M := mL_armed) dL_armed_86 ?_
      refine L_iast (M := mL_armed) (kf := 30) (N := 32) dL_armed_87 (by decide) rfl (by decide) (by omega) (by omega) ?_
      refine J_aload_n (M := mL_armed) dL_armed_88 rfl rfl ?_
      refine Z_iconst (M := mL_armed) dL_armed_89 ?_
      refine J_dup2 (M := mL_armed) dL_armed_90 rfl rfl ?_
      refine L_iald (M := mL_armed) (kf := 37) (N := 10) dL_armed_91 (by decide) rfl (by decide) (by omega) (by omega) ?_
      refine Z_eq (M := mL_armed) (b := σ 37 0) rfl ?_
      refine Z_iconst (M := mL_armed) dL_armed_92 ?_
      refine Z_iadd (M := mL_armed) dL_armed_93 ?_
      refine L_iast (M := mL_armed) (kf := 37) (N := 10) dL_armed_94 (by decide) rfl (by decide) (by omega) (by omega) ?_
      refine J_aload_n (M := mL_armed) dL_armed_95 rfl rfl ?_
      refine J_iload_n (M := mL_armed) dL_armed_96 rfl rfl ?_
      have hh : ts (ts (ts σ 30 (2 * σ 37 0) f) 30 (2 * σ 37 0 + 1) 1) 37 0 (σ 37 0 + 1) = nwS σ f := rfl
      rw [hh]
      refine J_callV (M := mL_armed) (as := [_]) dL_armed_97 ca_L_141 ⟨by decide, by decide⟩ lw1 rfl (Nat.le_of_ble_eq_true rfl) (k' := 1) (n' := 6) (by decide) (by decide) (cx0 (p_weapon R (f := f) (by unfold rg; omega)) (gl01 (by omega) (by omega))) (fun v_ h_ hv_ => ?_)
      obtain ⟨rfl, r1, R1, rfl⟩ := hv_
      refine Z_eq (M := mL_armed) a3 ?_
      refine J_aload_n (M := mL_armed) dL_armed_100 rfl rfl ?_
      refine Z_iconst (M := mL_armed) dL_armed_101 ?_
      refine L_iald (M := mL_armed) (kf := 37) (N := 10) dL_armed_102 (by decide) rfl (by decide) (by omega) (by omega) ?_
      refine Z_eq (M := mL_armed) nwS_0 ?_
      refine Z_iconst (M := mL_armed) dL_armed_103 ?_
      refine Z_isub (M := mL_armed) dL_armed_104 ?_
      refine Z_ic_ne (M := mL_armed) (tgt := 143) (by unfold rg; omega) (by unfold rg; omega) dL_armed_105 (by decide) (fun c_105 => ?_) (fun c_105 => ?_)
      · exact absurd c_105 (by omega)
      · refine J_aload_n (M := mL_armed) dL_armed_108 rfl rfl ?_
        refine J_aload_n (M := mL_armed) dL_armed_109 rfl rfl ?_
        refine Z_iconst (M := mL_armed) dL_armed_110 ?_
        refine L_iald (M := mL_armed) (kf := 37) (N := 10) dL_armed_111 (by decide) rfl (by decide) (by omega) (by omega) ?_
        refine Z_eq (M := mL_armed) nwS_0 ?_
        refine Z_iconst (M := mL_armed) dL_armed_112 ?_
        refine Z_isub (M := mL_armed) dL_armed_113 ?_
        refine Z_sipush (M := mL_armed) dL_armed_114 rfl ?_
        refine J_iload (M := mL_armed) dL_armed_117 rfl ?_
        refine Z_sipush (M := mL_armed) dL_armed_119 rfl ?_
        refine Z_irem (M := mL_armed) (by omega) (by first | assumption | exact pI_rg _ | (unfold rg; omega)) (by decide) (by first | assumption | exact pI_rg _ | (unfold rg; omega)) dL_armed_122 ?_
        refine Z_iadd (M := mL_armed) dL_armed_123 ?_
        refine J_iload (M := mL_armed) dL_armed_124 rfl ?_
        refine Z_bipush (M := mL_armed) dL_armed_126 rfl ?_
        refine Z_irem (M := mL_armed) (by omega) (by first | assumption | exact pI_rg _ | (unfold rg; omega)) (by decide) (by first | assumption | exact pI_rg _ | (unfold rg; omega)) dL_armed_128 ?_
        have hw9 : σ 37 0 + 1 - 1 = τ 5 0 := by omega
        have hg1 : 0 ≤ σ 37 0 + 1 - 1 ∧ σ 37 0 + 1 - 1 ≤ (ts (ts (ts τ 2 (τ 5 0) f) 3 (τ 5 0) 0) 5 0 (τ 5 0 + 1)) 5 0 - 1 := by rw [ts_self]; omega
        have hg2 : (0 ≤ 500 + z % 271 ∧ 500 + z % 271 ≤ 2000) ∧ 0 ≤ z % 16 ∧ z % 16 ≤ 100 := by omega
        have hg3 : (0 ≤ σ 37 0 + 1 - 1 ∧ σ 37 0 + 1 - 1 ≤ (ts (ts (ts τ 2 (τ 5 0) f) 3 (τ 5 0) 0) 5 0 (τ 5 0 + 1)) 5 0 - 1) ∧ ¬ (ts (ts (ts τ 2 (τ 5 0) f) 3 (τ 5 0) 0) 5 0 (τ 5 0 + 1)) 3 (σ 37 0 + 1 - 1) = 2 ∧ (ts (ts (ts τ 2 (τ 5 0) f) 3 (τ 5 0) 0) 5 0 (τ 5 0 + 1)) 19 0 = 0 := by
          refine ⟨hg1, ?_, a6⟩
          rw [hw9]
          show ¬ (ts (ts τ 2 (τ 5 0) f) 3 (τ 5 0) 0) 3 (τ 5 0) = 2
          rw [ts_self]
          decide
        have hP : (500 ≤ 500 + z % 271 ∧ 500 + z % 271 ≤ 770) ∧ z % 16 ≤ 15 := by omega
        refine J_callV (M := mL_armed) (as := [_, _, _]) dL_armed_129 ca_L_115 ⟨by decide, by decide⟩ lw1 rfl (Nat.le_of_ble_eq_true rfl) (k' := 0) (n' := 0) (by decide) (by decide) (cx0 (p_test R1 (w := σ 37 0 + 1 - 1) (f := 500 + z % 271) (m := z % 16) (by unfold rg; omega) (by unfold rg; omega) (by unfold rg; omega)) (gl0 hg1 hg2 hg3)) (fun v_ h_ hv_ => ?_)
        obtain ⟨rfl, r2, R2, rfl⟩ := hv_
        first
          | refine Z_pf (M := mL_armed) (tgt := 143) dL_armed_132 (by decide) (fun c_132 => ?_) (fun c_132 => ?_)
          | refine Z_if_eq (M := mL_armed) (tgt := 143) (by first | assumption | exact pI_rg _ | (unfold rg; omega)) dL_armed_132 (by decide) (fun c_132 => ?_) (fun c_132 => ?_)
        · exact absurd hP c_132
        · refine J_aload_n (M := mL_armed) dL_armed_135 rfl rfl ?_
          refine Z_iconst (M := mL_armed) dL_armed_136 ?_
          refine L_iald (M := mL_armed) (kf := 37) (N := 10) dL_armed_137 (by decide) rfl (by decide) (by omega) (by omega) ?_
          refine Z_eq (M := mL_armed) nwS_0 ?_
          refine Z_iconst (M := mL_armed) dL_armed_138 ?_
          refine Z_isub (M := mL_armed) dL_armed_139 ?_
          refine J_goto (M := mL_armed) (tgt := 144) dL_armed_140 (by decide) ?_
          refine J_iret (M := mL_armed) dL_armed_144 rfl ?_
          refine ⟨nwS σ f, r2, fol (nwT τ f), σ 37 0, by rw [show σ 37 0 + 1 - 1 = σ 37 0 by omega], rfl, ⟨LW_SQ (SQ_new L M R hf (by omega)) (LW_new L hf (by omega)), WL_new W hf, LM_new M (by omega), G, ?_, by rw [nwS_37 (by decide)]; exact d8, dc⟩, AS_new, Or.inr ⟨by omega, by rw [nwS_0]; omega, ?_, ?_⟩⟩
          · rw [if_pos hP, pI_f (fun y => y.1 hP), hw9] at R2
            exact R2
          · rw [nwS_30, if_neg (by omega), if_pos rfl]
          · rw [nwS_30, if_pos rfl]
    · refine Z_iconst (M := mL_armed) dL_armed_68 ?_
      refine J_iret (M := mL_armed) dL_armed_69 rfl ?_
      exact ⟨σ, ρ, τ, -1, rfl, rfl, I, AS_rf, Or.inl rfl⟩
  

