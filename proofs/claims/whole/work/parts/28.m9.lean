/-! THE REFERENCE: the pools' sums -/
theorem tch_SQ {u t : TS} (e : SQ u t) : tch u = tch t := by
  funext s n
  unfold tch jd stk
  rw [e 0 (by decide), e 3 (by decide), e 4 (by decide), e 12 (by decide), e 13 (by decide), e 14 (by decide), e 15 (by decide), e 16 (by decide)]
theorem te_SQ {u t : TS} (e : SQ u t) : te u = te t := by
  funext s
  unfold te
  rw [tch_SQ e, e 10 (by decide)]
def adF (τ : TS) (f x y b : Int) : TS := ts (ts (ts (ts τ 29 f (τ 29 f + 1)) 30 f (τ 30 f + b)) 31 f (τ 31 f + x)) 32 f (τ 32 f + y)
/-- the fields that the sums are written in, emptied up to i -/
def zr (τ : TS) (i : Int) : TS := fun k => if 29 ≤ k ∧ k ≤ 32 then (fun z => if 0 ≤ z ∧ z < i then 0 else τ k z) else τ k
theorem zr_0 {τ : TS} : zr τ 0 = τ := by
  funext k
  unfold zr
  split
  · funext z; rw [if_neg (by omega)]
  · rfl
theorem zr_s {τ : TS} {i : Int} (h0 : 0 ≤ i) : ts (ts (ts (ts (zr τ i) 29 i 0) 30 i 0) 31 i 0) 32 i 0 = zr τ (i + 1) := by
  funext k
  have H : ∀ k, upZ (zr τ i k) i 0 = fun z => if z = i then 0 else zr τ i k z := fun k => rfl
  have G : ∀ k, 29 ≤ k ∧ k ≤ 32 → upZ (zr τ i k) i 0 = zr τ (i + 1) k := by
    intro k hk
    rw [H]
    funext z
    unfold zr
    rw [if_pos hk, if_pos hk]
    by_cases e : z = i
    · rw [if_pos e]; show (0 : Int) = if 0 ≤ z ∧ z < i + 1 then 0 else τ k z; rw [if_pos (by omega)]
    · rw [if_neg e]
      by_cases e2 : 0 ≤ z ∧ z < i
      · show (if 0 ≤ z ∧ z < i then (0 : Int) else τ k z) = if 0 ≤ z ∧ z < i + 1 then 0 else τ k z; rw [if_pos e2, if_pos (by omega)]
      · show (if 0 ≤ z ∧ z < i then (0 : Int) else τ k z) = if 0 ≤ z ∧ z < i + 1 then 0 else τ k z; rw [if_neg e2, if_neg (by omega)]
  by_cases a32 : k = 32
  · subst a32; rw [ts_s, ts_n (by decide), ts_n (by decide), ts_n (by decide)]; exact G 32 (by decide)
  rw [ts_n a32]
  by_cases a31 : k = 31
  · subst a31; rw [ts_s, ts_n (by decide), ts_n (by decide)]; exact G 31 (by decide)
  rw [ts_n a31]
  by_cases a30 : k = 30
  · subst a30; rw [ts_s, ts_n (by decide)]; exact G 30 (by decide)
  rw [ts_n a30]
  by_cases a29 : k = 29
  · subst a29; rw [ts_s]; exact G 29 (by decide)
  rw [ts_n a29]
  unfold zr
  rw [if_neg (by omega), if_neg (by omega)]
theorem SQ_zr {τ : TS} {i : Int} : SQ (zr τ i) τ := fun k h => by unfold zr; rw [if_neg (by omega)]
theorem WF_zr {τ : TS} (W : WF τ) (i : Int) : WF (zr τ i) := by
  intro k z h1 h2
  unfold zr
  split
  · rename_i h
    have := W k z h1 h2
    have e : k = 29 ∨ k = 30 ∨ k = 31 ∨ k = 32 := by omega
    show (bnd k).1 ≤ (if 0 ≤ z ∧ z < i then 0 else τ k z) ∧ (if 0 ≤ z ∧ z < i then 0 else τ k z) ≤ (bnd k).2
    split
    · rcases e with rfl | rfl | rfl | rfl <;> decide
    · exact this
  · exact W k z h1 h2
noncomputable def sm1 (τ u : TS) (i : Int) : TS := if (te τ i).2.2 = -1 then t3 u (te τ i) else adF (adF (t3 u (te τ i)) (τ 6 i) (te τ i).1 (te τ i).2.1 (pI ((te τ i).2.2 = 0))) (τ 7 i) (te τ i).2.1 (te τ i).1 (pI ((te τ i).2.2 = 1))
noncomputable def smF (τ : TS) : Nat → TS
  | 0 => zr τ 12
  | i + 1 => sm1 τ (smF τ i) i
theorem SQ_adF {u t : TS} {f x y b : Int} (e : SQ u t) : SQ (adF u f x y b) t := SQ_l (by decide) (SQ_l (by decide) (SQ_l (by decide) (SQ_l (by decide) e)))
theorem SQ_sm1 {u τ t : TS} {i : Int} (e : SQ u t) : SQ (sm1 τ u i) t := by
  unfold sm1
  split
  · exact SQ_t3 e
  · exact SQ_adF (SQ_adF (SQ_t3 e))
theorem SQ_smF {τ : TS} : ∀ i, SQ (smF τ i) τ
  | 0 => SQ_zr
  | i + 1 => SQ_sm1 (SQ_smF i)
/-- the sums of fewer than so many bouts -/
def SB (u : TS) (n : Int) : Prop := ∀ j : Int, 0 ≤ j → j < 12 → u 29 j ≤ n ∧ u 30 j ≤ n ∧ u 31 j ≤ 12 * n ∧ u 32 j ≤ 12 * n
theorem ad_at {τ : TS} {f x y b j : Int} : adF τ f x y b 29 j = (if j = f then τ 29 f + 1 else τ 29 j) ∧ adF τ f x y b 30 j = (if j = f then τ 30 f + b else τ 30 j) ∧ adF τ f x y b 31 j = (if j = f then τ 31 f + x else τ 31 j) ∧ adF τ f x y b 32 j = (if j = f then τ 32 f + y else τ 32 j) := ⟨rfl, rfl, rfl, rfl⟩
theorem SB_ad {τ : TS} {f x y b n : Int} (h : SB τ n) (hf : 0 ≤ f ∧ f < 12) (hx : x ≤ 12) (hy : y ≤ 12) (hb : b ≤ 1) : SB (adF τ f x y b) (n + 1) := by
  intro j h0 h1
  obtain ⟨e1, e2, e3, e4⟩ := ad_at (τ := τ) (f := f) (x := x) (y := y) (b := b) (j := j)
  have q := h j h0 h1
  have q' := h f hf.1 hf.2
  rw [e1, e2, e3, e4]
  split <;> omega
theorem WF_ad {τ : TS} {f x y b n : Int} (W : WF τ) (h : SB τ n) (hn : n ≤ 160) (hf : 0 ≤ f ∧ f < 12) (hx : 0 ≤ x ∧ x ≤ 12) (hy : 0 ≤ y ∧ y ≤ 12) (hb : 0 ≤ b ∧ b ≤ 1) : WF (adF τ f x y b) := by
  have q' := h f hf.1 hf.2
  have a1 := wf29 W f
  have a2 := wf30 W f
  have a3 := wf31 W f
  have a4 := wf32 W f
  refine WF_ts (WF_ts (WF_ts (WF_ts W ?_) ?_) ?_) ?_
  · show (0 : Int) ≤ _ ∧ _ ≤ (2000 : Int); omega
  · show (0 : Int) ≤ _ ∧ _ ≤ (2000 : Int); omega
  · show (0 : Int) ≤ _ ∧ _ ≤ (2000 : Int); omega
  · show (0 : Int) ≤ _ ∧ _ ≤ (2000 : Int); omega
theorem SB_mono {u : TS} {n m : Int} (h : SB u n) (hm : n ≤ m) : SB u m := fun j a b => by have := h j a b; omega
theorem SB_t3 {u : TS} {n : Int} {z : Int × Int × Int} (h : SB u n) : SB (t3 u z) n := h
theorem smF_B {τ : TS} (W : WF τ) : ∀ i : Nat, i ≤ 66 → WF (smF τ i) ∧ SB (smF τ i) (2 * i)
  | 0, _ => And.intro (WF_zr W 12) (fun j a b => by
      have e : ∀ k, 29 ≤ k ∧ k ≤ 32 → zr τ 12 k j = 0 := fun k hk => by unfold zr; rw [if_pos hk]; exact if_pos (by omega)
      show zr τ 12 29 j ≤ _ ∧ zr τ 12 30 j ≤ _ ∧ zr τ 12 31 j ≤ _ ∧ zr τ 12 32 j ≤ _
      rw [e 29 (by decide), e 30 (by decide), e 31 (by decide), e 32 (by decide)]
      omega)
  | i + 1, h => by
      obtain ⟨w, s⟩ := smF_B W i (by omega)
      have bt := te_rg W i
      have b6 := wf6 W i
      have b7 := wf7 W i
      have p0 := pI_01 ((te τ i).2.2 = 0)
      have p1 := pI_01 ((te τ i).2.2 = 1)
      have w1 := WF_t3 w bt
      show WF (sm1 τ (smF τ i) i) ∧ SB (sm1 τ (smF τ i) i) _
      unfold sm1
      split
      · exact And.intro w1 (SB_mono (SB_t3 s) (by omega))
      · have s1 := SB_ad (f := τ 6 i) (x := (te τ i).1) (y := (te τ i).2.1) (b := pI ((te τ i).2.2 = 0)) (SB_t3 (z := te τ i) s) (by omega) (by omega) (by omega) (by omega)
        have w2 := WF_ad (f := τ 6 i) (x := (te τ i).1) (y := (te τ i).2.1) (b := pI ((te τ i).2.2 = 0)) w1 (SB_t3 (z := te τ i) s) (by omega) (by omega) (by omega) (by omega) (by omega)
        exact And.intro (WF_ad w2 s1 (by omega) (by omega) (by omega) (by omega) (by omega)) (SB_mono (SB_ad s1 (by omega) (by omega) (by omega) (by omega)) (by omega))
set_option maxRecDepth 100000 in
set_option maxHeartbeats 4000000 in
theorem c_adds {X : GX} {h : LH} {τ : TS} {f x y : Int} {p : Prop} (hf : 0 ≤ f ∧ f < 12) : CM X mX8_adds [vI (iI f), vI (iI x), vI (iI y), vI (iI (pI p))] h τ (fun v t => v = none ∧ t = adF τ f x y (pI p)) := by
  refine CM_of (by decide +kernel) rfl (Nat.le_of_ble_eq_true rfl) ?_
  refine J_aload_n (M := mX8_adds) dX8_adds_0 rfl rfl ?_
  refine M_get (M := mX8_adds) (v := vR (some (69, 0))) dX8_adds_1 fi_X8_63 rfl ?_
  refine J_iload_n (M := mX8_adds) dX8_adds_4 rfl rfl ?_
  refine J_dup2 (M := mX8_adds) dX8_adds_5 rfl rfl ?_
  refine M_iald (M := mX8_adds) (kf := 29) (N := 12) dX8_adds_6 rfl (by decide) (by omega) (by omega) ?_
  refine Z_eq (M := mX8_adds) (b := τ 29 _) rfl ?_
  refine Z_iconst (M := mX8_adds) dX8_adds_7 ?_
  refine Z_iadd (M := mX8_adds) dX8_adds_8 ?_
  refine M_iast (M := mX8_adds) (kf := 29) (N := 12) dX8_adds_9 rfl rfl rfl rfl (by decide) (by decide) (by omega) (by omega) ?_
  refine J_aload_n (M := mX8_adds) dX8_adds_10 rfl rfl ?_
  refine M_get (M := mX8_adds) (v := vR (some (70, 0))) dX8_adds_11 fi_X8_66 rfl ?_
  refine J_iload_n (M := mX8_adds) dX8_adds_14 rfl rfl ?_
  refine J_dup2 (M := mX8_adds) dX8_adds_15 rfl rfl ?_
  refine M_iald (M := mX8_adds) (kf := 30) (N := 12) dX8_adds_16 rfl (by decide) (by omega) (by omega) ?_
  refine Z_eq (M := mX8_adds) (b := τ 30 _) rfl ?_
  refine Z_bj (M := mX8_adds) (pcB := 27) (p) (fun hj_27 => ?_) ?_
  · refine J_iload (M := mX8_adds) dX8_adds_17 rfl ?_
    first
      | refine Z_pf (M := mX8_adds) (tgt := 26) dX8_adds_19 (by decide) (fun c_19 => ?_) (fun c_19 => ?_)
      | refine Z_if_eq (M := mX8_adds) (tgt := 26) (by first | assumption | exact pI_rg _ | (unfold rg; omega)) dX8_adds_19 (by decide) (fun c_19 => ?_) (fun c_19 => ?_)
    · refine Z_iconst (M := mX8_adds) dX8_adds_26 ?_
      exact hj_27 _ (pI_f (by assumption)).symm
    · refine Z_iconst (M := mX8_adds) dX8_adds_22 ?_
      refine J_goto (M := mX8_adds) (tgt := 27) dX8_adds_23 (by decide) ?_
      exact hj_27 _ (pI_t (by assumption)).symm
  refine Z_iadd (M := mX8_adds) dX8_adds_27 ?_
  refine M_iast (M := mX8_adds) (kf := 30) (N := 12) dX8_adds_28 rfl rfl rfl rfl (by decide) (by decide) (by omega) (by omega) ?_
  refine J_aload_n (M := mX8_adds) dX8_adds_29 rfl rfl ?_
  refine M_get (M := mX8_adds) (v := vR (some (71, 0))) dX8_adds_30 fi_X8_69 rfl ?_
  refine J_iload_n (M := mX8_adds) dX8_adds_33 rfl rfl ?_
  refine J_dup2 (M := mX8_adds) dX8_adds_34 rfl rfl ?_
  refine M_iald (M := mX8_adds) (kf := 31) (N := 12) dX8_adds_35 rfl (by decide) (by omega) (by omega) ?_
  refine Z_eq (M := mX8_adds) (b := τ 31 _) rfl ?_
  refine J_iload_n (M := mX8_adds) dX8_adds_36 rfl rfl ?_
  refine Z_iadd (M := mX8_adds) dX8_adds_37 ?_
  refine M_iast (M := mX8_adds) (kf := 31) (N := 12) dX8_adds_38 rfl rfl rfl rfl (by decide) (by decide) (by omega) (by omega) ?_
  refine J_aload_n (M := mX8_adds) dX8_adds_39 rfl rfl ?_
  refine M_get (M := mX8_adds) (v := vR (some (72, 0))) dX8_adds_40 fi_X8_72 rfl ?_
  refine J_iload_n (M := mX8_adds) dX8_adds_43 rfl rfl ?_
  refine J_dup2 (M := mX8_adds) dX8_adds_44 rfl rfl ?_
  refine M_iald (M := mX8_adds) (kf := 32) (N := 12) dX8_adds_45 rfl (by decide) (by omega) (by omega) ?_
  refine Z_eq (M := mX8_adds) (b := τ 32 _) rfl ?_
  refine J_iload_n (M := mX8_adds) dX8_adds_46 rfl rfl ?_
  refine Z_iadd (M := mX8_adds) dX8_adds_47 ?_
  refine M_iast (M := mX8_adds) (kf := 32) (N := 12) dX8_adds_48 rfl rfl rfl rfl (by decide) (by decide) (by omega) (by omega) ?_
  refine M_vret (M := mX8_adds) dX8_adds_49 rfl ?_
  exact And.intro rfl rfl

set_option maxRecDepth 100000 in
set_option maxHeartbeats 4000000 in
theorem sums_l1 {X : GX} {h : LH} {τ : TS} {k n : Nat} {Q : LO → LH → Prop} : ∀ (m : Nat) (i : Int), 0 ≤ i → i + m = 12 → J X mX8_sums 42 [some (vR (some (20, 0))), none] [] (hm h (zr τ 12)) k n Q → J X mX8_sums 2 [some (vR (some (20, 0))), some (vI (iI i))] [] (hm h (zr τ i)) k n Q := by
  intro m
  induction m with
  | zero =>
    intro i h1 hi kk
    have ei : i = 12 := by omega
    subst ei
    refine J_iload_n (M := mX8_sums) dX8_sums_2 rfl rfl ?_
    refine Z_bipush (M := mX8_sums) dX8_sums_3 rfl ?_
    refine Z_ic_ge (M := mX8_sums) (tgt := 42) (by first | assumption | exact pI_rg _ | (unfold rg; omega)) (by first | assumption | exact pI_rg _ | (unfold rg; omega)) dX8_sums_5 (by decide) (fun c_5 => ?_) (fun c_5 => ?_)
    · exact J_sub kk (And.intro rfl trivial)
    · omega
  | succ m ih =>
    intro i h1 hi kk
    refine J_iload_n (M := mX8_sums) dX8_sums_2 rfl rfl ?_
    refine Z_bipush (M := mX8_sums) dX8_sums_3 rfl ?_
    refine Z_ic_ge (M := mX8_sums) (tgt := 42) (by first | assumption | exact pI_rg _ | (unfold rg; omega)) (by first | assumption | exact pI_rg _ | (unfold rg; omega)) dX8_sums_5 (by decide) (fun c_5 => ?_) (fun c_5 => ?_)
    · omega
    · refine J_aload_n (M := mX8_sums) dX8_sums_8 rfl rfl ?_
      refine M_get (M := mX8_sums) (v := vR (some (69, 0))) dX8_sums_9 fi_X8_63 rfl ?_
      refine J_iload_n (M := mX8_sums) dX8_sums_12 rfl rfl ?_
      refine Z_iconst (M := mX8_sums) dX8_sums_13 ?_
      refine M_iast (M := mX8_sums) (kf := 29) (N := 12) dX8_sums_14 rfl rfl rfl rfl (by decide) (by decide) (by omega) (by omega) ?_
      refine J_aload_n (M := mX8_sums) dX8_sums_15 rfl rfl ?_
      refine M_get (M := mX8_sums) (v := vR (some (70, 0))) dX8_sums_16 fi_X8_66 rfl ?_
      refine J_iload_n (M := mX8_sums) dX8_sums_19 rfl rfl ?_
      refine Z_iconst (M := mX8_sums) dX8_sums_20 ?_
      refine M_iast (M := mX8_sums) (kf := 30) (N := 12) dX8_sums_21 rfl rfl rfl rfl (by decide) (by decide) (by omega) (by omega) ?_
      refine J_aload_n (M := mX8_sums) dX8_sums_22 rfl rfl ?_
      refine M_get (M := mX8_sums) (v := vR (some (71, 0))) dX8_sums_23 fi_X8_69 rfl ?_
      refine J_iload_n (M := mX8_sums) dX8_sums_26 rfl rfl ?_
      refine Z_iconst (M := mX8_sums) dX8_sums_27 ?_
      refine M_iast (M := mX8_sums) (kf := 31) (N := 12) dX8_sums_28 rfl rfl rfl rfl (by decide) (by decide) (by omega) (by omega) ?_
      refine J_aload_n (M := mX8_sums) dX8_sums_29 rfl rfl ?_
      refine M_get (M := mX8_sums) (v := vR (some (72, 0))) dX8_sums_30 fi_X8_72 rfl ?_
      refine J_iload_n (M := mX8_sums) dX8_sums_33 rfl rfl ?_
      refine Z_iconst (M := mX8_sums) dX8_sums_34 ?_
      refine M_iast (M := mX8_sums) (kf := 32) (N := 12) dX8_sums_35 rfl rfl rfl rfl (by decide) (by decide) (by omega) (by omega) ?_
      refine Z_iinc (M := mX8_sums) dX8_sums_36 rfl (by decide) ?_
      refine J_goto (M := mX8_sums) (tgt := 2) dX8_sums_39 (by decide) ?_
      rw [zr_s h1]
      exact J_sub (ih (i + 1) (by omega) (by omega) kk) (And.intro rfl (And.intro rfl trivial))

set_option maxRecDepth 100000 in
set_option maxHeartbeats 4000000 in
theorem sums_l2 {X : GX} {h : LH} {τ : TS} {k n : Nat} {Q : LO → LH → Prop} (W : WF τ) : ∀ (m i : Nat), (i : Int) + m = τ 9 0 → J X mX8_sums 132 [some (vR (some (20, 0))), none] [] (hm h (smF τ (i + m))) k n Q → J X mX8_sums 44 [some (vR (some (20, 0))), some (vI (iI i))] [] (hm h (smF τ i)) k n Q := by
  intro m
  have b9 := wf9 W 0
  induction m with
  | zero =>
    intro i hi kk
    have e9 : smF τ i 9 0 = τ 9 0 := congrFun (SQ_smF i 9 (by decide)) 0
    refine J_iload_n (M := mX8_sums) dX8_sums_44 rfl rfl ?_
    refine J_aload_n (M := mX8_sums) dX8_sums_45 rfl rfl ?_
    refine M_get (M := mX8_sums) dX8_sums_46 fi_X8_92 rfl ?_
    refine Z_eq (M := mX8_sums) e9 ?_
    refine Z_ic_ge (M := mX8_sums) (tgt := 132) (by first | assumption | exact pI_rg _ | (unfold rg; omega)) (by first | assumption | exact pI_rg _ | (unfold rg; omega)) dX8_sums_49 (by decide) (fun c_49 => ?_) (fun c_49 => ?_)
    · exact J_sub kk (And.intro rfl trivial)
    · omega
  | succ m ih =>
    intro i hi kk
    have e9 : smF τ i 9 0 = τ 9 0 := congrFun (SQ_smF i 9 (by decide)) 0
    have e6 : smF τ i 6 i = τ 6 i := congrFun (SQ_smF i 6 (by decide)) i
    have e7 : smF τ i 7 i = τ 7 i := congrFun (SQ_smF i 7 (by decide)) i
    have et := te_SQ (SQ_smF (τ := τ) i)
    obtain ⟨w, s⟩ := smF_B W i (by omega)
    have bt := te_rg W i
    have b6 := wf6 W i
    have b7 := wf7 W i
    have en : smF τ (i + 1) = sm1 τ (smF τ i) i := rfl
    have ea : i + (m + 1) = i + 1 + m := by omega
    rw [ea] at kk
    have kk2 := ih (i + 1) (by push_cast; omega) kk
    rw [en] at kk2
    unfold sm1 at kk2
    generalize smF τ i = u at *
    refine J_iload_n (M := mX8_sums) dX8_sums_44 rfl rfl ?_
    refine J_aload_n (M := mX8_sums) dX8_sums_45 rfl rfl ?_
    refine M_get (M := mX8_sums) dX8_sums_46 fi_X8_92 rfl ?_
    refine Z_eq (M := mX8_sums) e9 ?_
    refine Z_ic_ge (M := mX8_sums) (tgt := 132) (by first | assumption | exact pI_rg _ | (unfold rg; omega)) (by first | assumption | exact pI_rg _ | (unfold rg; omega)) dX8_sums_49 (by decide) (fun c_49 => ?_) (fun c_49 => ?_)
    · omega
    · refine J_aload_n (M := mX8_sums) dX8_sums_52 rfl rfl ?_
      refine J_iload_n (M := mX8_sums) dX8_sums_53 rfl rfl ?_
      refine M_call (M := mX8_sums) (as := [_]) dX8_sums_54 ca_X8_145 ⟨by decide, by decide⟩ rfl (Nat.le_of_ble_eq_true rfl) rfl rfl (c_tells w (by omega) (by omega)) (fun v_54 t_54 hv_54 => ?_)
      obtain ⟨rfl, e_54⟩ := hv_54
      rw [e_54]
      rw [et]
      refine J_aload_n (M := mX8_sums) dX8_sums_57 rfl rfl ?_
      refine M_get (M := mX8_sums) dX8_sums_58 fi_X8_135 rfl ?_
      refine Z_eq (M := mX8_sums) (b := (te τ i).2.2) (rfl) ?_
      refine Z_iconst (M := mX8_sums) dX8_sums_61 ?_
      refine Z_ic_eq (M := mX8_sums) (tgt := 126) (by first | assumption | exact pI_rg _ | (unfold rg; omega)) (by first | assumption | exact pI_rg _ | (unfold rg; omega)) dX8_sums_62 (by decide) (fun c_62 => ?_) (fun c_62 => ?_)
      · refine Z_iinc (M := mX8_sums) dX8_sums_126 rfl (by decide) ?_
        refine J_goto (M := mX8_sums) (tgt := 44) dX8_sums_129 (by decide) ?_
        first
          | (rw [if_pos c_62] at kk2; exact J_sub kk2 (And.intro rfl (And.intro (vz (by push_cast; omega)) trivial)))
          | (rw [if_neg c_62] at kk2; exact J_sub kk2 (And.intro rfl (And.intro (vz (by push_cast; omega)) trivial)))
      · refine J_aload_n (M := mX8_sums) dX8_sums_65 rfl rfl ?_
        refine J_aload_n (M := mX8_sums) dX8_sums_66 rfl rfl ?_
        refine M_get (M := mX8_sums) (v := vR (some (46, 0))) dX8_sums_67 fi_X8_20 rfl ?_
        refine J_iload_n (M := mX8_sums) dX8_sums_70 rfl rfl ?_
        refine M_iald (M := mX8_sums) (kf := 6) (N := 66) dX8_sums_71 rfl (by decide) (by omega) (by omega) ?_
        refine Z_eq (M := mX8_sums) (b := τ 6 i) (e6) ?_
        refine J_aload_n (M := mX8_sums) dX8_sums_72 rfl rfl ?_
        refine M_get (M := mX8_sums) dX8_sums_73 fi_X8_129 rfl ?_
        refine Z_eq (M := mX8_sums) (b := (te τ i).1) (rfl) ?_
        refine J_aload_n (M := mX8_sums) dX8_sums_76 rfl rfl ?_
        refine M_get (M := mX8_sums) dX8_sums_77 fi_X8_132 rfl ?_
        refine Z_eq (M := mX8_sums) (b := (te τ i).2.1) (rfl) ?_
        refine Z_bj (M := mX8_sums) (pcB := 92) ((te τ i).2.2 = 0) (fun hj_92 => ?_) ?_
        · refine J_aload_n (M := mX8_sums) dX8_sums_80 rfl rfl ?_
          refine M_get (M := mX8_sums) dX8_sums_81 fi_X8_135 rfl ?_
          refine Z_eq (M := mX8_sums) (b := (te τ i).2.2) (rfl) ?_
          first
            | refine Z_pt (M := mX8_sums) (tgt := 91) dX8_sums_84 (by decide) (fun c_84 => ?_) (fun c_84 => ?_)
            | refine Z_if_ne (M := mX8_sums) (tgt := 91) (by first | assumption | exact pI_rg _ | (unfold rg; omega)) dX8_sums_84 (by decide) (fun c_84 => ?_) (fun c_84 => ?_)
          · refine Z_iconst (M := mX8_sums) dX8_sums_91 ?_
            exact hj_92 _ (pI_f (by omega)).symm
          · refine Z_iconst (M := mX8_sums) dX8_sums_87 ?_
            refine J_goto (M := mX8_sums) (tgt := 92) dX8_sums_88 (by decide) ?_
            exact hj_92 _ (pI_t (by omega)).symm
        refine M_call (M := mX8_sums) (as := [_, _, _, _]) dX8_sums_92 ca_X8_187 ⟨by decide, by decide⟩ rfl (Nat.le_of_ble_eq_true rfl) rfl rfl (c_adds (by omega)) (fun v_92 t_92 hv_92 => ?_)
        obtain ⟨rfl, e_92⟩ := hv_92
        rw [e_92]
        refine J_aload_n (M := mX8_sums) dX8_sums_95 rfl rfl ?_
        refine J_aload_n (M := mX8_sums) dX8_sums_96 rfl rfl ?_
        refine M_get (M := mX8_sums) (v := vR (some (47, 0))) dX8_sums_97 fi_X8_23 rfl ?_
        refine J_iload_n (M := mX8_sums) dX8_sums_100 rfl rfl ?_
        refine M_iald (M := mX8_sums) (kf := 7) (N := 66) dX8_sums_101 rfl (by decide) (by omega) (by omega) ?_
        refine Z_eq (M := mX8_sums) (b := τ 7 i) (e7) ?_
        refine J_aload_n (M := mX8_sums) dX8_sums_102 rfl rfl ?_
        refine M_get (M := mX8_sums) dX8_sums_103 fi_X8_132 rfl ?_
        refine Z_eq (M := mX8_sums) (b := (te τ i).2.1) (rfl) ?_
        refine J_aload_n (M := mX8_sums) dX8_sums_106 rfl rfl ?_
        refine M_get (M := mX8_sums) dX8_sums_107 fi_X8_129 rfl ?_
        refine Z_eq (M := mX8_sums) (b := (te τ i).1) (rfl) ?_
        refine Z_bj (M := mX8_sums) (pcB := 123) ((te τ i).2.2 = 1) (fun hj_123 => ?_) ?_
        · refine J_aload_n (M := mX8_sums) dX8_sums_110 rfl rfl ?_
          refine M_get (M := mX8_sums) dX8_sums_111 fi_X8_135 rfl ?_
          refine Z_eq (M := mX8_sums) (b := (te τ i).2.2) (rfl) ?_
          refine Z_iconst (M := mX8_sums) dX8_sums_114 ?_
          refine Z_ic_ne (M := mX8_sums) (tgt := 122) (by first | assumption | exact pI_rg _ | (unfold rg; omega)) (by first | assumption | exact pI_rg _ | (unfold rg; omega)) dX8_sums_115 (by decide) (fun c_115 => ?_) (fun c_115 => ?_)
          · refine Z_iconst (M := mX8_sums) dX8_sums_122 ?_
            exact hj_123 _ (pI_f (by omega)).symm
          · refine Z_iconst (M := mX8_sums) dX8_sums_118 ?_
            refine J_goto (M := mX8_sums) (tgt := 123) dX8_sums_119 (by decide) ?_
            exact hj_123 _ (pI_t (by omega)).symm
        refine M_call (M := mX8_sums) (as := [_, _, _, _]) dX8_sums_123 ca_X8_187 ⟨by decide, by decide⟩ rfl (Nat.le_of_ble_eq_true rfl) rfl rfl (c_adds (by omega)) (fun v_123 t_123 hv_123 => ?_)
        obtain ⟨rfl, e_123⟩ := hv_123
        rw [e_123]
        refine Z_iinc (M := mX8_sums) dX8_sums_126 rfl (by decide) ?_
        refine J_goto (M := mX8_sums) (tgt := 44) dX8_sums_129 (by decide) ?_
        first
          | (rw [if_pos c_62] at kk2; exact J_sub kk2 (And.intro rfl (And.intro (vz (by push_cast; omega)) trivial)))
          | (rw [if_neg c_62] at kk2; exact J_sub kk2 (And.intro rfl (And.intro (vz (by push_cast; omega)) trivial)))

set_option maxRecDepth 100000 in
set_option maxHeartbeats 4000000 in
theorem c_sums {X : GX} {h : LH} {τ : TS} (W : WF τ) : CM X mX8_sums [] h τ (fun v t => v = none ∧ t = smF τ (τ 9 0).toNat) := by
  have b9 := wf9 W 0
  refine CM_of (by decide +kernel) rfl (Nat.le_of_ble_eq_true rfl) ?_
  refine Z_iconst (M := mX8_sums) dX8_sums_0 ?_
  refine J_istore_n (M := mX8_sums) dX8_sums_1 rfl (by decide) ?_
  rw [← zr_0 (τ := τ)]
  refine J_sub (M := mX8_sums) (sums_l1 12 0 (by omega) (by omega) ?_) (And.intro rfl (And.intro rfl trivial))
  refine Z_iconst (M := mX8_sums) dX8_sums_42 ?_
  refine J_istore_n (M := mX8_sums) dX8_sums_43 rfl (by decide) ?_
  rw [zr_0]
  refine J_sub (M := mX8_sums) (sums_l2 W (τ 9 0).toNat 0 (by omega) ?_) (And.intro rfl (And.intro rfl trivial))
  rw [Nat.zero_add]
  refine M_vret (M := mX8_sums) dX8_sums_132 rfl ?_
  exact And.intro rfl rfl
  
  

