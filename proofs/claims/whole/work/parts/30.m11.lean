/-! THE REFERENCE: the draws -/
def arT (τ : TS) : Nat → TS
  | 0 => τ
  | i + 1 => t3 (arT τ i) (te τ i)
def dcd (τ : TS) : Nat → Prop
  | 0 => True
  | i + 1 => dcd τ i ∧ ¬ (te τ i).2.2 = -1
theorem SQ_arT {τ : TS} : ∀ i, SQ (arT τ i) τ
  | 0 => SQ_rfl
  | i + 1 => SQ_t3 (SQ_arT i)
theorem WF_arT {τ : TS} (W : WF τ) : ∀ i, WF (arT τ i)
  | 0 => W
  | i + 1 => WF_t3 (WF_arT W i) (te_rg W i)
theorem arT_at {τ : TS} {k : Nat} (h : k < 25 ∨ 27 < k) : ∀ i, arT τ i k = τ k
  | 0 => rfl
  | i + 1 => by show t3 (arT τ i) (te τ i) k = τ k; unfold t3; rw [ts_n (by omega), ts_n (by omega), ts_n (by omega), arT_at h i]
set_option maxRecDepth 100000 in
set_option maxHeartbeats 4000000 in
theorem dec_l {X : GX} {h : LH} {τ : TS} {k n : Nat} {Q : LO → LH → Prop} (W : WF τ) : ∀ (m i : Nat), (i : Int) + m = τ 9 0 → J X mX8_areDecided 41 [some (vR (some (20, 0))), some (vI (iI (pI (dcd τ (i + m))))), none] [] (hm h (arT τ (i + m))) k n Q → J X mX8_areDecided 4 [some (vR (some (20, 0))), some (vI (iI (pI (dcd τ i)))), some (vI (iI i))] [] (hm h (arT τ i)) k n Q := by
  intro m
  have b9 := wf9 W 0
  induction m with
  | zero =>
    intro i hi kk
    have e9 : arT τ i 9 0 = τ 9 0 := congrFun (arT_at (by decide) i) 0
    refine J_iload_n (M := mX8_areDecided) dX8_areDecided_4 rfl rfl ?_
    refine J_aload_n (M := mX8_areDecided) dX8_areDecided_5 rfl rfl ?_
    refine M_get (M := mX8_areDecided) dX8_areDecided_6 fi_X8_92 rfl ?_
    refine Z_eq (M := mX8_areDecided) e9 ?_
    refine Z_ic_ge (M := mX8_areDecided) (tgt := 41) (by first | assumption | exact pI_rg _ | (unfold rg; omega)) (by first | assumption | exact pI_rg _ | (unfold rg; omega)) dX8_areDecided_9 (by decide) (fun c_9 => ?_) (fun c_9 => ?_)
    · exact J_sub kk (And.intro rfl (And.intro rfl trivial))
    · omega
  | succ m ih =>
    intro i hi kk
    have e9 : arT τ i 9 0 = τ 9 0 := congrFun (arT_at (by decide) i) 0
    have et := te_SQ (SQ_arT (τ := τ) i)
    have w := WF_arT W i
    have bt := te_rg W i
    have en : arT τ (i + 1) = t3 (arT τ i) (te τ i) := rfl
    have ed : dcd τ (i + 1) = (dcd τ i ∧ ¬ (te τ i).2.2 = -1) := rfl
    have ea : i + (m + 1) = i + 1 + m := by omega
    rw [ea] at kk
    have kk2 := ih (i + 1) (by push_cast; omega) kk
    rw [en, ed] at kk2
    generalize dcd τ i = d at *
    generalize arT τ i = u at *
    refine J_iload_n (M := mX8_areDecided) dX8_areDecided_4 rfl rfl ?_
    refine J_aload_n (M := mX8_areDecided) dX8_areDecided_5 rfl rfl ?_
    refine M_get (M := mX8_areDecided) dX8_areDecided_6 fi_X8_92 rfl ?_
    refine Z_eq (M := mX8_areDecided) e9 ?_
    refine Z_ic_ge (M := mX8_areDecided) (tgt := 41) (by first | assumption | exact pI_rg _ | (unfold rg; omega)) (by first | assumption | exact pI_rg _ | (unfold rg; omega)) dX8_areDecided_9 (by decide) (fun c_9 => ?_) (fun c_9 => ?_)
    · omega
    · refine J_aload_n (M := mX8_areDecided) dX8_areDecided_12 rfl rfl ?_
      refine J_iload_n (M := mX8_areDecided) dX8_areDecided_13 rfl rfl ?_
      refine M_call (M := mX8_areDecided) (as := [_]) dX8_areDecided_14 ca_X8_145 ⟨by decide, by decide⟩ rfl (Nat.le_of_ble_eq_true rfl) rfl rfl (c_tells w (by omega) (by omega)) (fun v_14 t_14 hv_14 => ?_)
      obtain ⟨rfl, e_14⟩ := hv_14
      rw [e_14]
      rw [et]
      refine Z_bj (M := mX8_areDecided) (pcB := 34) (d ∧ ¬ (te τ i).2.2 = -1) (fun hj_34 => ?_) ?_
      · refine J_iload_n (M := mX8_areDecided) dX8_areDecided_17 rfl rfl ?_
        first
          | refine Z_pf (M := mX8_areDecided) (tgt := 33) dX8_areDecided_18 (by decide) (fun c_18 => ?_) (fun c_18 => ?_)
          | refine Z_if_eq (M := mX8_areDecided) (tgt := 33) (by first | assumption | exact pI_rg _ | (unfold rg; omega)) dX8_areDecided_18 (by decide) (fun c_18 => ?_) (fun c_18 => ?_)
        · refine Z_iconst (M := mX8_areDecided) dX8_areDecided_33 ?_
          exact hj_34 _ (pI_f (by first | exact And.intro (by assumption) (by assumption) | exact fun h => by have := h.1; contradiction | exact fun h => h.2 (by assumption))).symm
        · refine J_aload_n (M := mX8_areDecided) dX8_areDecided_21 rfl rfl ?_
          refine M_get (M := mX8_areDecided) dX8_areDecided_22 fi_X8_135 rfl ?_
          refine Z_eq (M := mX8_areDecided) (b := (te τ i).2.2) (rfl) ?_
          refine Z_iconst (M := mX8_areDecided) dX8_areDecided_25 ?_
          refine Z_ic_eq (M := mX8_areDecided) (tgt := 33) (by first | assumption | exact pI_rg _ | (unfold rg; omega)) (by first | assumption | exact pI_rg _ | (unfold rg; omega)) dX8_areDecided_26 (by decide) (fun c_26 => ?_) (fun c_26 => ?_)
          · refine Z_iconst (M := mX8_areDecided) dX8_areDecided_33 ?_
            exact hj_34 _ (pI_f (by first | exact And.intro (by assumption) (by assumption) | exact fun h => by have := h.1; contradiction | exact fun h => h.2 (by assumption))).symm
          · refine Z_iconst (M := mX8_areDecided) dX8_areDecided_29 ?_
            refine J_goto (M := mX8_areDecided) (tgt := 34) dX8_areDecided_30 (by decide) ?_
            exact hj_34 _ (pI_t (by first | exact And.intro (by assumption) (by assumption) | exact fun h => by have := h.1; contradiction | exact fun h => h.2 (by assumption))).symm
      refine J_istore_n (M := mX8_areDecided) dX8_areDecided_34 rfl (by decide) ?_
      refine Z_iinc (M := mX8_areDecided) dX8_areDecided_35 rfl (by decide) ?_
      refine J_goto (M := mX8_areDecided) (tgt := 4) dX8_areDecided_38 (by decide) ?_
      exact J_sub kk2 (And.intro rfl (And.intro rfl (And.intro (vz (by push_cast; omega)) trivial)))

set_option maxRecDepth 100000 in
set_option maxHeartbeats 4000000 in
theorem c_areDecided {X : GX} {h : LH} {τ : TS} (W : WF τ) : CM X mX8_areDecided [] h τ (fun v t => v = some (vI (iI (pI (dcd τ (τ 9 0).toNat)))) ∧ t = arT τ (τ 9 0).toNat) := by
  have b9 := wf9 W 0
  refine CM_of (by decide +kernel) rfl (Nat.le_of_ble_eq_true rfl) ?_
  refine Z_iconst (M := mX8_areDecided) dX8_areDecided_0 ?_
  refine J_istore_n (M := mX8_areDecided) dX8_areDecided_1 rfl (by decide) ?_
  refine Z_iconst (M := mX8_areDecided) dX8_areDecided_2 ?_
  refine J_istore_n (M := mX8_areDecided) dX8_areDecided_3 rfl (by decide) ?_
  have e1 : (1 : Int) = pI (dcd τ 0) := (pI_t trivial).symm
  refine J_sub (M := mX8_areDecided) (dec_l W (τ 9 0).toNat 0 (by omega) ?_) (And.intro rfl (And.intro (vz e1.symm) (And.intro rfl trivial)))
  rw [Nat.zero_add]
  refine J_iload_n (M := mX8_areDecided) dX8_areDecided_41 rfl rfl ?_
  refine M_zret (M := mX8_areDecided) dX8_areDecided_42 rfl (by first | exact pI_01 _ | exact Or.inl rfl | exact Or.inr rfl | omega) ?_
  exact And.intro rfl rfl
  

def pJ (F m k : Int) : Nat → Int → List (Int × Int)
  | 0, _ => []
  | f + 1, j => if j < F then (k, j) :: pJ F m k f (j + m) else []
def pK (F m : Int) : Nat → Int → List (Int × Int)
  | 0, _ => []
  | f + 1, k => if k < F then pJ F m k 13 (k + m) ++ pK F m f (k + m) else []
def pP (F m : Int) : Nat → Int → List (Int × Int)
  | 0, _ => []
  | f + 1, p => if p < m then pK F m 13 p ++ pP F m f (p + 1) else []
/-- the pools' bouts in their order -/
def pls (F m : Int) : List (Int × Int) := pP F m 5 0
theorem pls_len {F m : Int} (h : 0 ≤ F ∧ F ≤ 12) (h' : 1 ≤ m ∧ m ≤ 4) : (pls F m).length ≤ 66 := by
  have e1 : F = 0 ∨ F = 1 ∨ F = 2 ∨ F = 3 ∨ F = 4 ∨ F = 5 ∨ F = 6 ∨ F = 7 ∨ F = 8 ∨ F = 9 ∨ F = 10 ∨ F = 11 ∨ F = 12 := by omega
  have e2 : m = 1 ∨ m = 2 ∨ m = 3 ∨ m = 4 := by omega
  rcases e1 with rfl | rfl | rfl | rfl | rfl | rfl | rfl | rfl | rfl | rfl | rfl | rfl | rfl <;> rcases e2 with rfl | rfl | rfl | rfl <;> decide +kernel
def in1 (τ : TS) (a b : Int) : TS := ts (ts (ts τ 6 (τ 9 0) a) 7 (τ 9 0) b) 9 0 (τ 9 0 + 1)
def inL : TS → List (Int × Int) → TS
  | τ, [] => τ
  | τ, x :: l => inL (in1 τ x.1 x.2) l
theorem inL_app : ∀ (l r : List (Int × Int)) (τ : TS), inL τ (l ++ r) = inL (inL τ l) r
  | [], _, _ => rfl
  | x :: l, r, τ => inL_app l r (in1 τ x.1 x.2)
theorem in1_9 {τ : TS} {a b : Int} : in1 τ a b 9 0 = τ 9 0 + 1 := rfl
theorem inL_9 : ∀ (l : List (Int × Int)) (τ : TS), inL τ l 9 0 = τ 9 0 + l.length
  | [], τ => by show τ 9 0 = τ 9 0 + ((0 : Nat) : Int); omega
  | x :: l, τ => by show inL (in1 τ x.1 x.2) l 9 0 = _; rw [inL_9 l, in1_9, List.length_cons]; push_cast; omega
theorem inL_k {k : Nat} (h : k ≠ 6 ∧ k ≠ 7 ∧ k ≠ 9) : ∀ (l : List (Int × Int)) (τ : TS), inL τ l k = τ k
  | [], τ => rfl
  | x :: l, τ => by show inL (in1 τ x.1 x.2) l k = _; rw [inL_k h l]; unfold in1; rw [ts_n h.2.2, ts_n h.2.1, ts_n h.1]
def okl (l : List (Int × Int)) : Prop := ∀ x ∈ l, (0 ≤ x.1 ∧ x.1 ≤ 11) ∧ 0 ≤ x.2 ∧ x.2 ≤ 11
theorem WF_inL : ∀ (l : List (Int × Int)) (τ : TS), WF τ → okl l → 0 ≤ τ 9 0 → τ 9 0 + l.length ≤ 66 → WF (inL τ l)
  | [], τ, W, _, _, _ => W
  | x :: l, τ, W, hl, h0, h1 => by
      have hx := hl x (List.mem_cons_self ..)
      rw [List.length_cons] at h1
      push_cast at h1
      exact WF_inL l (in1 τ x.1 x.2) (WF_ts (WF_ts (WF_ts W hx.1) hx.2) (by show (0 : Int) ≤ _ ∧ _ ≤ (66 : Int); omega)) (fun y hy => hl y (List.mem_cons_of_mem _ hy)) (by rw [in1_9]; omega) (by rw [in1_9]; omega)
theorem okl_app {a b : List (Int × Int)} (ha : okl a) (hb : okl b) : okl (a ++ b) := fun x hx => (List.mem_append.mp hx).elim (ha x) (hb x)
theorem okJ {F m k : Int} (hF : F ≤ 12) (hm : 1 ≤ m) (hk : 0 ≤ k ∧ k ≤ 11) : ∀ (f : Nat) (j : Int), 0 ≤ j → okl (pJ F m k f j)
  | 0, _, _ => fun x hx => nomatch hx
  | f + 1, j, hj => by
      show okl (if j < F then (k, j) :: pJ F m k f (j + m) else [])
      split
      · intro x hx
        rcases List.mem_cons.mp hx with e | e
        · subst e; exact And.intro hk (by show 0 ≤ j ∧ j ≤ 11; omega)
        · exact okJ hF hm hk f (j + m) (by omega) x e
      · exact fun x hx => nomatch hx
theorem okK {F m : Int} (hF : F ≤ 12) (hm : 1 ≤ m) : ∀ (f : Nat) (k : Int), 0 ≤ k → okl (pK F m f k)
  | 0, _, _ => fun x hx => nomatch hx
  | f + 1, k, hk => by
      show okl (if k < F then pJ F m k 13 (k + m) ++ pK F m f (k + m) else [])
      split
      · exact okl_app (okJ hF hm (by omega) 13 _ (by omega)) (okK hF hm f _ (by omega))
      · exact fun x hx => nomatch hx
theorem okP {F m : Int} (hF : F ≤ 12) (hm : 1 ≤ m) : ∀ (f : Nat) (p : Int), 0 ≤ p → okl (pP F m f p)
  | 0, _, _ => fun x hx => nomatch hx
  | f + 1, p, hp => by
      show okl (if p < m then pK F m 13 p ++ pP F m f (p + 1) else [])
      split
      · exact okl_app (okK hF hm 13 _ (by omega)) (okP hF hm f _ (by omega))
      · exact fun x hx => nomatch hx
set_option maxRecDepth 100000 in
set_option maxHeartbeats 4000000 in
theorem dp_j {X : GX} {h : LH} {k n : Nat} {Q : LO → LH → Prop} {F m fi po c : Int} (hF : 0 ≤ F ∧ F ≤ 12) (hm1 : 1 ≤ m ∧ m ≤ 4) : ∀ (f : Nat) (j : Int) (u : TS), 0 ≤ j → j ≤ 20 → F ≤ j + f → u 1 0 = F → 0 ≤ u 9 0 → u 9 0 + (pJ F m c f j).length ≤ 66 → J X mX8_drawPools 124 [some (vR (some (20, 0))), some (vI (iI m)), some (vI (iI fi)), some (vI (iI po)), some (vI (iI c)), none] [] (hm h (inL u (pJ F m c f j))) k n Q → J X mX8_drawPools 74 [some (vR (some (20, 0))), some (vI (iI m)), some (vI (iI fi)), some (vI (iI po)), some (vI (iI c)), some (vI (iI j))] [] (hm h u) k n Q := by
  intro f
  induction f with
  | zero =>
    intro j u h0 h1 h2 e1 e2 e3 kk
    refine J_iload (M := mX8_drawPools) dX8_drawPools_74 rfl ?_
    refine J_aload_n (M := mX8_drawPools) dX8_drawPools_76 rfl rfl ?_
    refine M_get (M := mX8_drawPools) dX8_drawPools_77 fi_X8_82 rfl ?_
    refine Z_eq (M := mX8_drawPools) e1 ?_
    refine Z_ic_ge (M := mX8_drawPools) (tgt := 124) (by first | assumption | exact pI_rg _ | (unfold rg; omega)) (by first | assumption | exact pI_rg _ | (unfold rg; omega)) dX8_drawPools_80 (by decide) (fun c_80 => ?_) (fun c_80 => ?_)
    · exact J_sub kk (And.intro rfl (And.intro rfl (And.intro rfl (And.intro rfl (And.intro rfl trivial)))))
    · omega
  | succ f ih =>
    intro j u h0 h1 h2 e1 e2 e3 kk
    have ep : pJ F m c (f + 1) j = if j < F then (c, j) :: pJ F m c f (j + m) else [] := rfl
    rw [ep] at kk e3
    refine J_iload (M := mX8_drawPools) dX8_drawPools_74 rfl ?_
    refine J_aload_n (M := mX8_drawPools) dX8_drawPools_76 rfl rfl ?_
    refine M_get (M := mX8_drawPools) dX8_drawPools_77 fi_X8_82 rfl ?_
    refine Z_eq (M := mX8_drawPools) e1 ?_
    refine Z_ic_ge (M := mX8_drawPools) (tgt := 124) (by first | assumption | exact pI_rg _ | (unfold rg; omega)) (by first | assumption | exact pI_rg _ | (unfold rg; omega)) dX8_drawPools_80 (by decide) (fun c_80 => ?_) (fun c_80 => ?_)
    · rw [if_neg (by omega)] at kk
      exact J_sub kk (And.intro rfl (And.intro rfl (And.intro rfl (And.intro rfl (And.intro rfl trivial)))))
    · rw [if_pos c_80] at kk e3
      rw [List.length_cons] at e3
      push_cast at e3
      refine J_aload_n (M := mX8_drawPools) dX8_drawPools_83 rfl rfl ?_
      refine M_get (M := mX8_drawPools) (v := vR (some (46, 0))) dX8_drawPools_84 fi_X8_20 rfl ?_
      refine J_aload_n (M := mX8_drawPools) dX8_drawPools_87 rfl rfl ?_
      refine M_get (M := mX8_drawPools) dX8_drawPools_88 fi_X8_92 rfl ?_
      refine Z_eq (M := mX8_drawPools) (b := u 9 0) (rfl) ?_
      refine J_iload (M := mX8_drawPools) dX8_drawPools_91 rfl ?_
      refine M_iast (M := mX8_drawPools) (kf := 6) (N := 66) dX8_drawPools_93 rfl rfl rfl rfl (by decide) (by decide) (by omega) (by omega) ?_
      refine J_aload_n (M := mX8_drawPools) dX8_drawPools_94 rfl rfl ?_
      refine M_get (M := mX8_drawPools) (v := vR (some (47, 0))) dX8_drawPools_95 fi_X8_23 rfl ?_
      refine J_aload_n (M := mX8_drawPools) dX8_drawPools_98 rfl rfl ?_
      refine M_get (M := mX8_drawPools) dX8_drawPools_99 fi_X8_92 rfl ?_
      refine Z_eq (M := mX8_drawPools) (b := u 9 0) (rfl) ?_
      refine J_iload (M := mX8_drawPools) dX8_drawPools_102 rfl ?_
      refine M_iast (M := mX8_drawPools) (kf := 7) (N := 66) dX8_drawPools_104 rfl rfl rfl rfl (by decide) (by decide) (by omega) (by omega) ?_
      refine J_aload_n (M := mX8_drawPools) dX8_drawPools_105 rfl rfl ?_
      refine J_dup (M := mX8_drawPools) dX8_drawPools_106 rfl ?_
      refine M_get (M := mX8_drawPools) dX8_drawPools_107 fi_X8_92 rfl ?_
      refine Z_eq (M := mX8_drawPools) (b := u 9 0) (rfl) ?_
      refine Z_iconst (M := mX8_drawPools) dX8_drawPools_110 ?_
      refine Z_iadd (M := mX8_drawPools) dX8_drawPools_111 ?_
      refine M_puti (M := mX8_drawPools) dX8_drawPools_112 fi_X8_92 rfl (by decide) rfl ?_
      refine J_iload (M := mX8_drawPools) dX8_drawPools_115 rfl ?_
      refine J_iload_n (M := mX8_drawPools) dX8_drawPools_117 rfl rfl ?_
      refine Z_iadd (M := mX8_drawPools) dX8_drawPools_118 ?_
      refine J_istore (M := mX8_drawPools) dX8_drawPools_119 (by decide) ?_
      refine J_goto (M := mX8_drawPools) (tgt := 74) dX8_drawPools_121 (by decide) ?_
      exact J_sub (ih (j + m) (in1 u c j) (by omega) (by omega) (by omega) e1 (by rw [in1_9]; omega) (by rw [in1_9]; omega) kk) (And.intro rfl (And.intro rfl (And.intro rfl (And.intro rfl (And.intro rfl (And.intro rfl trivial))))))

set_option maxRecDepth 100000 in
set_option maxHeartbeats 4000000 in
theorem dp_k {X : GX} {h : LH} {k n : Nat} {Q : LO → LH → Prop} {F m fi po c : Int} (hF : 0 ≤ F ∧ F ≤ 12) (hm1 : 1 ≤ m ∧ m ≤ 4) : ∀ (f : Nat) (q : Int) (u : TS), 0 ≤ q → q ≤ 20 → F ≤ q + f → u 1 0 = F → 0 ≤ u 9 0 → u 9 0 + (pK F m f q).length ≤ 66 → J X mX8_drawPools 133 [some (vR (some (20, 0))), some (vI (iI m)), some (vI (iI fi)), some (vI (iI po)), none, none] [] (hm h (inL u (pK F m f q))) k n Q → J X mX8_drawPools 59 [some (vR (some (20, 0))), some (vI (iI m)), some (vI (iI fi)), some (vI (iI po)), some (vI (iI q)), none] [] (hm h u) k n Q := by
  intro f
  induction f with
  | zero =>
    intro q u h0 h1 h2 e1 e2 e3 kk
    refine J_iload (M := mX8_drawPools) dX8_drawPools_59 rfl ?_
    refine J_aload_n (M := mX8_drawPools) dX8_drawPools_61 rfl rfl ?_
    refine M_get (M := mX8_drawPools) dX8_drawPools_62 fi_X8_82 rfl ?_
    refine Z_eq (M := mX8_drawPools) e1 ?_
    refine Z_ic_ge (M := mX8_drawPools) (tgt := 133) (by first | assumption | exact pI_rg _ | (unfold rg; omega)) (by first | assumption | exact pI_rg _ | (unfold rg; omega)) dX8_drawPools_65 (by decide) (fun c_65 => ?_) (fun c_65 => ?_)
    · exact J_sub kk (And.intro rfl (And.intro rfl (And.intro rfl (And.intro rfl trivial))))
    · omega
  | succ f ih =>
    intro q u h0 h1 h2 e1 e2 e3 kk
    have ep : pK F m (f + 1) q = if q < F then pJ F m q 13 (q + m) ++ pK F m f (q + m) else [] := rfl
    rw [ep] at kk e3
    refine J_iload (M := mX8_drawPools) dX8_drawPools_59 rfl ?_
    refine J_aload_n (M := mX8_drawPools) dX8_drawPools_61 rfl rfl ?_
    refine M_get (M := mX8_drawPools) dX8_drawPools_62 fi_X8_82 rfl ?_
    refine Z_eq (M := mX8_drawPools) e1 ?_
    refine Z_ic_ge (M := mX8_drawPools) (tgt := 133) (by first | assumption | exact pI_rg _ | (unfold rg; omega)) (by first | assumption | exact pI_rg _ | (unfold rg; omega)) dX8_drawPools_65 (by decide) (fun c_65 => ?_) (fun c_65 => ?_)
    · rw [if_neg (by omega)] at kk
      exact J_sub kk (And.intro rfl (And.intro rfl (And.intro rfl (And.intro rfl trivial))))
    · refine J_iload (M := mX8_drawPools) dX8_drawPools_68 rfl ?_
      refine J_iload_n (M := mX8_drawPools) dX8_drawPools_70 rfl rfl ?_
      refine Z_iadd (M := mX8_drawPools) dX8_drawPools_71 ?_
      refine J_istore (M := mX8_drawPools) dX8_drawPools_72 (by decide) ?_
      rw [if_pos c_65] at kk e3
      rw [inL_app] at kk
      rw [List.length_append] at e3
      push_cast at e3
      have e19 := inL_9 (pJ F m q 13 (q + m)) u
      have e11 : inL u (pJ F m q 13 (q + m)) 1 0 = F := by rw [inL_k (by decide)]; exact e1
      refine J_sub (M := mX8_drawPools) (dp_j (c := q) hF hm1 13 (q + m) u (by omega) (by omega) (by omega) e1 e2 (by omega) ?_) (And.intro rfl (And.intro rfl (And.intro rfl (And.intro rfl (And.intro rfl (And.intro rfl trivial))))))
      refine J_iload (M := mX8_drawPools) dX8_drawPools_124 rfl ?_
      refine J_iload_n (M := mX8_drawPools) dX8_drawPools_126 rfl rfl ?_
      refine Z_iadd (M := mX8_drawPools) dX8_drawPools_127 ?_
      refine J_istore (M := mX8_drawPools) dX8_drawPools_128 (by decide) ?_
      refine J_goto (M := mX8_drawPools) (tgt := 59) dX8_drawPools_130 (by decide) ?_
      exact J_sub (ih (q + m) _ (by omega) (by omega) (by omega) e11 (by omega) (by omega) kk) (And.intro rfl (And.intro rfl (And.intro rfl (And.intro rfl (And.intro rfl trivial)))))
      

set_option maxRecDepth 100000 in
set_option maxHeartbeats 4000000 in
theorem dp_p {X : GX} {h : LH} {k n : Nat} {Q : LO → LH → Prop} {F m fi po c : Int} (hF : 0 ≤ F ∧ F ≤ 12) (hm1 : 1 ≤ m ∧ m ≤ 4) : ∀ (f : Nat) (q : Int) (u : TS), 0 ≤ q → q ≤ 20 → m ≤ q + f → u 1 0 = F → 0 ≤ u 9 0 → u 9 0 + (pP F m f q).length ≤ 66 → J X mX8_drawPools 139 [some (vR (some (20, 0))), some (vI (iI m)), some (vI (iI fi)), none, none, none] [] (hm h (inL u (pP F m f q))) k n Q → J X mX8_drawPools 51 [some (vR (some (20, 0))), some (vI (iI m)), some (vI (iI fi)), some (vI (iI q)), none, none] [] (hm h u) k n Q := by
  intro f
  induction f with
  | zero =>
    intro q u h0 h1 h2 e1 e2 e3 kk
    refine J_iload_n (M := mX8_drawPools) dX8_drawPools_51 rfl rfl ?_
    refine J_iload_n (M := mX8_drawPools) dX8_drawPools_52 rfl rfl ?_
    refine Z_ic_ge (M := mX8_drawPools) (tgt := 139) (by first | assumption | exact pI_rg _ | (unfold rg; omega)) (by first | assumption | exact pI_rg _ | (unfold rg; omega)) dX8_drawPools_53 (by decide) (fun c_53 => ?_) (fun c_53 => ?_)
    · exact J_sub kk (And.intro rfl (And.intro rfl (And.intro rfl trivial)))
    · omega
  | succ f ih =>
    intro q u h0 h1 h2 e1 e2 e3 kk
    have ep : pP F m (f + 1) q = if q < m then pK F m 13 q ++ pP F m f (q + 1) else [] := rfl
    rw [ep] at kk e3
    refine J_iload_n (M := mX8_drawPools) dX8_drawPools_51 rfl rfl ?_
    refine J_iload_n (M := mX8_drawPools) dX8_drawPools_52 rfl rfl ?_
    refine Z_ic_ge (M := mX8_drawPools) (tgt := 139) (by first | assumption | exact pI_rg _ | (unfold rg; omega)) (by first | assumption | exact pI_rg _ | (unfold rg; omega)) dX8_drawPools_53 (by decide) (fun c_53 => ?_) (fun c_53 => ?_)
    · rw [if_neg (by omega)] at kk
      exact J_sub kk (And.intro rfl (And.intro rfl (And.intro rfl trivial)))
    · refine J_iload_n (M := mX8_drawPools) dX8_drawPools_56 rfl rfl ?_
      refine J_istore (M := mX8_drawPools) dX8_drawPools_57 (by decide) ?_
      rw [if_pos c_53] at kk e3
      rw [inL_app] at kk
      rw [List.length_append] at e3
      push_cast at e3
      have e19 := inL_9 (pK F m 13 q) u
      have e11 : inL u (pK F m 13 q) 1 0 = F := by rw [inL_k (by decide)]; exact e1
      refine J_sub (M := mX8_drawPools) (dp_k (c := 0) hF hm1 13 q u (by omega) (by omega) (by omega) e1 e2 (by omega) ?_) (And.intro rfl (And.intro rfl (And.intro rfl (And.intro rfl (And.intro rfl trivial)))))
      refine Z_iinc (M := mX8_drawPools) dX8_drawPools_133 rfl (by decide) ?_
      refine J_goto (M := mX8_drawPools) (tgt := 51) dX8_drawPools_136 (by decide) ?_
      exact J_sub (ih (q + 1) _ (by omega) (by omega) (by omega) e11 (by omega) (by omega) kk) (And.intro rfl (And.intro rfl (And.intro rfl (And.intro rfl trivial))))
      

set_option maxRecDepth 100000 in
set_option maxHeartbeats 4000000 in
theorem c_drawPools {X : GX} {h : LH} {τ : TS} (W : WF τ) {m : Int} (hm1 : rg m) (h9 : τ 8 0 = 0 → τ 9 0 = 0) : CM X mX8_drawPools [vI (iI m)] h τ (ans τ (gl (pI (1 ≤ m ∧ m ≤ 4)) (pI ((1 ≤ m ∧ m ≤ 4) ∧ τ 8 0 = 0 ∧ 2 * m ≤ τ 1 0)) 1) (((pls (τ 1 0) m).length : Int)) (inL (ts (ts τ 33 0 0) 8 0 m) (pls (τ 1 0) m))) := by
  have b1 := wf1 W 0
  have b8 := wf8 W 0
  refine CM_of (by decide +kernel) rfl (Nat.le_of_ble_eq_true rfl) ?_
  refine J_iload_n (M := mX8_drawPools) dX8_drawPools_0 rfl rfl ?_
  refine Z_iconst (M := mX8_drawPools) dX8_drawPools_1 ?_
  refine Z_iconst (M := mX8_drawPools) dX8_drawPools_2 ?_
  refine M_callS (M := mX8_drawPools) (as := [_, _, _]) dX8_drawPools_3 ca_X8_85 ⟨by decide, by decide⟩ rfl (Nat.le_of_ble_eq_true rfl) rfl rfl (c_in (by first | assumption | exact pI_rg _ | (unfold rg; omega)) (by first | assumption | exact pI_rg _ | (unfold rg; omega)) (by first | assumption | exact pI_rg _ | (unfold rg; omega))) ?_
  refine J_istore_n (M := mX8_drawPools) dX8_drawPools_6 rfl (by decide) ?_
  refine J_aload_n (M := mX8_drawPools) dX8_drawPools_7 rfl rfl ?_
  refine J_iload_n (M := mX8_drawPools) dX8_drawPools_8 rfl rfl ?_
  refine Z_bj (M := mX8_drawPools) (pcB := 35) ((1 ≤ m ∧ m ≤ 4) ∧ τ 8 0 = 0 ∧ 2 * m ≤ τ 1 0) (fun hj_35 => ?_) ?_
  · refine J_iload_n (M := mX8_drawPools) dX8_drawPools_9 rfl rfl ?_
    first
      | refine Z_pf (M := mX8_drawPools) (tgt := 34) dX8_drawPools_10 (by decide) (fun c_10 => ?_) (fun c_10 => ?_)
      | refine Z_if_eq (M := mX8_drawPools) (tgt := 34) (by first | assumption | exact pI_rg _ | (unfold rg; omega)) dX8_drawPools_10 (by decide) (fun c_10 => ?_) (fun c_10 => ?_)
    · refine Z_iconst (M := mX8_drawPools) dX8_drawPools_34 ?_
      exact hj_35 _ (pI_f (by omega)).symm
    · refine J_aload_n (M := mX8_drawPools) dX8_drawPools_13 rfl rfl ?_
      refine M_get (M := mX8_drawPools) dX8_drawPools_14 fi_X8_98 rfl ?_
      refine Z_eq (M := mX8_drawPools) (b := τ 8 0) rfl ?_
      first
        | refine Z_pt (M := mX8_drawPools) (tgt := 34) dX8_drawPools_17 (by decide) (fun c_17 => ?_) (fun c_17 => ?_)
        | refine Z_if_ne (M := mX8_drawPools) (tgt := 34) (by first | assumption | exact pI_rg _ | (unfold rg; omega)) dX8_drawPools_17 (by decide) (fun c_17 => ?_) (fun c_17 => ?_)
      · refine Z_iconst (M := mX8_drawPools) dX8_drawPools_34 ?_
        exact hj_35 _ (pI_f (by omega)).symm
      · refine J_aload_n (M := mX8_drawPools) dX8_drawPools_20 rfl rfl ?_
        refine M_get (M := mX8_drawPools) dX8_drawPools_21 fi_X8_82 rfl ?_
        refine Z_eq (M := mX8_drawPools) (b := τ 1 0) rfl ?_
        refine Z_iconst (M := mX8_drawPools) dX8_drawPools_24 ?_
        refine J_iload_n (M := mX8_drawPools) dX8_drawPools_25 rfl rfl ?_
        refine Z_imul (M := mX8_drawPools) dX8_drawPools_26 ?_
        refine Z_ic_lt (M := mX8_drawPools) (tgt := 34) (by first | assumption | exact pI_rg _ | (unfold rg; omega)) (by first | assumption | exact pI_rg _ | (unfold rg; omega)) dX8_drawPools_27 (by decide) (fun c_27 => ?_) (fun c_27 => ?_)
        · refine Z_iconst (M := mX8_drawPools) dX8_drawPools_34 ?_
          exact hj_35 _ (pI_f (by omega)).symm
        · refine Z_iconst (M := mX8_drawPools) dX8_drawPools_30 ?_
          refine J_goto (M := mX8_drawPools) (tgt := 35) dX8_drawPools_31 (by decide) ?_
          exact hj_35 _ (pI_t (by omega)).symm
  refine Z_iconst (M := mX8_drawPools) dX8_drawPools_35 ?_
  refine M_call (M := mX8_drawPools) (as := [_, _, _]) dX8_drawPools_36 ca_X8_101 ⟨by decide, by decide⟩ rfl (Nat.le_of_ble_eq_true rfl) rfl rfl (c_goes (by first | assumption | exact pI_rg _ | (unfold rg; omega)) (by first | assumption | exact pI_rg _ | (unfold rg; omega)) (by first | assumption | exact pI_rg _ | (unfold rg; omega))) (fun v_36 t_36 hv_36 => ?_)
  obtain ⟨rfl, e_36⟩ := hv_36
  rw [e_36]
  have W1 : WF (ts τ 33 0 (gl (pI (1 ≤ m ∧ m ≤ 4)) (pI ((1 ≤ m ∧ m ≤ 4) ∧ τ 8 0 = 0 ∧ 2 * m ≤ τ 1 0)) 1)) := WF_ts W gl_rg
  first
    | refine Z_pt (M := mX8_drawPools) (tgt := 44) dX8_drawPools_39 (by decide) (fun c_39 => ?_) (fun c_39 => ?_)
    | refine Z_if_ne (M := mX8_drawPools) (tgt := 44) (by first | assumption | exact pI_rg _ | (unfold rg; omega)) dX8_drawPools_39 (by decide) (fun c_39 => ?_) (fun c_39 => ?_)
  · have hc := c_39
    simp only [pI_n0] at hc
    rw [gl_0 c_39] at W1
    rw [gl_0 c_39]
    have hl := pls_len b1 hc.1
    have e9 := h9 hc.2.1.2.1
    refine J_aload_n (M := mX8_drawPools) dX8_drawPools_44 rfl rfl ?_
    refine J_iload_n (M := mX8_drawPools) dX8_drawPools_45 rfl rfl ?_
    refine M_puti (M := mX8_drawPools) dX8_drawPools_46 fi_X8_98 rfl (by decide) rfl ?_
    refine Z_iconst (M := mX8_drawPools) dX8_drawPools_49 ?_
    refine J_istore_n (M := mX8_drawPools) dX8_drawPools_50 rfl (by decide) ?_
    refine J_sub (M := mX8_drawPools) (dp_p (F := τ 1 0) (po := 0) (c := 0) b1 hc.1 5 0 (ts (ts τ 33 0 0) 8 0 m) (by omega) (by omega) (by omega) rfl (by show 0 ≤ τ 9 0; omega) (by show τ 9 0 + ((pls (τ 1 0) m).length : Int) ≤ 66; omega) ?_) (And.intro rfl (And.intro rfl (And.intro rfl (And.intro rfl trivial))))
    refine J_aload_n (M := mX8_drawPools) dX8_drawPools_139 rfl rfl ?_
    refine M_get (M := mX8_drawPools) dX8_drawPools_140 fi_X8_92 rfl ?_
    refine Z_eq (M := mX8_drawPools) (b := ((pls (τ 1 0) m).length : Int)) (by show inL (ts (ts τ 33 0 0) 8 0 m) (pls (τ 1 0) m) 9 0 = _; rw [inL_9]; show τ 9 0 + _ = _; rw [e9, Int.zero_add]) ?_
    refine M_iret (M := mX8_drawPools) dX8_drawPools_143 rfl ?_
    exact Or.inr (And.intro rfl (And.intro rfl rfl))
  · refine Z_iconst (M := mX8_drawPools) dX8_drawPools_42 ?_
    refine M_iret (M := mX8_drawPools) dX8_drawPools_43 rfl ?_
    exact Or.inl (And.intro (gl_n (by assumption)) (And.intro rfl rfl))

