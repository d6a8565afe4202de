/-! BOUNDS OF THE STATE; THE REFERENCE'S SMALL METHODS -/
def bnd : Nat → Int × Int := fun k => match k with
  | 0 => (0, 1)
  | 1 => (0, 12)
  | 2 => (0, 11)
  | 3 => (0, 2)
  | 4 => (0, 1)
  | 5 => (0, 24)
  | 6 => (0, 11)
  | 7 => (0, 11)
  | 8 => (0, 4)
  | 9 => (0, 66)
  | 10 => (0, 12)
  | 11 => (0, 2)
  | 12 => (0, 8)
  | 13 => (0, 23)
  | 14 => (-2, 1)
  | 15 => (0, 6)
  | 16 => (0, 2147483647)
  | 17 => (-1, 115)
  | 18 => (0, 23)
  | 19 => (0, 1)
  | 20 => (0, 1)
  | 21 => (0, 16)
  | 22 => (-2, 11)
  | 23 => (0, 1)
  | 25 => (0, 12)
  | 26 => (0, 12)
  | 27 => (-1, 1)
  | 28 => (0, 64)
  | 29 => (0, 2000)
  | 30 => (0, 2000)
  | 31 => (0, 2000)
  | 32 => (0, 2000)
  | 33 => (0, 3)
  | _ => (0, 0)
def WF (τ : TS) : Prop := ∀ (k : Nat) (i : Int), k < 34 → k ≠ 24 → (bnd k).1 ≤ τ k i ∧ τ k i ≤ (bnd k).2
theorem wf0 {τ : TS} (W : WF τ) (i : Int) : 0 ≤ τ 0 i ∧ τ 0 i ≤ 1 := W 0 i (by decide) (by decide)
theorem wf1 {τ : TS} (W : WF τ) (i : Int) : 0 ≤ τ 1 i ∧ τ 1 i ≤ 12 := W 1 i (by decide) (by decide)
theorem wf2 {τ : TS} (W : WF τ) (i : Int) : 0 ≤ τ 2 i ∧ τ 2 i ≤ 11 := W 2 i (by decide) (by decide)
theorem wf3 {τ : TS} (W : WF τ) (i : Int) : 0 ≤ τ 3 i ∧ τ 3 i ≤ 2 := W 3 i (by decide) (by decide)
theorem wf4 {τ : TS} (W : WF τ) (i : Int) : 0 ≤ τ 4 i ∧ τ 4 i ≤ 1 := W 4 i (by decide) (by decide)
theorem wf5 {τ : TS} (W : WF τ) (i : Int) : 0 ≤ τ 5 i ∧ τ 5 i ≤ 24 := W 5 i (by decide) (by decide)
theorem wf6 {τ : TS} (W : WF τ) (i : Int) : 0 ≤ τ 6 i ∧ τ 6 i ≤ 11 := W 6 i (by decide) (by decide)
theorem wf7 {τ : TS} (W : WF τ) (i : Int) : 0 ≤ τ 7 i ∧ τ 7 i ≤ 11 := W 7 i (by decide) (by decide)
theorem wf8 {τ : TS} (W : WF τ) (i : Int) : 0 ≤ τ 8 i ∧ τ 8 i ≤ 4 := W 8 i (by decide) (by decide)
theorem wf9 {τ : TS} (W : WF τ) (i : Int) : 0 ≤ τ 9 i ∧ τ 9 i ≤ 66 := W 9 i (by decide) (by decide)
theorem wf10 {τ : TS} (W : WF τ) (i : Int) : 0 ≤ τ 10 i ∧ τ 10 i ≤ 12 := W 10 i (by decide) (by decide)
theorem wf11 {τ : TS} (W : WF τ) (i : Int) : 0 ≤ τ 11 i ∧ τ 11 i ≤ 2 := W 11 i (by decide) (by decide)
theorem wf12 {τ : TS} (W : WF τ) (i : Int) : 0 ≤ τ 12 i ∧ τ 12 i ≤ 8 := W 12 i (by decide) (by decide)
theorem wf13 {τ : TS} (W : WF τ) (i : Int) : 0 ≤ τ 13 i ∧ τ 13 i ≤ 23 := W 13 i (by decide) (by decide)
theorem wf14 {τ : TS} (W : WF τ) (i : Int) : -2 ≤ τ 14 i ∧ τ 14 i ≤ 1 := W 14 i (by decide) (by decide)
theorem wf15 {τ : TS} (W : WF τ) (i : Int) : 0 ≤ τ 15 i ∧ τ 15 i ≤ 6 := W 15 i (by decide) (by decide)
theorem wf16 {τ : TS} (W : WF τ) (i : Int) : 0 ≤ τ 16 i ∧ τ 16 i ≤ 2147483647 := W 16 i (by decide) (by decide)
theorem wf17 {τ : TS} (W : WF τ) (i : Int) : -1 ≤ τ 17 i ∧ τ 17 i ≤ 115 := W 17 i (by decide) (by decide)
theorem wf18 {τ : TS} (W : WF τ) (i : Int) : 0 ≤ τ 18 i ∧ τ 18 i ≤ 23 := W 18 i (by decide) (by decide)
theorem wf19 {τ : TS} (W : WF τ) (i : Int) : 0 ≤ τ 19 i ∧ τ 19 i ≤ 1 := W 19 i (by decide) (by decide)
theorem wf20 {τ : TS} (W : WF τ) (i : Int) : 0 ≤ τ 20 i ∧ τ 20 i ≤ 1 := W 20 i (by decide) (by decide)
theorem wf21 {τ : TS} (W : WF τ) (i : Int) : 0 ≤ τ 21 i ∧ τ 21 i ≤ 16 := W 21 i (by decide) (by decide)
theorem wf22 {τ : TS} (W : WF τ) (i : Int) : -2 ≤ τ 22 i ∧ τ 22 i ≤ 11 := W 22 i (by decide) (by decide)
theorem wf23 {τ : TS} (W : WF τ) (i : Int) : 0 ≤ τ 23 i ∧ τ 23 i ≤ 1 := W 23 i (by decide) (by decide)
theorem wf25 {τ : TS} (W : WF τ) (i : Int) : 0 ≤ τ 25 i ∧ τ 25 i ≤ 12 := W 25 i (by decide) (by decide)
theorem wf26 {τ : TS} (W : WF τ) (i : Int) : 0 ≤ τ 26 i ∧ τ 26 i ≤ 12 := W 26 i (by decide) (by decide)
theorem wf27 {τ : TS} (W : WF τ) (i : Int) : -1 ≤ τ 27 i ∧ τ 27 i ≤ 1 := W 27 i (by decide) (by decide)
theorem wf28 {τ : TS} (W : WF τ) (i : Int) : 0 ≤ τ 28 i ∧ τ 28 i ≤ 64 := W 28 i (by decide) (by decide)
theorem wf29 {τ : TS} (W : WF τ) (i : Int) : 0 ≤ τ 29 i ∧ τ 29 i ≤ 2000 := W 29 i (by decide) (by decide)
theorem wf30 {τ : TS} (W : WF τ) (i : Int) : 0 ≤ τ 30 i ∧ τ 30 i ≤ 2000 := W 30 i (by decide) (by decide)
theorem wf31 {τ : TS} (W : WF τ) (i : Int) : 0 ≤ τ 31 i ∧ τ 31 i ≤ 2000 := W 31 i (by decide) (by decide)
theorem wf32 {τ : TS} (W : WF τ) (i : Int) : 0 ≤ τ 32 i ∧ τ 32 i ≤ 2000 := W 32 i (by decide) (by decide)
theorem wf33 {τ : TS} (W : WF τ) (i : Int) : 0 ≤ τ 33 i ∧ τ 33 i ≤ 3 := W 33 i (by decide) (by decide)
theorem WF_ts {τ : TS} (W : WF τ) {k : Nat} {i x : Int} (h : (bnd k).1 ≤ x ∧ x ≤ (bnd k).2) : WF (ts τ k i x) := by
  intro k' i' h1 h2
  by_cases e : k' = k
  · subst e
    rw [ts_s]
    unfold upZ
    by_cases e2 : i' = i
    · rw [if_pos e2]; exact h
    · rw [if_neg e2]; exact W k' i' h1 h2
  · rw [ts_n e]; exact W k' i' h1 h2
theorem WF_24 {τ : TS} (W : WF τ) {i x : Int} : WF (ts τ 24 i x) := by
  intro k' i' h1 h2
  rw [ts_n h2]; exact W k' i' h1 h2
theorem r1 {p : Prop} (h : p) : some (vI (iI 1)) = some (vI (iI (pI p))) := by rw [pI_t h]
theorem r0 {p : Prop} (h : ¬ p) : some (vI (iI 0)) = some (vI (iI (pI p))) := by rw [pI_f h]
theorem ts0 {τ : TS} {k : Nat} {x : Int} : ts τ k 0 x k 0 = x := by rw [ts_s]; exact if_pos rfl
theorem tsN {τ : TS} {k k' : Nat} {i x j : Int} (h : k' ≠ k) : ts τ k i x k' j = τ k' j := by rw [ts_n h]
/-- of three conditions the first that fails -/
def gl (a b c : Int) : Int := if a = 0 then 1 else if b = 0 then 2 else if c = 0 then 3 else 0
set_option maxRecDepth 100000 in
set_option maxHeartbeats 4000000 in
theorem c_in {X : GX} {h : LH} {v lo hi : Int} (h1 : rg v) (h2 : rg lo) (h3 : rg hi) : CT X mX8_in [vI (iI v), vI (iI lo), vI (iI hi)] h (rQ (fun r h' => r = some (vI (iI (pI (lo ≤ v ∧ v ≤ hi)))) ∧ h' = h)) := by
  refine CT_of (by decide +kernel) rfl (Nat.le_of_ble_eq_true rfl) ?_
  refine J_iload_n (M := mX8_in) dX8_in_0 rfl rfl ?_
  refine J_iload_n (M := mX8_in) dX8_in_1 rfl rfl ?_
  refine Z_ic_lt (M := mX8_in) (tgt := 14) (by first | assumption | exact pI_rg _ | (unfold rg; omega)) (by first | assumption | exact pI_rg _ | (unfold rg; omega)) dX8_in_2 (by decide) (fun c_2 => ?_) (fun c_2 => ?_)
  · refine Z_iconst (M := mX8_in) dX8_in_14 ?_
    refine J_zret (M := mX8_in) dX8_in_15 rfl (by first | exact pI_zb _ | exact zb_of (Or.inl rfl) | exact zb_of (Or.inr rfl) | assumption) ?_
    exact And.intro (r0 (by omega)) rfl
  · refine J_iload_n (M := mX8_in) dX8_in_5 rfl rfl ?_
    refine J_iload_n (M := mX8_in) dX8_in_6 rfl rfl ?_
    refine Z_ic_gt (M := mX8_in) (tgt := 14) (by first | assumption | exact pI_rg _ | (unfold rg; omega)) (by first | assumption | exact pI_rg _ | (unfold rg; omega)) dX8_in_7 (by decide) (fun c_7 => ?_) (fun c_7 => ?_)
    · refine Z_iconst (M := mX8_in) dX8_in_14 ?_
      refine J_zret (M := mX8_in) dX8_in_15 rfl (by first | exact pI_zb _ | exact zb_of (Or.inl rfl) | exact zb_of (Or.inr rfl) | assumption) ?_
      exact And.intro (r0 (by omega)) rfl
    · refine Z_iconst (M := mX8_in) dX8_in_10 ?_
      refine J_goto (M := mX8_in) (tgt := 15) dX8_in_11 (by decide) ?_
      refine J_zret (M := mX8_in) dX8_in_15 rfl (by first | exact pI_zb _ | exact zb_of (Or.inl rfl) | exact zb_of (Or.inr rfl) | assumption) ?_
      exact And.intro (r1 (by omega)) rfl

set_option maxRecDepth 100000 in
set_option maxHeartbeats 4000000 in
theorem c_isSide {X : GX} {h : LH} {v : Int} (h1 : rg v) : CT X mX8_isSide [vI (iI v)] h (rQ (fun r h' => r = some (vI (iI (pI (0 ≤ v ∧ v ≤ 1)))) ∧ h' = h)) := by
  refine CT_of (by decide +kernel) rfl (Nat.le_of_ble_eq_true rfl) ?_
  refine J_iload_n (M := mX8_isSide) dX8_isSide_0 rfl rfl ?_
  refine Z_iconst (M := mX8_isSide) dX8_isSide_1 ?_
  refine Z_iconst (M := mX8_isSide) dX8_isSide_2 ?_
  refine M_callS (M := mX8_isSide) (as := [_, _, _]) dX8_isSide_3 ca_X8_85 ⟨by decide, by decide⟩ rfl (Nat.le_of_ble_eq_true rfl) rfl rfl (c_in (by first | assumption | exact pI_rg _ | (unfold rg; omega)) (by first | assumption | exact pI_rg _ | (unfold rg; omega)) (by first | assumption | exact pI_rg _ | (unfold rg; omega))) ?_
  refine J_zret (M := mX8_isSide) dX8_isSide_6 rfl (by first | exact pI_zb _ | exact zb_of (Or.inl rfl) | exact zb_of (Or.inr rfl) | assumption) ?_
  exact And.intro rfl rfl

def slo (b : Int) : Int := if 100 ≤ b then 66 + b - 100 else b
set_option maxRecDepth 100000 in
set_option maxHeartbeats 4000000 in
theorem c_slotOf {X : GX} {h : LH} {b : Int} (h1 : rg b) : CT X mX8_slotOf [vI (iI b)] h (rQ (fun r h' => r = some (vI (iI (slo b))) ∧ h' = h)) := by
  refine CT_of (by decide +kernel) rfl (Nat.le_of_ble_eq_true rfl) ?_
  refine J_iload_n (M := mX8_slotOf) dX8_slotOf_0 rfl rfl ?_
  refine Z_bipush (M := mX8_slotOf) dX8_slotOf_1 rfl ?_
  refine Z_ic_lt (M := mX8_slotOf) (tgt := 16) (by first | assumption | exact pI_rg _ | (unfold rg; omega)) (by first | assumption | exact pI_rg _ | (unfold rg; omega)) dX8_slotOf_3 (by decide) (fun c_3 => ?_) (fun c_3 => ?_)
  · refine J_iload_n (M := mX8_slotOf) dX8_slotOf_16 rfl rfl ?_
    refine J_iret (M := mX8_slotOf) dX8_slotOf_17 rfl ?_
    exact And.intro (by unfold slo; first | rw [if_pos (by omega)] | rw [if_neg (by omega)]) rfl
  · refine Z_bipush (M := mX8_slotOf) dX8_slotOf_6 rfl ?_
    refine J_iload_n (M := mX8_slotOf) dX8_slotOf_8 rfl rfl ?_
    refine Z_iadd (M := mX8_slotOf) dX8_slotOf_9 ?_
    refine Z_bipush (M := mX8_slotOf) dX8_slotOf_10 rfl ?_
    refine Z_isub (M := mX8_slotOf) dX8_slotOf_12 ?_
    refine J_goto (M := mX8_slotOf) (tgt := 17) dX8_slotOf_13 (by decide) ?_
    refine J_iret (M := mX8_slotOf) dX8_slotOf_17 rfl ?_
    exact And.intro (by unfold slo; first | rw [if_pos (by omega)] | rw [if_neg (by omega)]) rfl

set_option maxRecDepth 100000 in
set_option maxHeartbeats 4000000 in
theorem c_goes {X : GX} {h : LH} {τ : TS} {a b c : Int} (ha : rg a) (hb : rg b) (hc : rg c) : CM X mX8_goes [vI (iI a), vI (iI b), vI (iI c)] h τ (fun v t => v = some (vI (iI (pI (¬ a = 0 ∧ ¬ b = 0 ∧ ¬ c = 0)))) ∧ t = ts τ 33 0 (gl a b c)) := by
  refine CM_of (by decide +kernel) rfl (Nat.le_of_ble_eq_true rfl) ?_
  refine J_aload_n (M := mX8_goes) dX8_goes_0 rfl rfl ?_
  refine J_iload_n (M := mX8_goes) dX8_goes_1 rfl rfl ?_
  first
    | refine Z_pt (M := mX8_goes) (tgt := 9) dX8_goes_2 (by decide) (fun c_2 => ?_) (fun c_2 => ?_)
    | refine Z_if_ne (M := mX8_goes) (tgt := 9) (by first | assumption | exact pI_rg _ | (unfold rg; omega)) dX8_goes_2 (by decide) (fun c_2 => ?_) (fun c_2 => ?_)
  · refine J_iload_n (M := mX8_goes) dX8_goes_9 rfl rfl ?_
    first
      | refine Z_pt (M := mX8_goes) (tgt := 17) dX8_goes_10 (by decide) (fun c_10 => ?_) (fun c_10 => ?_)
      | refine Z_if_ne (M := mX8_goes) (tgt := 17) (by first | assumption | exact pI_rg _ | (unfold rg; omega)) dX8_goes_10 (by decide) (fun c_10 => ?_) (fun c_10 => ?_)
    · refine J_iload_n (M := mX8_goes) dX8_goes_17 rfl rfl ?_
      first
        | refine Z_pf (M := mX8_goes) (tgt := 25) dX8_goes_18 (by decide) (fun c_18 => ?_) (fun c_18 => ?_)
        | refine Z_if_eq (M := mX8_goes) (tgt := 25) (by first | assumption | exact pI_rg _ | (unfold rg; omega)) dX8_goes_18 (by decide) (fun c_18 => ?_) (fun c_18 => ?_)
      · refine Z_iconst (M := mX8_goes) dX8_goes_25 ?_
        refine M_puti (M := mX8_goes) dX8_goes_26 fi_X8_79 rfl (by decide) rfl ?_
        refine J_aload_n (M := mX8_goes) dX8_goes_29 rfl rfl ?_
        refine M_get (M := mX8_goes) dX8_goes_30 fi_X8_79 rfl ?_
        rw [ts0]
        first
          | refine Z_pt (M := mX8_goes) (tgt := 40) dX8_goes_33 (by decide) (fun c_33 => ?_) (fun c_33 => ?_)
          | refine Z_if_ne (M := mX8_goes) (tgt := 40) (by first | assumption | exact pI_rg _ | (unfold rg; omega)) dX8_goes_33 (by decide) (fun c_33 => ?_) (fun c_33 => ?_)
        · refine Z_iconst (M := mX8_goes) dX8_goes_40 ?_
          refine M_zret (M := mX8_goes) dX8_goes_41 rfl (by first | exact pI_01 _ | exact Or.inl rfl | exact Or.inr rfl | omega) ?_
          exact And.intro (by first | exact r1 (by simp_all) | exact r0 (by simp_all)) (by simp_all [gl])
        · refine Z_iconst (M := mX8_goes) dX8_goes_36 ?_
          refine J_goto (M := mX8_goes) (tgt := 41) dX8_goes_37 (by decide) ?_
          refine M_zret (M := mX8_goes) dX8_goes_41 rfl (by first | exact pI_01 _ | exact Or.inl rfl | exact Or.inr rfl | omega) ?_
          exact And.intro (by first | exact r1 (by simp_all) | exact r0 (by simp_all)) (by simp_all [gl])
      · refine Z_iconst (M := mX8_goes) dX8_goes_21 ?_
        refine J_goto (M := mX8_goes) (tgt := 26) dX8_goes_22 (by decide) ?_
        refine M_puti (M := mX8_goes) dX8_goes_26 fi_X8_79 rfl (by decide) rfl ?_
        refine J_aload_n (M := mX8_goes) dX8_goes_29 rfl rfl ?_
        refine M_get (M := mX8_goes) dX8_goes_30 fi_X8_79 rfl ?_
        rw [ts0]
        first
          | refine Z_pt (M := mX8_goes) (tgt := 40) dX8_goes_33 (by decide) (fun c_33 => ?_) (fun c_33 => ?_)
          | refine Z_if_ne (M := mX8_goes) (tgt := 40) (by first | assumption | exact pI_rg _ | (unfold rg; omega)) dX8_goes_33 (by decide) (fun c_33 => ?_) (fun c_33 => ?_)
        · refine Z_iconst (M := mX8_goes) dX8_goes_40 ?_
          refine M_zret (M := mX8_goes) dX8_goes_41 rfl (by first | exact pI_01 _ | exact Or.inl rfl | exact Or.inr rfl | omega) ?_
          exact And.intro (by first | exact r1 (by simp_all) | exact r0 (by simp_all)) (by simp_all [gl])
        · refine Z_iconst (M := mX8_goes) dX8_goes_36 ?_
          refine J_goto (M := mX8_goes) (tgt := 41) dX8_goes_37 (by decide) ?_
          refine M_zret (M := mX8_goes) dX8_goes_41 rfl (by first | exact pI_01 _ | exact Or.inl rfl | exact Or.inr rfl | omega) ?_
          exact And.intro (by first | exact r1 (by simp_all) | exact r0 (by simp_all)) (by simp_all [gl])
    · refine Z_iconst (M := mX8_goes) dX8_goes_13 ?_
      refine J_goto (M := mX8_goes) (tgt := 26) dX8_goes_14 (by decide) ?_
      refine M_puti (M := mX8_goes) dX8_goes_26 fi_X8_79 rfl (by decide) rfl ?_
      refine J_aload_n (M := mX8_goes) dX8_goes_29 rfl rfl ?_
      refine M_get (M := mX8_goes) dX8_goes_30 fi_X8_79 rfl ?_
      rw [ts0]
      first
        | refine Z_pt (M := mX8_goes) (tgt := 40) dX8_goes_33 (by decide) (fun c_33 => ?_) (fun c_33 => ?_)
        | refine Z_if_ne (M := mX8_goes) (tgt := 40) (by first | assumption | exact pI_rg _ | (unfold rg; omega)) dX8_goes_33 (by decide) (fun c_33 => ?_) (fun c_33 => ?_)
      · refine Z_iconst (M := mX8_goes) dX8_goes_40 ?_
        refine M_zret (M := mX8_goes) dX8_goes_41 rfl (by first | exact pI_01 _ | exact Or.inl rfl | exact Or.inr rfl | omega) ?_
        exact And.intro (by first | exact r1 (by simp_all) | exact r0 (by simp_all)) (by simp_all [gl])
      · refine Z_iconst (M := mX8_goes) dX8_goes_36 ?_
        refine J_goto (M := mX8_goes) (tgt := 41) dX8_goes_37 (by decide) ?_
        refine M_zret (M := mX8_goes) dX8_goes_41 rfl (by first | exact pI_01 _ | exact Or.inl rfl | exact Or.inr rfl | omega) ?_
        exact And.intro (by first | exact r1 (by simp_all) | exact r0 (by simp_all)) (by simp_all [gl])
  · refine Z_iconst (M := mX8_goes) dX8_goes_5 ?_
    refine J_goto (M := mX8_goes) (tgt := 26) dX8_goes_6 (by decide) ?_
    refine M_puti (M := mX8_goes) dX8_goes_26 fi_X8_79 rfl (by decide) rfl ?_
    refine J_aload_n (M := mX8_goes) dX8_goes_29 rfl rfl ?_
    refine M_get (M := mX8_goes) dX8_goes_30 fi_X8_79 rfl ?_
    rw [ts0]
    first
      | refine Z_pt (M := mX8_goes) (tgt := 40) dX8_goes_33 (by decide) (fun c_33 => ?_) (fun c_33 => ?_)
      | refine Z_if_ne (M := mX8_goes) (tgt := 40) (by first | assumption | exact pI_rg _ | (unfold rg; omega)) dX8_goes_33 (by decide) (fun c_33 => ?_) (fun c_33 => ?_)
    · refine Z_iconst (M := mX8_goes) dX8_goes_40 ?_
      refine M_zret (M := mX8_goes) dX8_goes_41 rfl (by first | exact pI_01 _ | exact Or.inl rfl | exact Or.inr rfl | omega) ?_
      exact And.intro (by first | exact r1 (by simp_all) | exact r0 (by simp_all)) (by simp_all [gl])
    · refine Z_iconst (M := mX8_goes) dX8_goes_36 ?_
      refine J_goto (M := mX8_goes) (tgt := 41) dX8_goes_37 (by decide) ?_
      refine M_zret (M := mX8_goes) dX8_goes_41 rfl (by first | exact pI_01 _ | exact Or.inl rfl | exact Or.inr rfl | omega) ?_
      exact And.intro (by first | exact r1 (by simp_all) | exact r0 (by simp_all)) (by simp_all [gl])

set_option maxRecDepth 100000 in
set_option maxHeartbeats 4000000 in
theorem c_isFencer {X : GX} {h : LH} {τ : TS} (W : WF τ) {f : Int} (hf : rg f) : CM X mX8_isFencer [vI (iI f)] h τ (fun v t => v = some (vI (iI (pI (0 ≤ f ∧ f ≤ τ 1 0 - 1)))) ∧ t = τ) := by
  have b1 := wf1 W 0
  refine CM_of (by decide +kernel) rfl (Nat.le_of_ble_eq_true rfl) ?_
  refine J_iload_n (M := mX8_isFencer) dX8_isFencer_0 rfl rfl ?_
  refine Z_iconst (M := mX8_isFencer) dX8_isFencer_1 ?_
  refine J_aload_n (M := mX8_isFencer) dX8_isFencer_2 rfl rfl ?_
  refine M_get (M := mX8_isFencer) dX8_isFencer_3 fi_X8_82 rfl ?_
  refine Z_iconst (M := mX8_isFencer) dX8_isFencer_6 ?_
  refine Z_isub (M := mX8_isFencer) dX8_isFencer_7 ?_
  refine M_callS (M := mX8_isFencer) (as := [_, _, _]) dX8_isFencer_8 ca_X8_85 ⟨by decide, by decide⟩ rfl (Nat.le_of_ble_eq_true rfl) rfl rfl (c_in (by first | assumption | exact pI_rg _ | (unfold rg; omega)) (by first | assumption | exact pI_rg _ | (unfold rg; omega)) (by first | assumption | exact pI_rg _ | (unfold rg; omega))) ?_
  refine M_zret (M := mX8_isFencer) dX8_isFencer_11 rfl (by first | exact pI_01 _ | exact Or.inl rfl | exact Or.inr rfl | omega) ?_
  exact And.intro rfl rfl

set_option maxRecDepth 100000 in
set_option maxHeartbeats 4000000 in
theorem c_isWeapon {X : GX} {h : LH} {τ : TS} (W : WF τ) {f : Int} (hf : rg f) : CM X mX8_isWeapon [vI (iI f)] h τ (fun v t => v = some (vI (iI (pI (0 ≤ f ∧ f ≤ τ 5 0 - 1)))) ∧ t = τ) := by
  have b1 := wf5 W 0
  refine CM_of (by decide +kernel) rfl (Nat.le_of_ble_eq_true rfl) ?_
  refine J_iload_n (M := mX8_isWeapon) dX8_isWeapon_0 rfl rfl ?_
  refine Z_iconst (M := mX8_isWeapon) dX8_isWeapon_1 ?_
  refine J_aload_n (M := mX8_isWeapon) dX8_isWeapon_2 rfl rfl ?_
  refine M_get (M := mX8_isWeapon) dX8_isWeapon_3 fi_X8_89 rfl ?_
  refine Z_iconst (M := mX8_isWeapon) dX8_isWeapon_6 ?_
  refine Z_isub (M := mX8_isWeapon) dX8_isWeapon_7 ?_
  refine M_callS (M := mX8_isWeapon) (as := [_, _, _]) dX8_isWeapon_8 ca_X8_85 ⟨by decide, by decide⟩ rfl (Nat.le_of_ble_eq_true rfl) rfl rfl (c_in (by first | assumption | exact pI_rg _ | (unfold rg; omega)) (by first | assumption | exact pI_rg _ | (unfold rg; omega)) (by first | assumption | exact pI_rg _ | (unfold rg; omega))) ?_
  refine M_zret (M := mX8_isWeapon) dX8_isWeapon_11 rfl (by first | exact pI_01 _ | exact Or.inl rfl | exact Or.inr rfl | omega) ?_
  exact And.intro rfl rfl

set_option maxRecDepth 100000 in
set_option maxHeartbeats 4000000 in
theorem c_isBout {X : GX} {h : LH} {τ : TS} (W : WF τ) {b : Int} (hf : rg b) : CM X mX8_isBout [vI (iI b)] h τ (fun v t => v = some (vI (iI (pI ((0 ≤ b ∧ b ≤ τ 9 0 - 1) ∨ (0 < τ 21 0 ∧ 101 ≤ b ∧ b ≤ 99 + τ 21 0))))) ∧ t = τ) := by
  have b1 := wf9 W 0
  have b2 := wf21 W 0
  refine CM_of (by decide +kernel) rfl (Nat.le_of_ble_eq_true rfl) ?_
  refine J_iload_n (M := mX8_isBout) dX8_isBout_0 rfl rfl ?_
  refine Z_iconst (M := mX8_isBout) dX8_isBout_1 ?_
  refine J_aload_n (M := mX8_isBout) dX8_isBout_2 rfl rfl ?_
  refine M_get (M := mX8_isBout) dX8_isBout_3 fi_X8_92 rfl ?_
  refine Z_iconst (M := mX8_isBout) dX8_isBout_6 ?_
  refine Z_isub (M := mX8_isBout) dX8_isBout_7 ?_
  refine M_callS (M := mX8_isBout) (as := [_, _, _]) dX8_isBout_8 ca_X8_85 ⟨by decide, by decide⟩ rfl (Nat.le_of_ble_eq_true rfl) rfl rfl (c_in (by first | assumption | exact pI_rg _ | (unfold rg; omega)) (by first | assumption | exact pI_rg _ | (unfold rg; omega)) (by first | assumption | exact pI_rg _ | (unfold rg; omega))) ?_
  first
    | refine Z_pt (M := mX8_isBout) (tgt := 37) dX8_isBout_11 (by decide) (fun c_11 => ?_) (fun c_11 => ?_)
    | refine Z_if_ne (M := mX8_isBout) (tgt := 37) (by first | assumption | exact pI_rg _ | (unfold rg; omega)) dX8_isBout_11 (by decide) (fun c_11 => ?_) (fun c_11 => ?_)
  · refine Z_iconst (M := mX8_isBout) dX8_isBout_37 ?_
    refine J_goto (M := mX8_isBout) (tgt := 42) dX8_isBout_38 (by decide) ?_
    refine M_zret (M := mX8_isBout) dX8_isBout_42 rfl (by first | exact pI_01 _ | exact Or.inl rfl | exact Or.inr rfl | omega) ?_
    exact And.intro (r1 (by omega)) rfl
  · refine J_aload_n (M := mX8_isBout) dX8_isBout_14 rfl rfl ?_
    refine M_get (M := mX8_isBout) dX8_isBout_15 fi_X8_95 rfl ?_
    refine Z_if_le (M := mX8_isBout) (tgt := 41) (by first | assumption | exact pI_rg _ | (unfold rg; omega)) dX8_isBout_18 (by decide) (fun c_18 => ?_) (fun c_18 => ?_)
    · refine Z_iconst (M := mX8_isBout) dX8_isBout_41 ?_
      refine M_zret (M := mX8_isBout) dX8_isBout_42 rfl (by first | exact pI_01 _ | exact Or.inl rfl | exact Or.inr rfl | omega) ?_
      exact And.intro (r0 (by omega)) rfl
    · refine J_iload_n (M := mX8_isBout) dX8_isBout_21 rfl rfl ?_
      refine Z_bipush (M := mX8_isBout) dX8_isBout_22 rfl ?_
      refine Z_bipush (M := mX8_isBout) dX8_isBout_24 rfl ?_
      refine J_aload_n (M := mX8_isBout) dX8_isBout_26 rfl rfl ?_
      refine M_get (M := mX8_isBout) dX8_isBout_27 fi_X8_95 rfl ?_
      refine Z_iadd (M := mX8_isBout) dX8_isBout_30 ?_
      refine M_callS (M := mX8_isBout) (as := [_, _, _]) dX8_isBout_31 ca_X8_85 ⟨by decide, by decide⟩ rfl (Nat.le_of_ble_eq_true rfl) rfl rfl (c_in (by first | assumption | exact pI_rg _ | (unfold rg; omega)) (by first | assumption | exact pI_rg _ | (unfold rg; omega)) (by first | assumption | exact pI_rg _ | (unfold rg; omega))) ?_
      first
        | refine Z_pf (M := mX8_isBout) (tgt := 41) dX8_isBout_34 (by decide) (fun c_34 => ?_) (fun c_34 => ?_)
        | refine Z_if_eq (M := mX8_isBout) (tgt := 41) (by first | assumption | exact pI_rg _ | (unfold rg; omega)) dX8_isBout_34 (by decide) (fun c_34 => ?_) (fun c_34 => ?_)
      · refine Z_iconst (M := mX8_isBout) dX8_isBout_41 ?_
        refine M_zret (M := mX8_isBout) dX8_isBout_42 rfl (by first | exact pI_01 _ | exact Or.inl rfl | exact Or.inr rfl | omega) ?_
        exact And.intro (r0 (by omega)) rfl
      · refine Z_iconst (M := mX8_isBout) dX8_isBout_37 ?_
        refine J_goto (M := mX8_isBout) (tgt := 42) dX8_isBout_38 (by decide) ?_
        refine M_zret (M := mX8_isBout) dX8_isBout_42 rfl (by first | exact pI_01 _ | exact Or.inl rfl | exact Or.inr rfl | omega) ?_
        exact And.intro (r1 (by omega)) rfl

