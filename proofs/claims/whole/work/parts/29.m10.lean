/-! THE REFERENCE: ranks -/
theorem Z_ij {X : GX} {M : MI} {pc pcB : Nat} {ls : List (Option LV)} {st : List LV} {h : LH} {k n : Nat} {Q : LO → LH → Prop} (v : Int) (hh : (∀ x : Int, x = v → J X M pcB ls (vI (iI x) :: st) h k n Q) → J X M pc ls st h k n Q) (kk : J X M pcB ls (vI (iI v) :: st) h k n Q) : J X M pc ls st h k n Q := hh (fun x e => e ▸ kk)
theorem sm1_eq {τ τ' u u' : TS} {i : Int} {k : Nat} {j : Int} (et : te τ = te τ') (e6 : τ 6 = τ' 6) (e7 : τ 7 = τ' 7) (hk : k = 29 ∨ k = 30 ∨ k = 31 ∨ k = 32) (h : ∀ f, (f = j ∨ True) → 0 ≤ f → f < 12 → u 29 f = u' 29 f ∧ u 30 f = u' 30 f ∧ u 31 f = u' 31 f ∧ u 32 f = u' 32 f) (h0 : 0 ≤ j) (h1 : j < 12) (b6 : 0 ≤ τ' 6 i ∧ τ' 6 i < 12) (b7 : 0 ≤ τ' 7 i ∧ τ' 7 i < 12) : sm1 τ u i k j = sm1 τ' u' i k j := by
  obtain ⟨a1, a2, a3, a4⟩ := h j (Or.inr trivial) h0 h1
  obtain ⟨c1, c2, c3, c4⟩ := h (τ' 6 i) (Or.inr trivial) b6.1 b6.2
  obtain ⟨d1, d2, d3, d4⟩ := h (τ' 7 i) (Or.inr trivial) b7.1 b7.2
  unfold sm1
  rw [et, e6, e7]
  generalize te τ' i = z
  have T : ∀ (u : TS) k j, (k = 29 ∨ k = 30 ∨ k = 31 ∨ k = 32) → t3 u z k j = u k j := by
    intro u k j hk; rcases hk with rfl | rfl | rfl | rfl <;> rfl
  split
  · rw [T _ _ _ hk, T _ _ _ hk]
    rcases hk with rfl | rfl | rfl | rfl <;> assumption
  · have P : ∀ (v v' : TS) (f x y b g : Int), (v 29 f = v' 29 f ∧ v 30 f = v' 30 f ∧ v 31 f = v' 31 f ∧ v 32 f = v' 32 f) → (v 29 g = v' 29 g ∧ v 30 g = v' 30 g ∧ v 31 g = v' 31 g ∧ v 32 g = v' 32 g) → (adF v f x y b 29 g = adF v' f x y b 29 g ∧ adF v f x y b 30 g = adF v' f x y b 30 g ∧ adF v f x y b 31 g = adF v' f x y b 31 g ∧ adF v f x y b 32 g = adF v' f x y b 32 g) := by
      intro v v' f x y b g p q
      obtain ⟨e1, e2, e3, e4⟩ := ad_at (τ := v) (f := f) (x := x) (y := y) (b := b) (j := g)
      obtain ⟨g1, g2, g3, g4⟩ := ad_at (τ := v') (f := f) (x := x) (y := y) (b := b) (j := g)
      rw [e1, e2, e3, e4, g1, g2, g3, g4, p.1, p.2.1, p.2.2.1, p.2.2.2, q.1, q.2.1, q.2.2.1, q.2.2.2]
      exact ⟨rfl, rfl, rfl, rfl⟩
    have R := P (adF (t3 u z) (τ' 6 i) z.1 z.2.1 (pI (z.2.2 = 0))) (adF (t3 u' z) (τ' 6 i) z.1 z.2.1 (pI (z.2.2 = 0))) (τ' 7 i) z.2.1 z.1 (pI (z.2.2 = 1)) j
      (P (t3 u z) (t3 u' z) (τ' 6 i) _ _ _ (τ' 7 i) ⟨c1, c2, c3, c4⟩ ⟨d1, d2, d3, d4⟩) (P (t3 u z) (t3 u' z) (τ' 6 i) _ _ _ j ⟨c1, c2, c3, c4⟩ ⟨a1, a2, a3, a4⟩)
    rcases hk with rfl | rfl | rfl | rfl
    · exact R.1
    · exact R.2.1
    · exact R.2.2.1
    · exact R.2.2.2
theorem smF_eq {τ τ' : TS} (e : SQ τ τ') (W' : WF τ') : ∀ (i : Nat) (k : Nat) (j : Int), (k = 29 ∨ k = 30 ∨ k = 31 ∨ k = 32) → 0 ≤ j → j < 12 → smF τ i k j = smF τ' i k j
  | 0, k, j, hk, h0, h1 => by
      show zr τ 12 k j = zr τ' 12 k j
      have Z : ∀ t : TS, zr t 12 k j = 0 := fun t => by
        unfold zr
        rw [if_pos (by omega)]
        exact if_pos (by omega)
      rw [Z, Z]
  | i + 1, k, j, hk, h0, h1 => by
      have b6 := wf6 W' i
      have b7 := wf7 W' i
      exact sm1_eq (te_SQ e) (e 6 (by decide)) (e 7 (by decide)) hk (fun f _ g0 g1 => ⟨smF_eq e W' i 29 f (by decide) g0 g1, smF_eq e W' i 30 f (by decide) g0 g1, smF_eq e W' i 31 f (by decide) g0 g1, smF_eq e W' i 32 f (by decide) g0 g1⟩) h0 h1 (by omega) (by omega)
/-- the sums of all bouts of the pools -/
noncomputable def sm (τ : TS) : TS := smF τ (τ 9 0).toNat
theorem sm_33 {τ : TS} (W : WF τ) {x : Int} {k : Nat} {j : Int} (hk : k = 29 ∨ k = 30 ∨ k = 31 ∨ k = 32) (h0 : 0 ≤ j) (h1 : j < 12) : sm (ts τ 33 0 x) k j = sm τ k j := smF_eq SQ_33 W _ _ _ hk h0 h1
theorem SQ_sm {τ : TS} : SQ (sm τ) τ := SQ_smF _
theorem WF_sm {τ : TS} (W : WF τ) : WF (sm τ) := (smF_B W _ (by have := wf9 W 0; omega)).1
theorem sm1_33 {τ u : TS} {i : Int} : sm1 τ u i 33 = u 33 := by unfold sm1; split <;> rfl
theorem smF_33 {τ : TS} : ∀ i, smF τ i 33 = τ 33
  | 0 => by show zr τ 12 33 = τ 33; unfold zr; rw [if_neg (by decide)]
  | i + 1 => by show sm1 τ (smF τ i) i 33 = τ 33; rw [sm1_33, smF_33 i]
theorem sm_at33 {τ : TS} : sm τ 33 = τ 33 := smF_33 _
def mx1 (x : Int) : Int := if x = 0 then 1 else x
def ahd (u : TS) (a b : Int) : Int :=
  let d := u 30 a * mx1 (u 29 b) - u 30 b * mx1 (u 29 a)
  let d2 := if d = 0 then u 31 a - u 32 a - u 31 b + u 32 b else d
  if d2 = 0 then u 31 a - u 31 b else d2
def ahP (u : TS) (a b : Int) : Prop := 0 < ahd u a b ∨ (ahd u a b = 0 ∧ a < b)
theorem mul_rg {x y : Int} (hx : 0 ≤ x ∧ x ≤ 2000) (hy : 0 ≤ y ∧ y ≤ 2000) : 0 ≤ x * y ∧ x * y ≤ 4000000 := by
  refine ⟨Int.mul_nonneg hx.1 hy.1, ?_⟩
  exact Int.le_trans (Int.mul_le_mul hx.2 hy.2 hy.1 (by decide)) (by decide)
theorem mx1_rg {x : Int} (hx : 0 ≤ x ∧ x ≤ 2000) : 0 ≤ mx1 x ∧ mx1 x ≤ 2000 := by unfold mx1; split <;> omega
set_option maxRecDepth 100000 in
set_option maxHeartbeats 4000000 in
theorem c_isAhead {X : GX} {h : LH} {τ : TS} (W : WF τ) {a b : Int} (ha : 0 ≤ a ∧ a < 12) (hb : 0 ≤ b ∧ b < 12) : CM X mX8_isAhead [vI (iI a), vI (iI b)] h τ (fun v t => v = some (vI (iI (pI (ahP τ a b)))) ∧ t = τ) := by
  have q1 := wf29 W a
  have q2 := wf29 W b
  have q3 := wf30 W a
  have q4 := wf30 W b
  have q5 := wf31 W a
  have q6 := wf31 W b
  have q7 := wf32 W a
  have q8 := wf32 W b
  have r1 := mul_rg q3 (mx1_rg q2)
  have r2 := mul_rg q4 (mx1_rg q1)
  refine CM_of (by decide +kernel) rfl (Nat.le_of_ble_eq_true rfl) ?_
  refine J_aload_n (M := mX8_isAhead) dX8_isAhead_0 rfl rfl ?_
  refine M_get (M := mX8_isAhead) (v := vR (some (70, 0))) dX8_isAhead_1 fi_X8_66 rfl ?_
  refine J_iload_n (M := mX8_isAhead) dX8_isAhead_4 rfl rfl ?_
  refine M_iald (M := mX8_isAhead) (kf := 30) (N := 12) dX8_isAhead_5 rfl (by decide) (by omega) (by omega) ?_
  refine Z_eq (M := mX8_isAhead) (b := τ 30 _) rfl ?_
  refine Z_ij (M := mX8_isAhead) (pcB := 25) (mx1 (τ 29 b)) (fun hj_25 => ?_) ?_
  · refine J_aload_n (M := mX8_isAhead) dX8_isAhead_6 rfl rfl ?_
    refine M_get (M := mX8_isAhead) (v := vR (some (69, 0))) dX8_isAhead_7 fi_X8_63 rfl ?_
    refine J_iload_n (M := mX8_isAhead) dX8_isAhead_10 rfl rfl ?_
    refine M_iald (M := mX8_isAhead) (kf := 29) (N := 12) dX8_isAhead_11 rfl (by decide) (by omega) (by omega) ?_
    refine Z_eq (M := mX8_isAhead) (b := τ 29 _) rfl ?_
    first
      | refine Z_pt (M := mX8_isAhead) (tgt := 19) dX8_isAhead_12 (by decide) (fun c_12 => ?_) (fun c_12 => ?_)
      | refine Z_if_ne (M := mX8_isAhead) (tgt := 19) (by first | assumption | exact pI_rg _ | (unfold rg; omega)) dX8_isAhead_12 (by decide) (fun c_12 => ?_) (fun c_12 => ?_)
    · refine J_aload_n (M := mX8_isAhead) dX8_isAhead_19 rfl rfl ?_
      refine M_get (M := mX8_isAhead) (v := vR (some (69, 0))) dX8_isAhead_20 fi_X8_63 rfl ?_
      refine J_iload_n (M := mX8_isAhead) dX8_isAhead_23 rfl rfl ?_
      refine M_iald (M := mX8_isAhead) (kf := 29) (N := 12) dX8_isAhead_24 rfl (by decide) (by omega) (by omega) ?_
      refine Z_eq (M := mX8_isAhead) (b := τ 29 _) rfl ?_
      exact hj_25 _ (by unfold mx1; first | rw [if_pos (by omega)] | rw [if_neg (by omega)])
    · refine Z_iconst (M := mX8_isAhead) dX8_isAhead_15 ?_
      refine J_goto (M := mX8_isAhead) (tgt := 25) dX8_isAhead_16 (by decide) ?_
      exact hj_25 _ (by unfold mx1; first | rw [if_pos (by omega)] | rw [if_neg (by omega)])
  refine Z_imul (M := mX8_isAhead) dX8_isAhead_25 ?_
  refine J_aload_n (M := mX8_isAhead) dX8_isAhead_26 rfl rfl ?_
  refine M_get (M := mX8_isAhead) (v := vR (some (70, 0))) dX8_isAhead_27 fi_X8_66 rfl ?_
  refine J_iload_n (M := mX8_isAhead) dX8_isAhead_30 rfl rfl ?_
  refine M_iald (M := mX8_isAhead) (kf := 30) (N := 12) dX8_isAhead_31 rfl (by decide) (by omega) (by omega) ?_
  refine Z_eq (M := mX8_isAhead) (b := τ 30 _) rfl ?_
  refine Z_ij (M := mX8_isAhead) (pcB := 51) (mx1 (τ 29 a)) (fun hj_51 => ?_) ?_
  · refine J_aload_n (M := mX8_isAhead) dX8_isAhead_32 rfl rfl ?_
    refine M_get (M := mX8_isAhead) (v := vR (some (69, 0))) dX8_isAhead_33 fi_X8_63 rfl ?_
    refine J_iload_n (M := mX8_isAhead) dX8_isAhead_36 rfl rfl ?_
    refine M_iald (M := mX8_isAhead) (kf := 29) (N := 12) dX8_isAhead_37 rfl (by decide) (by omega) (by omega) ?_
    refine Z_eq (M := mX8_isAhead) (b := τ 29 _) rfl ?_
    first
      | refine Z_pt (M := mX8_isAhead) (tgt := 45) dX8_isAhead_38 (by decide) (fun c_38 => ?_) (fun c_38 => ?_)
      | refine Z_if_ne (M := mX8_isAhead) (tgt := 45) (by first | assumption | exact pI_rg _ | (unfold rg; omega)) dX8_isAhead_38 (by decide) (fun c_38 => ?_) (fun c_38 => ?_)
    · refine J_aload_n (M := mX8_isAhead) dX8_isAhead_45 rfl rfl ?_
      refine M_get (M := mX8_isAhead) (v := vR (some (69, 0))) dX8_isAhead_46 fi_X8_63 rfl ?_
      refine J_iload_n (M := mX8_isAhead) dX8_isAhead_49 rfl rfl ?_
      refine M_iald (M := mX8_isAhead) (kf := 29) (N := 12) dX8_isAhead_50 rfl (by decide) (by omega) (by omega) ?_
      refine Z_eq (M := mX8_isAhead) (b := τ 29 _) rfl ?_
      exact hj_51 _ (by unfold mx1; first | rw [if_pos (by omega)] | rw [if_neg (by omega)])
    · refine Z_iconst (M := mX8_isAhead) dX8_isAhead_41 ?_
      refine J_goto (M := mX8_isAhead) (tgt := 51) dX8_isAhead_42 (by decide) ?_
      exact hj_51 _ (by unfold mx1; first | rw [if_pos (by omega)] | rw [if_neg (by omega)])
  refine Z_imul (M := mX8_isAhead) dX8_isAhead_51 ?_
  refine Z_isub (M := mX8_isAhead) dX8_isAhead_52 ?_
  obtain ⟨d, hd⟩ : ∃ d : Int, d = (τ 30 a * mx1 (τ 29 b) - τ 30 b * mx1 (τ 29 a)) := ⟨_, rfl⟩
  refine Z_eq (M := mX8_isAhead) hd.symm ?_
  have hP : ahd τ a b = (if (if d = 0 then τ 31 a - τ 32 a - τ 31 b + τ 32 b else d) = 0 then τ 31 a - τ 31 b else (if d = 0 then τ 31 a - τ 32 a - τ 31 b + τ 32 b else d)) := by rw [hd]; rfl
  refine J_istore_n (M := mX8_isAhead) dX8_isAhead_53 rfl (by decide) ?_
  refine Z_ij (M := mX8_isAhead) (pcB := 89) (if d = 0 then τ 31 a - τ 32 a - τ 31 b + τ 32 b else d) (fun hj_89 => ?_) ?_
  · refine J_iload_n (M := mX8_isAhead) dX8_isAhead_54 rfl rfl ?_
    first
      | refine Z_pt (M := mX8_isAhead) (tgt := 88) dX8_isAhead_55 (by decide) (fun c_55 => ?_) (fun c_55 => ?_)
      | refine Z_if_ne (M := mX8_isAhead) (tgt := 88) (by first | assumption | exact pI_rg _ | (unfold rg; omega)) dX8_isAhead_55 (by decide) (fun c_55 => ?_) (fun c_55 => ?_)
    · refine J_iload_n (M := mX8_isAhead) dX8_isAhead_88 rfl rfl ?_
      exact hj_89 _ (by first | rw [if_pos (by omega)] | rw [if_neg (by omega)])
    · refine J_aload_n (M := mX8_isAhead) dX8_isAhead_58 rfl rfl ?_
      refine M_get (M := mX8_isAhead) (v := vR (some (71, 0))) dX8_isAhead_59 fi_X8_69 rfl ?_
      refine J_iload_n (M := mX8_isAhead) dX8_isAhead_62 rfl rfl ?_
      refine M_iald (M := mX8_isAhead) (kf := 31) (N := 12) dX8_isAhead_63 rfl (by decide) (by omega) (by omega) ?_
      refine Z_eq (M := mX8_isAhead) (b := τ 31 _) rfl ?_
      refine J_aload_n (M := mX8_isAhead) dX8_isAhead_64 rfl rfl ?_
      refine M_get (M := mX8_isAhead) (v := vR (some (72, 0))) dX8_isAhead_65 fi_X8_72 rfl ?_
      refine J_iload_n (M := mX8_isAhead) dX8_isAhead_68 rfl rfl ?_
      refine M_iald (M := mX8_isAhead) (kf := 32) (N := 12) dX8_isAhead_69 rfl (by decide) (by omega) (by omega) ?_
      refine Z_eq (M := mX8_isAhead) (b := τ 32 _) rfl ?_
      refine Z_isub (M := mX8_isAhead) dX8_isAhead_70 ?_
      refine J_aload_n (M := mX8_isAhead) dX8_isAhead_71 rfl rfl ?_
      refine M_get (M := mX8_isAhead) (v := vR (some (71, 0))) dX8_isAhead_72 fi_X8_69 rfl ?_
      refine J_iload_n (M := mX8_isAhead) dX8_isAhead_75 rfl rfl ?_
      refine M_iald (M := mX8_isAhead) (kf := 31) (N := 12) dX8_isAhead_76 rfl (by decide) (by omega) (by omega) ?_
      refine Z_eq (M := mX8_isAhead) (b := τ 31 _) rfl ?_
      refine Z_isub (M := mX8_isAhead) dX8_isAhead_77 ?_
      refine J_aload_n (M := mX8_isAhead) dX8_isAhead_78 rfl rfl ?_
      refine M_get (M := mX8_isAhead) (v := vR (some (72, 0))) dX8_isAhead_79 fi_X8_72 rfl ?_
      refine J_iload_n (M := mX8_isAhead) dX8_isAhead_82 rfl rfl ?_
      refine M_iald (M := mX8_isAhead) (kf := 32) (N := 12) dX8_isAhead_83 rfl (by decide) (by omega) (by omega) ?_
      refine Z_eq (M := mX8_isAhead) (b := τ 32 _) rfl ?_
      refine Z_iadd (M := mX8_isAhead) dX8_isAhead_84 ?_
      refine J_goto (M := mX8_isAhead) (tgt := 89) dX8_isAhead_85 (by decide) ?_
      exact hj_89 _ (by first | rw [if_pos (by omega)] | rw [if_neg (by omega)])
  obtain ⟨d2, hd2⟩ : ∃ d2 : Int, d2 = (if d = 0 then τ 31 a - τ 32 a - τ 31 b + τ 32 b else d) := ⟨_, rfl⟩
  rw [← hd2] at hP
  rw [← hd2]
  have rd2 : -9000000 ≤ d2 ∧ d2 ≤ 9000000 := by rw [hd2]; split <;> omega
  refine J_istore_n (M := mX8_isAhead) dX8_isAhead_89 rfl (by decide) ?_
  refine Z_ij (M := mX8_isAhead) (pcB := 111) (if d2 = 0 then τ 31 a - τ 31 b else d2) (fun hj_111 => ?_) ?_
  · refine J_iload_n (M := mX8_isAhead) dX8_isAhead_90 rfl rfl ?_
    first
      | refine Z_pt (M := mX8_isAhead) (tgt := 110) dX8_isAhead_91 (by decide) (fun c_91 => ?_) (fun c_91 => ?_)
      | refine Z_if_ne (M := mX8_isAhead) (tgt := 110) (by first | assumption | exact pI_rg _ | (unfold rg; omega)) dX8_isAhead_91 (by decide) (fun c_91 => ?_) (fun c_91 => ?_)
    · refine J_iload_n (M := mX8_isAhead) dX8_isAhead_110 rfl rfl ?_
      exact hj_111 _ (by first | rw [if_pos (by omega)] | rw [if_neg (by omega)])
    · refine J_aload_n (M := mX8_isAhead) dX8_isAhead_94 rfl rfl ?_
      refine M_get (M := mX8_isAhead) (v := vR (some (71, 0))) dX8_isAhead_95 fi_X8_69 rfl ?_
      refine J_iload_n (M := mX8_isAhead) dX8_isAhead_98 rfl rfl ?_
      refine M_iald (M := mX8_isAhead) (kf := 31) (N := 12) dX8_isAhead_99 rfl (by decide) (by omega) (by omega) ?_
      refine Z_eq (M := mX8_isAhead) (b := τ 31 _) rfl ?_
      refine J_aload_n (M := mX8_isAhead) dX8_isAhead_100 rfl rfl ?_
      refine M_get (M := mX8_isAhead) (v := vR (some (71, 0))) dX8_isAhead_101 fi_X8_69 rfl ?_
      refine J_iload_n (M := mX8_isAhead) dX8_isAhead_104 rfl rfl ?_
      refine M_iald (M := mX8_isAhead) (kf := 31) (N := 12) dX8_isAhead_105 rfl (by decide) (by omega) (by omega) ?_
      refine Z_eq (M := mX8_isAhead) (b := τ 31 _) rfl ?_
      refine Z_isub (M := mX8_isAhead) dX8_isAhead_106 ?_
      refine J_goto (M := mX8_isAhead) (tgt := 111) dX8_isAhead_107 (by decide) ?_
      exact hj_111 _ (by first | rw [if_pos (by omega)] | rw [if_neg (by omega)])
  rw [← hP]
  have rd3 : -9000000 ≤ ahd τ a b ∧ ahd τ a b ≤ 9000000 := by rw [hP]; split <;> omega
  refine J_istore_n (M := mX8_isAhead) dX8_isAhead_111 rfl (by decide) ?_
  refine Z_bj (M := mX8_isAhead) (pcB := 130) (ahP τ a b) (fun hj_130 => ?_) ?_
  · refine J_iload_n (M := mX8_isAhead) dX8_isAhead_112 rfl rfl ?_
    refine Z_if_gt (M := mX8_isAhead) (tgt := 125) (by first | assumption | exact pI_rg _ | (unfold rg; omega)) dX8_isAhead_113 (by decide) (fun c_113 => ?_) (fun c_113 => ?_)
    · refine Z_iconst (M := mX8_isAhead) dX8_isAhead_125 ?_
      refine J_goto (M := mX8_isAhead) (tgt := 130) dX8_isAhead_126 (by decide) ?_
      exact hj_130 _ (pI_t (by unfold ahP; omega)).symm
    · refine J_iload_n (M := mX8_isAhead) dX8_isAhead_116 rfl rfl ?_
      first
        | refine Z_pt (M := mX8_isAhead) (tgt := 129) dX8_isAhead_117 (by decide) (fun c_117 => ?_) (fun c_117 => ?_)
        | refine Z_if_ne (M := mX8_isAhead) (tgt := 129) (by first | assumption | exact pI_rg _ | (unfold rg; omega)) dX8_isAhead_117 (by decide) (fun c_117 => ?_) (fun c_117 => ?_)
      · refine Z_iconst (M := mX8_isAhead) dX8_isAhead_129 ?_
        exact hj_130 _ (pI_f (by unfold ahP; omega)).symm
      · refine J_iload_n (M := mX8_isAhead) dX8_isAhead_120 rfl rfl ?_
        refine J_iload_n (M := mX8_isAhead) dX8_isAhead_121 rfl rfl ?_
        refine Z_ic_ge (M := mX8_isAhead) (tgt := 129) (by first | assumption | exact pI_rg _ | (unfold rg; omega)) (by first | assumption | exact pI_rg _ | (unfold rg; omega)) dX8_isAhead_122 (by decide) (fun c_122 => ?_) (fun c_122 => ?_)
        · refine Z_iconst (M := mX8_isAhead) dX8_isAhead_129 ?_
          exact hj_130 _ (pI_f (by unfold ahP; omega)).symm
        · refine Z_iconst (M := mX8_isAhead) dX8_isAhead_125 ?_
          refine J_goto (M := mX8_isAhead) (tgt := 130) dX8_isAhead_126 (by decide) ?_
          exact hj_130 _ (pI_t (by unfold ahP; omega)).symm
  refine M_zret (M := mX8_isAhead) dX8_isAhead_130 rfl (by first | exact pI_01 _ | exact Or.inl rfl | exact Or.inr rfl | omega) ?_
  exact And.intro rfl rfl

noncomputable def cnA (u : TS) (i : Int) : Nat → Int
  | 0 => 0
  | m + 1 => cnA u i m + pI (¬ (m : Int) = i ∧ ahP u m i)
noncomputable def rkF (u : TS) (p n : Int) : Nat → Int
  | 0 => 0
  | i + 1 => if cnA u i n.toNat = p then i else rkF u p n i
theorem cnA_rg {u : TS} {i : Int} : ∀ m : Nat, 0 ≤ cnA u i m ∧ cnA u i m ≤ m
  | 0 => by show (0 : Int) ≤ 0 ∧ (0 : Int) ≤ ((0 : Nat) : Int); omega
  | m + 1 => by
      have h := cnA_rg (u := u) (i := i) m
      have p := pI_01 (¬ (m : Int) = i ∧ ahP u m i)
      show 0 ≤ cnA u i m + pI _ ∧ cnA u i m + pI _ ≤ ((m + 1 : Nat) : Int)
      omega
theorem rkF_rg {u : TS} {p n : Int} : ∀ i : Nat, 0 ≤ rkF u p n i ∧ rkF u p n i ≤ i
  | 0 => by show (0 : Int) ≤ 0 ∧ (0 : Int) ≤ ((0 : Nat) : Int); omega
  | i + 1 => by
      have h := rkF_rg (u := u) (p := p) (n := n) i
      show 0 ≤ (if cnA u i n.toNat = p then (i : Int) else rkF u p n i) ∧ (if cnA u i n.toNat = p then (i : Int) else rkF u p n i) ≤ ((i + 1 : Nat) : Int)
      split <;> omega
set_option maxRecDepth 100000 in
set_option maxHeartbeats 4000000 in
theorem ranked_l1 {X : GX} {h : LH} {τ : TS} {k n : Nat} {Q : LO → LH → Prop} {p r i : Int} (W : WF τ) (hi : 0 ≤ i ∧ i < τ 1 0) : ∀ (m j : Nat), (j : Int) + m = τ 1 0 → J X mX8_ranked 59 [some (vR (some (20, 0))), some (vI (iI p)), some (vI (iI r)), some (vI (iI i)), some (vI (iI (cnA τ i (j + m)))), none] [] (hm h τ) k n Q → J X mX8_ranked 18 [some (vR (some (20, 0))), some (vI (iI p)), some (vI (iI r)), some (vI (iI i)), some (vI (iI (cnA τ i j))), some (vI (iI j))] [] (hm h τ) k n Q := by
  intro m
  have b1 := wf1 W 0
  induction m with
  | zero =>
    intro j hj kk
    refine J_iload (M := mX8_ranked) dX8_ranked_18 rfl ?_
    refine J_aload_n (M := mX8_ranked) dX8_ranked_20 rfl rfl ?_
    refine M_get (M := mX8_ranked) dX8_ranked_21 fi_X8_82 rfl ?_
    refine Z_eq (M := mX8_ranked) (b := τ 1 0) rfl ?_
    refine Z_ic_ge (M := mX8_ranked) (tgt := 59) (by first | assumption | exact pI_rg _ | (unfold rg; omega)) (by first | assumption | exact pI_rg _ | (unfold rg; omega)) dX8_ranked_24 (by decide) (fun c_24 => ?_) (fun c_24 => ?_)
    · exact J_sub kk (And.intro rfl (And.intro rfl (And.intro rfl (And.intro rfl (And.intro rfl trivial)))))
    · omega
  | succ m ih =>
    intro j hj kk
    have ea : j + (m + 1) = j + 1 + m := by omega
    rw [ea] at kk
    have en : cnA τ i (j + 1) = cnA τ i j + pI (¬ (j : Int) = i ∧ ahP τ j i) := rfl
    have kk2 := ih (j + 1) (by push_cast; omega) kk
    refine J_iload (M := mX8_ranked) dX8_ranked_18 rfl ?_
    refine J_aload_n (M := mX8_ranked) dX8_ranked_20 rfl rfl ?_
    refine M_get (M := mX8_ranked) dX8_ranked_21 fi_X8_82 rfl ?_
    refine Z_eq (M := mX8_ranked) (b := τ 1 0) rfl ?_
    refine Z_ic_ge (M := mX8_ranked) (tgt := 59) (by first | assumption | exact pI_rg _ | (unfold rg; omega)) (by first | assumption | exact pI_rg _ | (unfold rg; omega)) dX8_ranked_24 (by decide) (fun c_24 => ?_) (fun c_24 => ?_)
    · omega
    · refine J_iload (M := mX8_ranked) dX8_ranked_27 rfl ?_
      refine Z_bj (M := mX8_ranked) (pcB := 50) (¬ (j : Int) = i ∧ ahP τ j i) (fun hj_50 => ?_) ?_
      · refine J_iload (M := mX8_ranked) dX8_ranked_29 rfl ?_
        refine J_iload_n (M := mX8_ranked) dX8_ranked_31 rfl rfl ?_
        refine Z_ic_eq (M := mX8_ranked) (tgt := 49) (by first | assumption | exact pI_rg _ | (unfold rg; omega)) (by first | assumption | exact pI_rg _ | (unfold rg; omega)) dX8_ranked_32 (by decide) (fun c_32 => ?_) (fun c_32 => ?_)
        · refine Z_iconst (M := mX8_ranked) dX8_ranked_49 ?_
          exact hj_50 _ (pI_f (by first | assumption | omega | exact And.intro (by omega) (by assumption) | exact fun h => by have := h.2; contradiction)).symm
        · refine J_aload_n (M := mX8_ranked) dX8_ranked_35 rfl rfl ?_
          refine J_iload (M := mX8_ranked) dX8_ranked_36 rfl ?_
          refine J_iload_n (M := mX8_ranked) dX8_ranked_38 rfl rfl ?_
          refine M_call (M := mX8_ranked) (as := [_, _]) dX8_ranked_39 ca_X8_194 ⟨by decide, by decide⟩ rfl (Nat.le_of_ble_eq_true rfl) rfl rfl (c_isAhead W (by omega) (by omega)) (fun v_39 t_39 hv_39 => ?_)
          obtain ⟨rfl, e_39⟩ := hv_39
          rw [e_39]
          first
            | refine Z_pf (M := mX8_ranked) (tgt := 49) dX8_ranked_42 (by decide) (fun c_42 => ?_) (fun c_42 => ?_)
            | refine Z_if_eq (M := mX8_ranked) (tgt := 49) (by first | assumption | exact pI_rg _ | (unfold rg; omega)) dX8_ranked_42 (by decide) (fun c_42 => ?_) (fun c_42 => ?_)
          · refine Z_iconst (M := mX8_ranked) dX8_ranked_49 ?_
            exact hj_50 _ (pI_f (by first | assumption | omega | exact And.intro (by omega) (by assumption) | exact fun h => by have := h.2; contradiction)).symm
          · refine Z_iconst (M := mX8_ranked) dX8_ranked_45 ?_
            refine J_goto (M := mX8_ranked) (tgt := 50) dX8_ranked_46 (by decide) ?_
            exact hj_50 _ (pI_t (by first | assumption | omega | exact And.intro (by omega) (by assumption) | exact fun h => by have := h.2; contradiction)).symm
      refine Z_iadd (M := mX8_ranked) dX8_ranked_50 ?_
      refine J_istore (M := mX8_ranked) dX8_ranked_51 (by decide) ?_
      refine Z_iinc (M := mX8_ranked) dX8_ranked_53 rfl (by decide) ?_
      refine J_goto (M := mX8_ranked) (tgt := 18) dX8_ranked_56 (by decide) ?_
      exact J_sub kk2 (And.intro rfl (And.intro rfl (And.intro rfl (And.intro rfl (And.intro (vz (by rw [en])) (And.intro (vz (by push_cast; omega)) trivial))))))

set_option maxRecDepth 100000 in
set_option maxHeartbeats 4000000 in
theorem ranked_l2 {X : GX} {h : LH} {τ : TS} {k n : Nat} {Q : LO → LH → Prop} {p : Int} (W : WF τ) (hp : rg p) : ∀ (m i : Nat), (i : Int) + m = τ 1 0 → J X mX8_ranked 77 [some (vR (some (20, 0))), some (vI (iI p)), some (vI (iI (rkF τ p (τ 1 0) (i + m)))), none, none, none] [] (hm h τ) k n Q → J X mX8_ranked 4 [some (vR (some (20, 0))), some (vI (iI p)), some (vI (iI (rkF τ p (τ 1 0) i))), some (vI (iI i)), none, none] [] (hm h τ) k n Q := by
  intro m
  have b1 := wf1 W 0
  induction m with
  | zero =>
    intro i hi kk
    refine J_iload_n (M := mX8_ranked) dX8_ranked_4 rfl rfl ?_
    refine J_aload_n (M := mX8_ranked) dX8_ranked_5 rfl rfl ?_
    refine M_get (M := mX8_ranked) dX8_ranked_6 fi_X8_82 rfl ?_
    refine Z_eq (M := mX8_ranked) (b := τ 1 0) rfl ?_
    refine Z_ic_ge (M := mX8_ranked) (tgt := 77) (by first | assumption | exact pI_rg _ | (unfold rg; omega)) (by first | assumption | exact pI_rg _ | (unfold rg; omega)) dX8_ranked_9 (by decide) (fun c_9 => ?_) (fun c_9 => ?_)
    · exact J_sub kk (And.intro rfl (And.intro rfl (And.intro rfl trivial)))
    · omega
  | succ m ih =>
    intro i hi kk
    have ea : i + (m + 1) = i + 1 + m := by omega
    rw [ea] at kk
    have en : rkF τ p (τ 1 0) (i + 1) = if cnA τ i (τ 1 0).toNat = p then (i : Int) else rkF τ p (τ 1 0) i := rfl
    have kk2 := ih (i + 1) (by push_cast; omega) kk
    have cr := cnA_rg (u := τ) (i := i) (τ 1 0).toNat
    rw [en] at kk2
    refine J_iload_n (M := mX8_ranked) dX8_ranked_4 rfl rfl ?_
    refine J_aload_n (M := mX8_ranked) dX8_ranked_5 rfl rfl ?_
    refine M_get (M := mX8_ranked) dX8_ranked_6 fi_X8_82 rfl ?_
    refine Z_eq (M := mX8_ranked) (b := τ 1 0) rfl ?_
    refine Z_ic_ge (M := mX8_ranked) (tgt := 77) (by first | assumption | exact pI_rg _ | (unfold rg; omega)) (by first | assumption | exact pI_rg _ | (unfold rg; omega)) dX8_ranked_9 (by decide) (fun c_9 => ?_) (fun c_9 => ?_)
    · omega
    · refine Z_iconst (M := mX8_ranked) dX8_ranked_12 ?_
      refine J_istore (M := mX8_ranked) dX8_ranked_13 (by decide) ?_
      refine Z_iconst (M := mX8_ranked) dX8_ranked_15 ?_
      refine J_istore (M := mX8_ranked) dX8_ranked_16 (by decide) ?_
      refine J_sub (M := mX8_ranked) (ranked_l1 (i := (i : Int)) W (by omega) (τ 1 0).toNat 0 (by omega) ?_) (And.intro rfl (And.intro rfl (And.intro rfl (And.intro rfl (And.intro rfl (And.intro rfl trivial))))))
      rw [Nat.zero_add]
      refine Z_ij (M := mX8_ranked) (pcB := 70) (if cnA τ i (τ 1 0).toNat = p then (i : Int) else rkF τ p (τ 1 0) i) (fun hj_70 => ?_) ?_
      · refine J_iload (M := mX8_ranked) dX8_ranked_59 rfl ?_
        refine J_iload_n (M := mX8_ranked) dX8_ranked_61 rfl rfl ?_
        refine Z_ic_ne (M := mX8_ranked) (tgt := 69) (by first | assumption | exact pI_rg _ | (unfold rg; omega)) (by first | assumption | exact pI_rg _ | (unfold rg; omega)) dX8_ranked_62 (by decide) (fun c_62 => ?_) (fun c_62 => ?_)
        · refine J_iload_n (M := mX8_ranked) dX8_ranked_69 rfl rfl ?_
          exact hj_70 _ (by first | rw [if_pos (by omega)] | rw [if_neg (by omega)])
        · refine J_iload_n (M := mX8_ranked) dX8_ranked_65 rfl rfl ?_
          refine J_goto (M := mX8_ranked) (tgt := 70) dX8_ranked_66 (by decide) ?_
          exact hj_70 _ (by first | rw [if_pos (by omega)] | rw [if_neg (by omega)])
      refine J_istore_n (M := mX8_ranked) dX8_ranked_70 rfl (by decide) ?_
      refine Z_iinc (M := mX8_ranked) dX8_ranked_71 rfl (by decide) ?_
      refine J_goto (M := mX8_ranked) (tgt := 4) dX8_ranked_74 (by decide) ?_
      exact J_sub kk2 (And.intro rfl (And.intro rfl (And.intro rfl (And.intro (vz (by push_cast; omega)) trivial))))

set_option maxRecDepth 100000 in
set_option maxHeartbeats 4000000 in
theorem c_ranked {X : GX} {h : LH} {τ : TS} (W : WF τ) {p : Int} (hp : rg p) : CM X mX8_ranked [vI (iI p)] h τ (fun v t => v = some (vI (iI (rkF τ p (τ 1 0) (τ 1 0).toNat))) ∧ t = τ) := by
  have b1 := wf1 W 0
  refine CM_of (by decide +kernel) rfl (Nat.le_of_ble_eq_true rfl) ?_
  refine Z_iconst (M := mX8_ranked) dX8_ranked_0 ?_
  refine J_istore_n (M := mX8_ranked) dX8_ranked_1 rfl (by decide) ?_
  refine Z_iconst (M := mX8_ranked) dX8_ranked_2 ?_
  refine J_istore_n (M := mX8_ranked) dX8_ranked_3 rfl (by decide) ?_
  refine J_sub (M := mX8_ranked) (ranked_l2 (p := p) W hp (τ 1 0).toNat 0 (by omega) ?_) (And.intro rfl (And.intro rfl (And.intro rfl (And.intro rfl trivial))))
  rw [Nat.zero_add]
  refine J_iload_n (M := mX8_ranked) dX8_ranked_77 rfl rfl ?_
  refine M_iret (M := mX8_ranked) dX8_ranked_78 rfl ?_
  exact And.intro rfl rfl
  

set_option maxRecDepth 100000 in
set_option maxHeartbeats 4000000 in
theorem c_won {X : GX} {h : LH} {τ : TS} (W : WF τ) {f : Int} (hf : rg f) : CM X mX8_won [vI (iI f)] h τ (ansQ τ (gl (pI (0 ≤ f ∧ f ≤ τ 1 0 - 1)) 1 1) (sm τ 30 f) (ts τ 33 0 0)) := by
  refine CM_of (by decide +kernel) rfl (Nat.le_of_ble_eq_true rfl) ?_
  refine J_aload_n (M := mX8_won) dX8_won_0 rfl rfl ?_
  refine J_aload_n (M := mX8_won) dX8_won_1 rfl rfl ?_
  refine J_iload_n (M := mX8_won) dX8_won_2 rfl rfl ?_
  refine M_call (M := mX8_won) (as := [_]) dX8_won_3 ca_X8_105 ⟨by decide, by decide⟩ rfl (Nat.le_of_ble_eq_true rfl) rfl rfl (c_isFencer W (by first | assumption | exact pI_rg _ | (unfold rg; omega))) (fun v_3 t_3 hv_3 => ?_)
  obtain ⟨rfl, e_3⟩ := hv_3
  rw [e_3]
  refine Z_iconst (M := mX8_won) dX8_won_6 ?_
  refine Z_iconst (M := mX8_won) dX8_won_7 ?_
  refine M_call (M := mX8_won) (as := [_, _, _]) dX8_won_8 ca_X8_101 ⟨by decide, by decide⟩ rfl (Nat.le_of_ble_eq_true rfl) rfl rfl (c_goes (by first | assumption | exact pI_rg _ | (unfold rg; omega)) (by first | assumption | exact pI_rg _ | (unfold rg; omega)) (by first | assumption | exact pI_rg _ | (unfold rg; omega))) (fun v_8 t_8 hv_8 => ?_)
  obtain ⟨rfl, e_8⟩ := hv_8
  rw [e_8]
  have W1 : WF (ts τ 33 0 (gl (pI (0 ≤ f ∧ f ≤ τ 1 0 - 1)) 1 1)) := WF_ts W gl_rg
  first
    | refine Z_pt (M := mX8_won) (tgt := 16) dX8_won_11 (by decide) (fun c_11 => ?_) (fun c_11 => ?_)
    | refine Z_if_ne (M := mX8_won) (tgt := 16) (by first | assumption | exact pI_rg _ | (unfold rg; omega)) dX8_won_11 (by decide) (fun c_11 => ?_) (fun c_11 => ?_)
  · have hc := c_11
    simp only [pI_n0] at hc
    have hf1 : 0 ≤ f ∧ f < 12 := by have := wf1 W 0; omega
    rw [gl_0 c_11] at W1
    rw [gl_0 c_11]
    refine J_aload_n (M := mX8_won) dX8_won_16 rfl rfl ?_
    refine M_call (M := mX8_won) (as := []) dX8_won_17 ca_X8_191 ⟨by decide, by decide⟩ rfl (Nat.le_of_ble_eq_true rfl) rfl rfl (c_sums W1) (fun v_17 t_17 hv_17 => ?_)
    obtain ⟨rfl, e_17⟩ := hv_17
    rw [e_17]
    clear e_17
    have ew := WF_sm W1
    have es : smF (ts τ 33 0 0) (ts τ 33 0 0 9 0).toNat = sm (ts τ 33 0 0) := rfl
    rw [es]
    refine J_aload_n (M := mX8_won) dX8_won_20 rfl rfl ?_
    refine M_get (M := mX8_won) (v := vR (some (70, 0))) dX8_won_21 fi_X8_66 rfl ?_
    refine J_iload_n (M := mX8_won) dX8_won_24 rfl rfl ?_
    refine M_iald (M := mX8_won) (kf := 30) (N := 12) dX8_won_25 rfl (by decide) (by omega) (by omega) ?_
    refine Z_eq (M := mX8_won) (b := sm τ 30 f) (sm_33 W (by decide) hf1.1 hf1.2) ?_
    refine M_iret (M := mX8_won) dX8_won_26 rfl ?_
    exact ansQ_y ew rfl rfl (by rw [sm_at33]; rfl) SQ_sm
  · refine Z_iconst (M := mX8_won) dX8_won_14 ?_
    refine M_iret (M := mX8_won) dX8_won_15 rfl ?_
    exact ansQ_n (by assumption) (gl_n (by assumption)) rfl ts0 (by repeat (first | exact SQ_rfl | exact SQ_wt | refine SQ_c ?_ | refine SQ_l (by decide) ?_ | refine SQ_r (by decide) ?_ | refine SQ_t3 ?_))

set_option maxRecDepth 100000 in
set_option maxHeartbeats 4000000 in
theorem c_index {X : GX} {h : LH} {τ : TS} (W : WF τ) {f : Int} (hf : rg f) : CM X mX8_index [vI (iI f)] h τ (ansQ τ (gl (pI (0 ≤ f ∧ f ≤ τ 1 0 - 1)) 1 1) (sm τ 31 f - sm τ 32 f) (ts τ 33 0 0)) := by
  refine CM_of (by decide +kernel) rfl (Nat.le_of_ble_eq_true rfl) ?_
  refine J_aload_n (M := mX8_index) dX8_index_0 rfl rfl ?_
  refine J_aload_n (M := mX8_index) dX8_index_1 rfl rfl ?_
  refine J_iload_n (M := mX8_index) dX8_index_2 rfl rfl ?_
  refine M_call (M := mX8_index) (as := [_]) dX8_index_3 ca_X8_105 ⟨by decide, by decide⟩ rfl (Nat.le_of_ble_eq_true rfl) rfl rfl (c_isFencer W (by first | assumption | exact pI_rg _ | (unfold rg; omega))) (fun v_3 t_3 hv_3 => ?_)
  obtain ⟨rfl, e_3⟩ := hv_3
  rw [e_3]
  refine Z_iconst (M := mX8_index) dX8_index_6 ?_
  refine Z_iconst (M := mX8_index) dX8_index_7 ?_
  refine M_call (M := mX8_index) (as := [_, _, _]) dX8_index_8 ca_X8_101 ⟨by decide, by decide⟩ rfl (Nat.le_of_ble_eq_true rfl) rfl rfl (c_goes (by first | assumption | exact pI_rg _ | (unfold rg; omega)) (by first | assumption | exact pI_rg _ | (unfold rg; omega)) (by first | assumption | exact pI_rg _ | (unfold rg; omega))) (fun v_8 t_8 hv_8 => ?_)
  obtain ⟨rfl, e_8⟩ := hv_8
  rw [e_8]
  have W1 : WF (ts τ 33 0 (gl (pI (0 ≤ f ∧ f ≤ τ 1 0 - 1)) 1 1)) := WF_ts W gl_rg
  first
    | refine Z_pt (M := mX8_index) (tgt := 16) dX8_index_11 (by decide) (fun c_11 => ?_) (fun c_11 => ?_)
    | refine Z_if_ne (M := mX8_index) (tgt := 16) (by first | assumption | exact pI_rg _ | (unfold rg; omega)) dX8_index_11 (by decide) (fun c_11 => ?_) (fun c_11 => ?_)
  · have hc := c_11
    simp only [pI_n0] at hc
    have hf1 : 0 ≤ f ∧ f < 12 := by have := wf1 W 0; omega
    rw [gl_0 c_11] at W1
    rw [gl_0 c_11]
    refine J_aload_n (M := mX8_index) dX8_index_16 rfl rfl ?_
    refine M_call (M := mX8_index) (as := []) dX8_index_17 ca_X8_191 ⟨by decide, by decide⟩ rfl (Nat.le_of_ble_eq_true rfl) rfl rfl (c_sums W1) (fun v_17 t_17 hv_17 => ?_)
    obtain ⟨rfl, e_17⟩ := hv_17
    rw [e_17]
    clear e_17
    have ew := WF_sm W1
    have es : smF (ts τ 33 0 0) (ts τ 33 0 0 9 0).toNat = sm (ts τ 33 0 0) := rfl
    rw [es]
    refine J_aload_n (M := mX8_index) dX8_index_20 rfl rfl ?_
    refine M_get (M := mX8_index) (v := vR (some (71, 0))) dX8_index_21 fi_X8_69 rfl ?_
    refine J_iload_n (M := mX8_index) dX8_index_24 rfl rfl ?_
    refine M_iald (M := mX8_index) (kf := 31) (N := 12) dX8_index_25 rfl (by decide) (by omega) (by omega) ?_
    refine Z_eq (M := mX8_index) (b := sm τ 31 f) (sm_33 W (by decide) hf1.1 hf1.2) ?_
    refine J_aload_n (M := mX8_index) dX8_index_26 rfl rfl ?_
    refine M_get (M := mX8_index) (v := vR (some (72, 0))) dX8_index_27 fi_X8_72 rfl ?_
    refine J_iload_n (M := mX8_index) dX8_index_30 rfl rfl ?_
    refine M_iald (M := mX8_index) (kf := 32) (N := 12) dX8_index_31 rfl (by decide) (by omega) (by omega) ?_
    refine Z_eq (M := mX8_index) (b := sm τ 32 f) (sm_33 W (by decide) hf1.1 hf1.2) ?_
    refine Z_isub (M := mX8_index) dX8_index_32 ?_
    refine M_iret (M := mX8_index) dX8_index_33 rfl ?_
    exact ansQ_y ew rfl rfl (by rw [sm_at33]; rfl) SQ_sm
  · refine Z_iconst (M := mX8_index) dX8_index_14 ?_
    refine M_iret (M := mX8_index) dX8_index_15 rfl ?_
    exact ansQ_n (by assumption) (gl_n (by assumption)) rfl ts0 (by repeat (first | exact SQ_rfl | exact SQ_wt | refine SQ_c ?_ | refine SQ_l (by decide) ?_ | refine SQ_r (by decide) ?_ | refine SQ_t3 ?_))

set_option maxRecDepth 100000 in
set_option maxHeartbeats 4000000 in
theorem c_rankedAt {X : GX} {h : LH} {τ : TS} (W : WF τ) {f : Int} (hf : rg f) : CM X mX8_rankedAt [vI (iI f)] h τ (ansQ τ (gl (pI (0 ≤ f ∧ f ≤ τ 1 0 - 1)) 1 1) (rkF (sm (ts τ 33 0 0)) f (τ 1 0) (τ 1 0).toNat) (ts τ 33 0 0)) := by
  have b1 := wf1 W 0
  refine CM_of (by decide +kernel) rfl (Nat.le_of_ble_eq_true rfl) ?_
  refine J_aload_n (M := mX8_rankedAt) dX8_rankedAt_0 rfl rfl ?_
  refine J_iload_n (M := mX8_rankedAt) dX8_rankedAt_1 rfl rfl ?_
  refine Z_iconst (M := mX8_rankedAt) dX8_rankedAt_2 ?_
  refine J_aload_n (M := mX8_rankedAt) dX8_rankedAt_3 rfl rfl ?_
  refine M_get (M := mX8_rankedAt) dX8_rankedAt_4 fi_X8_82 rfl ?_
  refine Z_eq (M := mX8_rankedAt) (b := τ 1 0) rfl ?_
  refine Z_iconst (M := mX8_rankedAt) dX8_rankedAt_7 ?_
  refine Z_isub (M := mX8_rankedAt) dX8_rankedAt_8 ?_
  refine M_callS (M := mX8_rankedAt) (as := [_, _, _]) dX8_rankedAt_9 ca_X8_85 ⟨by decide, by decide⟩ rfl (Nat.le_of_ble_eq_true rfl) rfl rfl (c_in (by first | assumption | exact pI_rg _ | (unfold rg; omega)) (by first | assumption | exact pI_rg _ | (unfold rg; omega)) (by first | assumption | exact pI_rg _ | (unfold rg; omega))) ?_
  refine Z_iconst (M := mX8_rankedAt) dX8_rankedAt_12 ?_
  refine Z_iconst (M := mX8_rankedAt) dX8_rankedAt_13 ?_
  refine M_call (M := mX8_rankedAt) (as := [_, _, _]) dX8_rankedAt_14 ca_X8_101 ⟨by decide, by decide⟩ rfl (Nat.le_of_ble_eq_true rfl) rfl rfl (c_goes (by first | assumption | exact pI_rg _ | (unfold rg; omega)) (by first | assumption | exact pI_rg _ | (unfold rg; omega)) (by first | assumption | exact pI_rg _ | (unfold rg; omega))) (fun v_14 t_14 hv_14 => ?_)
  obtain ⟨rfl, e_14⟩ := hv_14
  rw [e_14]
  have W1 : WF (ts τ 33 0 (gl (pI (0 ≤ f ∧ f ≤ τ 1 0 - 1)) 1 1)) := WF_ts W gl_rg
  first
    | refine Z_pt (M := mX8_rankedAt) (tgt := 22) dX8_rankedAt_17 (by decide) (fun c_17 => ?_) (fun c_17 => ?_)
    | refine Z_if_ne (M := mX8_rankedAt) (tgt := 22) (by first | assumption | exact pI_rg _ | (unfold rg; omega)) dX8_rankedAt_17 (by decide) (fun c_17 => ?_) (fun c_17 => ?_)
  · have hc := c_17
    simp only [pI_n0] at hc
    rw [gl_0 c_17] at W1
    rw [gl_0 c_17]
    refine J_aload_n (M := mX8_rankedAt) dX8_rankedAt_22 rfl rfl ?_
    refine M_call (M := mX8_rankedAt) (as := []) dX8_rankedAt_23 ca_X8_191 ⟨by decide, by decide⟩ rfl (Nat.le_of_ble_eq_true rfl) rfl rfl (c_sums W1) (fun v_23 t_23 hv_23 => ?_)
    obtain ⟨rfl, e_23⟩ := hv_23
    rw [e_23]
    clear e_23
    have ew := WF_sm W1
    have es : smF (ts τ 33 0 0) (ts τ 33 0 0 9 0).toNat = sm (ts τ 33 0 0) := rfl
    rw [es]
    refine J_aload_n (M := mX8_rankedAt) dX8_rankedAt_26 rfl rfl ?_
    refine J_iload_n (M := mX8_rankedAt) dX8_rankedAt_27 rfl rfl ?_
    refine M_call (M := mX8_rankedAt) (as := [_]) dX8_rankedAt_28 ca_X8_197 ⟨by decide, by decide⟩ rfl (Nat.le_of_ble_eq_true rfl) rfl rfl (c_ranked ew hf) (fun v_28 t_28 hv_28 => ?_)
    obtain ⟨rfl, e_28⟩ := hv_28
    rw [e_28]
    have e1 : sm (ts τ 33 0 0) 1 = τ 1 := SQ_sm 1 (by decide)
    rw [e1]
    refine M_iret (M := mX8_rankedAt) dX8_rankedAt_31 rfl ?_
    exact ansQ_y ew rfl rfl (by rw [sm_at33]; rfl) SQ_sm
  · refine Z_iconst (M := mX8_rankedAt) dX8_rankedAt_20 ?_
    refine M_iret (M := mX8_rankedAt) dX8_rankedAt_21 rfl ?_
    exact ansQ_n (by assumption) (gl_n (by assumption)) rfl ts0 (by repeat (first | exact SQ_rfl | exact SQ_wt | refine SQ_c ?_ | refine SQ_l (by decide) ?_ | refine SQ_r (by decide) ?_ | refine SQ_t3 ?_))

