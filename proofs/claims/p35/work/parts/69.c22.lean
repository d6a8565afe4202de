/-! THE CLASS: the tableau laid -/
theorem dcd_n {τ : TS} {i : Nat} (h : ¬ dcd τ i) : ∀ m, ¬ dcd τ (i + m)
  | 0 => h
  | m + 1 => fun z => dcd_n h m z.1
set_option maxRecDepth 100000 in
set_option maxHeartbeats 4000000 in
theorem op_l {X : GX} {h : LH} {ρ τ : TS} {k n : Nat} (R : RC ρ τ) : ∀ (m i : Nat), (i : Int) + m = τ 9 0 → dcd τ i → J X mX7_isAPoolBoutOpen 2 [some (vR (some (1, 0))), some (vI (iI i)), none] [] (hk h ρ) k n (QK h (fun v r => v = some (vI (iI (pI (¬ dcd τ (τ 9 0).toNat)))) ∧ r = ρ)) := by
  have W := R.1
  have V := R.2.1
  have w9 := wf9 W 0
  have e3 := R.2.2.1.2.2
  intro m
  induction m with
  | zero =>
    intro i hi hd
    have ei : (τ 9 0).toNat = i := by omega
    refine J_iload_n (M := mX7_isAPoolBoutOpen) dX7_isAPoolBoutOpen_2 rfl rfl ?_
    refine J_aload_n (M := mX7_isAPoolBoutOpen) dX7_isAPoolBoutOpen_3 rfl rfl ?_
    refine J_getf (M := mX7_isAPoolBoutOpen) dX7_isAPoolBoutOpen_4 fi_X7_284 (hk_1 (by first | exact rfl | assumption | exact Or.inl (by assumption) | exact Or.inr rfl | (show 0 ≤ _ ∧ _ < _; omega))) rfl ?_
    refine Z_wb (M := mX7_isAPoolBoutOpen) (g := ρ 3) (wk3 V) rfl (fun wb_3_3 => ?_)
    refine Z_ic_ge (M := mX7_isAPoolBoutOpen) (tgt := 37) (by first | assumption | exact pI_rg _ | (unfold rg; omega)) (by first | assumption | exact pI_rg _ | (unfold rg; omega)) dX7_isAPoolBoutOpen_7 (by decide) (fun c_7 => ?_) (fun c_7 => ?_)
    · refine Z_iconst (M := mX7_isAPoolBoutOpen) dX7_isAPoolBoutOpen_37 ?_
      refine K_zret dX7_isAPoolBoutOpen_38 rfl (by first | exact pI_01 _ | exact Or.inl rfl | exact Or.inr rfl | omega) ?_
      exact And.intro (by rw [ei, pI_f (fun z => z hd)]) rfl
    · omega
  | succ m ih =>
    intro i hi hd
    have e6 := (R.2.2.2.2.1 i (by omega) (by omega)).1
    have B := R.2.2.2.2.2 i (by omega) (by omega)
    have e13 : CE ρ 13 (i : Int) := B.1.2.1
    have b1 := te_rg W i
    refine J_iload_n (M := mX7_isAPoolBoutOpen) dX7_isAPoolBoutOpen_2 rfl rfl ?_
    refine J_aload_n (M := mX7_isAPoolBoutOpen) dX7_isAPoolBoutOpen_3 rfl rfl ?_
    refine J_getf (M := mX7_isAPoolBoutOpen) dX7_isAPoolBoutOpen_4 fi_X7_284 (hk_1 (by first | exact rfl | assumption | exact Or.inl (by assumption) | exact Or.inr rfl | (show 0 ≤ _ ∧ _ < _; omega))) rfl ?_
    refine Z_wb (M := mX7_isAPoolBoutOpen) (g := ρ 3) (wk3 V) rfl (fun wb_3_3 => ?_)
    refine Z_ic_ge (M := mX7_isAPoolBoutOpen) (tgt := 37) (by first | assumption | exact pI_rg _ | (unfold rg; omega)) (by first | assumption | exact pI_rg _ | (unfold rg; omega)) dX7_isAPoolBoutOpen_7 (by decide) (fun c_7 => ?_) (fun c_7 => ?_)
    · omega
    · refine J_aload_n (M := mX7_isAPoolBoutOpen) dX7_isAPoolBoutOpen_10 rfl rfl ?_
      refine J_getf (M := mX7_isAPoolBoutOpen) dX7_isAPoolBoutOpen_11 fi_X7_23 (hk_1 (by first | exact rfl | assumption | exact Or.inl (by assumption) | exact Or.inr rfl | (show 0 ≤ _ ∧ _ < _; omega))) rfl ?_
      refine J_iload_n (M := mX7_isAPoolBoutOpen) dX7_isAPoolBoutOpen_14 rfl rfl ?_
      refine Z_aald (M := mX7_isAPoolBoutOpen) dX7_isAPoolBoutOpen_15 (by decide) rfl (hk_4 (by first | exact rfl | assumption | exact Or.inl (by assumption) | exact Or.inr rfl | (show 0 ≤ _ ∧ _ < _; omega))) (by decide) (by omega) (by omega) ?_
      refine Z_req (M := mX7_isAPoolBoutOpen) (rar_at (by omega)) ?_
      refine Z_rfe (M := mX7_isAPoolBoutOpen) (sub_at ⟨by omega, by omega⟩) ?_
      refine Z_rwb (M := mX7_isAPoolBoutOpen) (g := ρ 6) (wk6 V) (congrArg (ρ 6) (z0 _ _)) (fun wb_6_11 => ?_)
      first | refine Z_some (M := mX7_isAPoolBoutOpen) (by omega) ?_ | skip
      refine Z_req (M := mX7_isAPoolBoutOpen) (congrArg (fun z => some (13, z)) e6) ?_
      refine J_astore_n (M := mX7_isAPoolBoutOpen) dX7_isAPoolBoutOpen_16 rfl (by decide) ?_
      refine J_aload_n (M := mX7_isAPoolBoutOpen) dX7_isAPoolBoutOpen_17 rfl rfl ?_
      first | refine Z_some (M := mX7_isAPoolBoutOpen) (by omega) ?_ | skip
      first | refine Z_uns (M := mX7_isAPoolBoutOpen) (by omega) ?_ | skip
      refine K_ifnull (tgt := 31) dX7_isAPoolBoutOpen_18 (by decide) (fun c_18 => ?_) (fun c_18 => ?_)
      · omega
      · refine J_aload_n (M := mX7_isAPoolBoutOpen) dX7_isAPoolBoutOpen_21 rfl rfl ?_
        first | refine Z_some (M := mX7_isAPoolBoutOpen) (by omega) ?_ | skip
        refine J_callV (M := mX7_isAPoolBoutOpen) (as := []) dX7_isAPoolBoutOpen_22 ca_X7_349 ⟨by decide, by decide⟩ (hk_13 (by first | exact rfl | assumption | exact Or.inl (by assumption) | exact Or.inr rfl | (show 0 ≤ _ ∧ _ < _; omega))) rfl (Nat.le_of_ble_eq_true rfl) (k' := k) (n' := n) (Nat.le_refl _) (Nat.le_refl _) (kX0_winningSide V W e13 B.1.2.2.2.1 B.1.2.2.2.2.1 B.2.1) (fun v_22 h_22 hv_22 => ?_)
        obtain ⟨r_22, rfl, hv_22⟩ := hv_22
        obtain ⟨rfl, e_22⟩ := hv_22
        rw [e_22]
        refine Z_iconst (M := mX7_isAPoolBoutOpen) dX7_isAPoolBoutOpen_25 ?_
        refine Z_ic_ne (M := mX7_isAPoolBoutOpen) (tgt := 31) (by first | assumption | exact pI_rg _ | (unfold rg; omega)) (by first | assumption | exact pI_rg _ | (unfold rg; omega)) dX7_isAPoolBoutOpen_26 (by decide) (fun c_26 => ?_) (fun c_26 => ?_)
        · refine Z_iinc (M := mX7_isAPoolBoutOpen) dX7_isAPoolBoutOpen_31 rfl (by decide) ?_
          refine J_goto (M := mX7_isAPoolBoutOpen) (tgt := 2) dX7_isAPoolBoutOpen_34 (by decide) ?_
          exact J_sub (ih (i + 1) (by omega) (And.intro hd c_26)) (And.intro rfl (And.intro (vz (by push_cast; omega)) trivial))
        · refine Z_iconst (M := mX7_isAPoolBoutOpen) dX7_isAPoolBoutOpen_29 ?_
          refine K_zret dX7_isAPoolBoutOpen_30 rfl (by first | exact pI_01 _ | exact Or.inl rfl | exact Or.inr rfl | omega) ?_
          exact And.intro (by rw [pI_t (show ¬ dcd τ (τ 9 0).toNat by rw [show (τ 9 0).toNat = (i + 1) + m by omega]; exact dcd_n (i := i + 1) (fun (z : dcd τ (i + 1)) => z.2 c_26) m)]) rfl

set_option maxRecDepth 100000 in
set_option maxHeartbeats 4000000 in
theorem kX7_isAPoolBoutOpen {X : GX} {h : LH} {ρ τ : TS} (R : RC ρ τ) : CK X mX7_isAPoolBoutOpen [vR (some (1, 0))] h ρ (fun v r => v = some (vI (iI (pI (¬ dcd τ (τ 9 0).toNat)))) ∧ r = ρ) := by
  have V := R.2.1
  have w9 := wf9 R.1 0
  refine CT_of (by decide +kernel) rfl (Nat.le_of_ble_eq_true rfl) ?_
  refine Z_iconst (M := mX7_isAPoolBoutOpen) dX7_isAPoolBoutOpen_0 ?_
  refine J_istore_n (M := mX7_isAPoolBoutOpen) dX7_isAPoolBoutOpen_1 rfl (by decide) ?_
  exact op_l R (τ 9 0).toNat 0 (by omega) trivial

theorem sq_1 {s : Int → Int} : upZ (upZ s 0 1) 1 2 = sq0 s 1 := by
  show _ = sdI (upZ s 0 1) ((2 ^ 0 : Nat) : Int) 0
  funext i
  unfold sdI upZ
  by_cases e1 : i = 1
  · rw [if_pos e1, e1, if_pos (by decide), if_neg (by decide)]; rfl
  · rw [if_neg e1]
    by_cases e0 : i = 0
    · rw [e0]; rfl
    · rw [if_neg e0, if_neg (by rw [show ((2 ^ 0 : Nat) : Int) = 1 from rfl]; omega)]
theorem sdI_at {s : Int → Int} {r k : Int} (h : 0 ≤ k) : sdI s r (k + 1) k = s k := by
  unfold sdI
  rw [if_neg (by omega)]
theorem sq_ind {s s' : Int → Int} : ∀ (d : Nat) (i : Int), 0 ≤ i → i < ((2 ^ d : Nat) : Int) → sq0 s d i = sq0 s' d i
  | 0, i, h0, h1 => by
    have e : i = 0 := by have h2 : i < 1 := h1; omega
    subst e
    rfl
  | d + 1, i, h0, h1 => by
    have hp := p2 (d := d)
    show sdI (sq0 s d) ((2 ^ d : Nat) : Int) 0 i = sdI (sq0 s' d) ((2 ^ d : Nat) : Int) 0 i
    unfold sdI
    have e := sq_ind (s := s) (s' := s') d (i / 2) (by omega) (by omega)
    have hA : 2 * 0 ≤ i ∧ i < 2 * ((2 ^ d : Nat) : Int) := by omega
    rw [if_pos hA, if_pos hA, e]
/-- at an even place of the row a seed of the upper half -/
theorem sq_ev {s : Int → Int} (d : Nat) (i : Int) (h0 : 0 ≤ i) (h1 : i < ((2 ^ (d + 1) : Nat) : Int)) (he : i % 2 = 0) : sq0 s (d + 1) i ≤ ((2 ^ d : Nat) : Int) := by
  have hp := p2 (d := d)
  show sdI (sq0 s d) ((2 ^ d : Nat) : Int) 0 i ≤ _
  unfold sdI
  rw [if_pos (by omega), if_pos he]
  exact (sq_rg d (i / 2) (by omega) (by omega)).2
set_option maxRecDepth 100000 in
set_option maxHeartbeats 4000000 in
theorem ls_i {X : GX} {h : LH} {ρ : TS} {k n : Nat} {Q : LO → LH → Prop} {r : Int} {s : Int → Int} (hr : 1 ≤ r ∧ r ≤ 8) (kk : J X mX4_laySeeds 79 [some (vR (some (6, 0))), some (vI (iI r)), none, none] [] (hk h (fs ρ 45 (sdI s r 0))) k n Q) : ∀ (m : Nat) (c : Int), c + 1 = m → c < r → J X mX4_laySeeds 36 [some (vR (some (6, 0))), some (vI (iI r)), some (vI (iI c)), none] [] (hk h (fs ρ 45 (sdI s r (c + 1)))) k n Q := by
  intro m
  induction m with
  | zero =>
    intro c h0 h1
    have e : c = -1 := by omega
    subst e
    refine J_iload_n (M := mX4_laySeeds) dX4_laySeeds_36 rfl rfl ?_
    refine Z_if_lt (M := mX4_laySeeds) (tgt := 79) (by first | assumption | exact pI_rg _ | (unfold rg; omega)) dX4_laySeeds_37 (by decide) (fun c_37 => ?_) (fun c_37 => ?_)
    · exact J_sub kk (And.intro rfl (And.intro rfl trivial))
    · omega
  | succ m ih =>
    intro c h0 h1
    have ec := sdI_at (s := s) (r := r) (k := c) (by omega)
    have hs := sdI_s (s := s) (r := r) (k := c) (by omega) h1
    have hg : fs ρ 45 (sdI s r (c + 1)) 45 c = s c := by rw [fs_s]; exact ec
    have e9 : c - 1 + 1 = c := by omega
    have ih2 := ih (c - 1) (by omega) (by omega)
    rw [e9] at ih2
    refine J_iload_n (M := mX4_laySeeds) dX4_laySeeds_36 rfl rfl ?_
    refine Z_if_lt (M := mX4_laySeeds) (tgt := 79) (by first | assumption | exact pI_rg _ | (unfold rg; omega)) dX4_laySeeds_37 (by decide) (fun c_37 => ?_) (fun c_37 => ?_)
    · omega
    · refine J_aload_n (M := mX4_laySeeds) dX4_laySeeds_40 rfl rfl ?_
      refine J_getf (M := mX4_laySeeds) dX4_laySeeds_41 fi_X4_9 (hk_6 (by first | exact rfl | assumption | exact Or.inl (by assumption) | exact Or.inr rfl | (show 0 ≤ _ ∧ _ < _; omega))) rfl ?_
      refine J_iload_n (M := mX4_laySeeds) dX4_laySeeds_44 rfl rfl ?_
      refine Z_iald (M := mX4_laySeeds) dX4_laySeeds_45 (hk_7 (by first | exact rfl | assumption | exact Or.inl (by assumption) | exact Or.inr rfl | (show 0 ≤ _ ∧ _ < _; omega))) (by decide) (by omega) (by omega) ?_
      refine Z_eq (M := mX4_laySeeds) (sub_at ⟨by omega, by omega⟩) ?_
      refine Z_eq (M := mX4_laySeeds) (congrArg _ (z0 _ _)) ?_
      refine Z_eq (M := mX4_laySeeds) hg ?_
      refine J_istore_n (M := mX4_laySeeds) dX4_laySeeds_46 rfl (by decide) ?_
      refine J_aload_n (M := mX4_laySeeds) dX4_laySeeds_47 rfl rfl ?_
      refine J_getf (M := mX4_laySeeds) dX4_laySeeds_48 fi_X4_9 (hk_6 (by first | exact rfl | assumption | exact Or.inl (by assumption) | exact Or.inr rfl | (show 0 ≤ _ ∧ _ < _; omega))) rfl ?_
      refine Z_iconst (M := mX4_laySeeds) dX4_laySeeds_51 ?_
      refine J_iload_n (M := mX4_laySeeds) dX4_laySeeds_52 rfl rfl ?_
      refine Z_imul (M := mX4_laySeeds) dX4_laySeeds_53 ?_
      refine J_iload_n (M := mX4_laySeeds) dX4_laySeeds_54 rfl rfl ?_
      refine Z_iast (M := mX4_laySeeds) dX4_laySeeds_55 (hk_7 (by first | exact rfl | assumption | exact Or.inl (by assumption) | exact Or.inr rfl | (show 0 ≤ _ ∧ _ < _; omega))) (by decide) (by omega) (by omega) ?_
      refine Z_h (M := mX4_laySeeds) (hkq_45 ⟨by omega, by omega⟩) ?_
      refine J_aload_n (M := mX4_laySeeds) dX4_laySeeds_56 rfl rfl ?_
      refine J_getf (M := mX4_laySeeds) dX4_laySeeds_57 fi_X4_9 (hk_6 (by first | exact rfl | assumption | exact Or.inl (by assumption) | exact Or.inr rfl | (show 0 ≤ _ ∧ _ < _; omega))) rfl ?_
      refine Z_iconst (M := mX4_laySeeds) dX4_laySeeds_60 ?_
      refine J_iload_n (M := mX4_laySeeds) dX4_laySeeds_61 rfl rfl ?_
      refine Z_imul (M := mX4_laySeeds) dX4_laySeeds_62 ?_
      refine Z_iconst (M := mX4_laySeeds) dX4_laySeeds_63 ?_
      refine Z_iadd (M := mX4_laySeeds) dX4_laySeeds_64 ?_
      refine Z_iconst (M := mX4_laySeeds) dX4_laySeeds_65 ?_
      refine J_iload_n (M := mX4_laySeeds) dX4_laySeeds_66 rfl rfl ?_
      refine Z_imul (M := mX4_laySeeds) dX4_laySeeds_67 ?_
      refine Z_iconst (M := mX4_laySeeds) dX4_laySeeds_68 ?_
      refine Z_iadd (M := mX4_laySeeds) dX4_laySeeds_69 ?_
      refine J_iload_n (M := mX4_laySeeds) dX4_laySeeds_70 rfl rfl ?_
      refine Z_isub (M := mX4_laySeeds) dX4_laySeeds_71 ?_
      refine Z_iast (M := mX4_laySeeds) dX4_laySeeds_72 (hk_7 (by first | exact rfl | assumption | exact Or.inl (by assumption) | exact Or.inr rfl | (show 0 ≤ _ ∧ _ < _; omega))) (by decide) (by omega) (by omega) ?_
      refine Z_h (M := mX4_laySeeds) (hkq_45 ⟨by omega, by omega⟩) ?_
      refine Z_iinc (M := mX4_laySeeds) dX4_laySeeds_73 rfl (by decide) ?_
      refine J_goto (M := mX4_laySeeds) (tgt := 36) dX4_laySeeds_76 (by decide) ?_
      rw [ts_fs, ts_fs, hs]
      exact J_sub ih2 (And.intro rfl (And.intro rfl (And.intro (vz (by omega)) trivial)))

set_option maxRecDepth 100000 in
set_option maxHeartbeats 4000000 in
theorem ls_r {X : GX} {h : LH} {ρ : TS} {k n : Nat} {Q : LO → LH → Prop} {e : Nat} {s : Int → Int} (he : e ≤ 4) (h43 : ρ 43 0 = ((2 ^ e : Nat) : Int)) (kk : J X mX4_laySeeds 86 [some (vR (some (6, 0))), none, none, none] [] (hk h (fs ρ 45 (sq0 s e))) k n Q) : ∀ (m d : Nat), d + m = e → J X mX4_laySeeds 16 [some (vR (some (6, 0))), some (vI (iI ((2 ^ d : Nat) : Int))), none, none] [] (hk h (fs ρ 45 (sq0 s d))) k n Q := by
  intro m
  have hpe : e = 0 ∨ e = 1 ∨ e = 2 ∨ e = 3 ∨ e = 4 := by omega
  have he16 : ((2 ^ e : Nat) : Int) ≤ 16 ∧ 1 ≤ ((2 ^ e : Nat) : Int) := by rcases hpe with rfl | rfl | rfl | rfl | rfl <;> decide
  induction m with
  | zero =>
    intro d hd
    have ed : d = e := by omega
    subst ed
    have hg : fs ρ 45 (sq0 s d) 43 0 = ((2 ^ d : Nat) : Int) := h43
    refine J_iload_n (M := mX4_laySeeds) dX4_laySeeds_16 rfl rfl ?_
    refine J_aload_n (M := mX4_laySeeds) dX4_laySeeds_17 rfl rfl ?_
    refine J_getf (M := mX4_laySeeds) dX4_laySeeds_18 fi_X4_24 (hk_6 (by first | exact rfl | assumption | exact Or.inl (by assumption) | exact Or.inr rfl | (show 0 ≤ _ ∧ _ < _; omega))) rfl ?_
    refine Z_eq (M := mX4_laySeeds) hg ?_
    refine Z_ic_ge (M := mX4_laySeeds) (tgt := 86) (by first | assumption | exact pI_rg _ | (unfold rg; omega)) (by first | assumption | exact pI_rg _ | (unfold rg; omega)) dX4_laySeeds_21 (by decide) (fun c_21 => ?_) (fun c_21 => ?_)
    · exact J_sub kk (And.intro rfl trivial)
    · omega
  | succ m ih =>
    intro d hd
    have hp := p2 (d := d)
    have hlt : ((2 ^ (d + 1) : Nat) : Int) ≤ ((2 ^ e : Nat) : Int) := by
      have h4 : 2 ^ (d + 1) ≤ 2 ^ e := Nat.pow_le_pow_right (by decide) (by omega)
      omega
    have hg : fs ρ 45 (sq0 s d) 43 0 = ((2 ^ e : Nat) : Int) := h43
    have ih2 := ih (d + 1) (by omega)
    have eS : sdI (sq0 s d) ((2 ^ d : Nat) : Int) 0 = sq0 s (d + 1) := rfl
    rw [← eS] at ih2
    have hi := ls_i (X := X) (h := h) (ρ := ρ) (k := k) (n := n) (Q := Q) (r := ((2 ^ d : Nat) : Int)) (s := sq0 s d) (by omega) (by
      refine J_iload_n (M := mX4_laySeeds) dX4_laySeeds_79 rfl rfl ?_
      refine Z_iconst (M := mX4_laySeeds) dX4_laySeeds_80 ?_
      refine Z_imul (M := mX4_laySeeds) dX4_laySeeds_81 ?_
      refine J_istore_n (M := mX4_laySeeds) dX4_laySeeds_82 rfl (by decide) ?_
      refine J_goto (M := mX4_laySeeds) (tgt := 16) dX4_laySeeds_83 (by decide) ?_
      exact J_sub ih2 (And.intro rfl (And.intro (vz (by omega)) trivial)))
    have hi2 := hi ((2 ^ d : Nat)) (((2 ^ d : Nat) : Int) - 1) (by omega) (by omega)
    rw [show ((2 ^ d : Nat) : Int) - 1 + 1 = ((2 ^ d : Nat) : Int) by omega, sdI_r] at hi2
    refine J_iload_n (M := mX4_laySeeds) dX4_laySeeds_16 rfl rfl ?_
    refine J_aload_n (M := mX4_laySeeds) dX4_laySeeds_17 rfl rfl ?_
    refine J_getf (M := mX4_laySeeds) dX4_laySeeds_18 fi_X4_24 (hk_6 (by first | exact rfl | assumption | exact Or.inl (by assumption) | exact Or.inr rfl | (show 0 ≤ _ ∧ _ < _; omega))) rfl ?_
    refine Z_eq (M := mX4_laySeeds) hg ?_
    refine Z_ic_ge (M := mX4_laySeeds) (tgt := 86) (by first | assumption | exact pI_rg _ | (unfold rg; omega)) (by first | assumption | exact pI_rg _ | (unfold rg; omega)) dX4_laySeeds_21 (by decide) (fun c_21 => ?_) (fun c_21 => ?_)
    · omega
    · refine Z_iconst (M := mX4_laySeeds) dX4_laySeeds_24 ?_
      refine J_iload_n (M := mX4_laySeeds) dX4_laySeeds_25 rfl rfl ?_
      refine Z_imul (M := mX4_laySeeds) dX4_laySeeds_26 ?_
      refine Z_bipush (M := mX4_laySeeds) dX4_laySeeds_27 rfl ?_
      refine Z_ic_gt (M := mX4_laySeeds) (tgt := 86) (by first | assumption | exact pI_rg _ | (unfold rg; omega)) (by first | assumption | exact pI_rg _ | (unfold rg; omega)) dX4_laySeeds_29 (by decide) (fun c_29 => ?_) (fun c_29 => ?_)
      · omega
      · refine J_iload_n (M := mX4_laySeeds) dX4_laySeeds_32 rfl rfl ?_
        refine Z_iconst (M := mX4_laySeeds) dX4_laySeeds_33 ?_
        refine Z_isub (M := mX4_laySeeds) dX4_laySeeds_34 ?_
        refine J_istore_n (M := mX4_laySeeds) dX4_laySeeds_35 rfl (by decide) ?_
        exact J_sub hi2 (And.intro rfl (And.intro rfl (And.intro rfl trivial)))

set_option maxRecDepth 100000 in
set_option maxHeartbeats 4000000 in
theorem kX4_laySeeds {X : GX} {h : LH} {ρ : TS} {e : Nat} (he : 1 ≤ e ∧ e ≤ 4) (h43 : ρ 43 0 = ((2 ^ e : Nat) : Int)) : CK X mX4_laySeeds [vR (some (6, 0))] h ρ (fun v r => v = none ∧ r = fs ρ 45 (sq0 (ρ 45) e)) := by
  refine CT_of (by decide +kernel) rfl (Nat.le_of_ble_eq_true rfl) ?_
  refine J_aload_n (M := mX4_laySeeds) dX4_laySeeds_0 rfl rfl ?_
  refine J_getf (M := mX4_laySeeds) dX4_laySeeds_1 fi_X4_9 (hk_6 (by first | exact rfl | assumption | exact Or.inl (by assumption) | exact Or.inr rfl | (show 0 ≤ _ ∧ _ < _; omega))) rfl ?_
  refine Z_iconst (M := mX4_laySeeds) dX4_laySeeds_4 ?_
  refine Z_iconst (M := mX4_laySeeds) dX4_laySeeds_5 ?_
  refine Z_iast (M := mX4_laySeeds) dX4_laySeeds_6 (hk_7 (by first | exact rfl | assumption | exact Or.inl (by assumption) | exact Or.inr rfl | (show 0 ≤ _ ∧ _ < _; omega))) (by decide) (by omega) (by omega) ?_
  refine Z_h (M := mX4_laySeeds) (hkq_45 ⟨by omega, by omega⟩) ?_
  refine J_aload_n (M := mX4_laySeeds) dX4_laySeeds_7 rfl rfl ?_
  refine J_getf (M := mX4_laySeeds) dX4_laySeeds_8 fi_X4_9 (hk_6 (by first | exact rfl | assumption | exact Or.inl (by assumption) | exact Or.inr rfl | (show 0 ≤ _ ∧ _ < _; omega))) rfl ?_
  refine Z_iconst (M := mX4_laySeeds) dX4_laySeeds_11 ?_
  refine Z_iconst (M := mX4_laySeeds) dX4_laySeeds_12 ?_
  refine Z_iast (M := mX4_laySeeds) dX4_laySeeds_13 (hk_7 (by first | exact rfl | assumption | exact Or.inl (by assumption) | exact Or.inr rfl | (show 0 ≤ _ ∧ _ < _; omega))) (by decide) (by omega) (by omega) ?_
  refine Z_h (M := mX4_laySeeds) (hkq_45 ⟨by omega, by omega⟩) ?_
  refine Z_iconst (M := mX4_laySeeds) dX4_laySeeds_14 ?_
  refine J_istore_n (M := mX4_laySeeds) dX4_laySeeds_15 rfl (by decide) ?_
  rw [ts_as (τ := ρ) (k := 45), ts_fs, sq_1]
  refine J_sub (M := mX4_laySeeds) (ls_r (ρ := ρ) (s := ρ 45) he.2 h43 ?_ (e - 1) 1 (by omega)) (And.intro rfl (And.intro rfl trivial))
  refine K_vret dX4_laySeeds_86 rfl ?_
  exact And.intro rfl rfl

def stw (g S : Int → Int) (z q f i : Int) : Int → Int := fun y => if z ≤ y ∧ y < z + i ∧ S (y - z) = q then f else g y
theorem stw_0 {g S : Int → Int} {z q f : Int} : stw g S z q f 0 = g := by
  funext y
  unfold stw
  rw [if_neg (by omega)]
theorem stw_y {g S : Int → Int} {z q f i : Int} (h0 : 0 ≤ i) (h : S i = q) : upZ (stw g S z q f i) (z + i) f = stw g S z q f (i + 1) := by
  funext y
  unfold upZ stw
  by_cases e : y = z + i
  · have e2 : y - z = i := by omega
    rw [if_pos e, if_pos ⟨by omega, by omega, by rw [e2]; exact h⟩]
  · rw [if_neg e]
    by_cases c : z ≤ y ∧ y < z + i ∧ S (y - z) = q
    · rw [if_pos c, if_pos ⟨c.1, by omega, c.2.2⟩]
    · rw [if_neg c, if_neg (fun d => c ⟨d.1, by omega, d.2.2⟩)]
theorem stw_n {g S : Int → Int} {z q f i : Int} (h : ¬ S i = q) : stw g S z q f i = stw g S z q f (i + 1) := by
  funext y
  unfold stw
  by_cases c : z ≤ y ∧ y < z + i ∧ S (y - z) = q
  · rw [if_pos c, if_pos ⟨c.1, by omega, c.2.2⟩]
  · rw [if_neg c, if_neg (fun d => c ⟨d.1, by
      have : ¬ y - z = i := fun w => h (by rw [← w]; exact d.2.2)
      omega, d.2.2⟩)]
set_option maxRecDepth 100000 in
set_option maxHeartbeats 4000000 in
theorem st_i {X : GX} {h : LH} {ρ : TS} {k n : Nat} {z q f : Int} (V : WK ρ) (h43 : ρ 43 0 = z) (hz : 0 ≤ z ∧ z ≤ 16) (hq : rg q) : ∀ (m : Nat) (i : Int), 0 ≤ i → i + m = z → J X mX4_seat 2 [some (vR (some (6, 0))), some (vI (iI q)), some (vI (iI f)), some (vI (iI i))] [] (hk h (fs ρ 46 (stw (ρ 46) (ρ 45) z q f i))) k n (QK h (fun v r => v = none ∧ r = fs ρ 46 (stw (ρ 46) (ρ 45) z q f z))) := by
  intro m
  induction m with
  | zero =>
    intro i h0 hi
    have ei : i = z := by omega
    subst ei
    have hg : fs ρ 46 (stw (ρ 46) (ρ 45) i q f i) 43 0 = i := h43
    refine J_iload_n (M := mX4_seat) dX4_seat_2 rfl rfl ?_
    refine J_aload_n (M := mX4_seat) dX4_seat_3 rfl rfl ?_
    refine J_getf (M := mX4_seat) dX4_seat_4 fi_X4_24 (hk_6 (by first | exact rfl | assumption | exact Or.inl (by assumption) | exact Or.inr rfl | (show 0 ≤ _ ∧ _ < _; omega))) rfl ?_
    refine Z_eq (M := mX4_seat) hg ?_
    refine Z_ic_ge (M := mX4_seat) (tgt := 44) (by first | assumption | exact pI_rg _ | (unfold rg; omega)) (by first | assumption | exact pI_rg _ | (unfold rg; omega)) dX4_seat_7 (by decide) (fun c_7 => ?_) (fun c_7 => ?_)
    · refine K_vret dX4_seat_44 rfl ?_
      exact And.intro rfl rfl
    · omega
  | succ m ih =>
    intro i h0 hi
    have hg : fs ρ 46 (stw (ρ 46) (ρ 45) z q f i) 43 0 = z := h43
    have hs : fs ρ 46 (stw (ρ 46) (ρ 45) z q f i) 45 i = ρ 45 i := rfl
    have b45 := wk45 V i
    refine J_iload_n (M := mX4_seat) dX4_seat_2 rfl rfl ?_
    refine J_aload_n (M := mX4_seat) dX4_seat_3 rfl rfl ?_
    refine J_getf (M := mX4_seat) dX4_seat_4 fi_X4_24 (hk_6 (by first | exact rfl | assumption | exact Or.inl (by assumption) | exact Or.inr rfl | (show 0 ≤ _ ∧ _ < _; omega))) rfl ?_
    refine Z_eq (M := mX4_seat) hg ?_
    refine Z_ic_ge (M := mX4_seat) (tgt := 44) (by first | assumption | exact pI_rg _ | (unfold rg; omega)) (by first | assumption | exact pI_rg _ | (unfold rg; omega)) dX4_seat_7 (by decide) (fun c_7 => ?_) (fun c_7 => ?_)
    · omega
    · refine J_iload_n (M := mX4_seat) dX4_seat_10 rfl rfl ?_
      refine Z_bipush (M := mX4_seat) dX4_seat_11 rfl ?_
      refine Z_ic_ge (M := mX4_seat) (tgt := 44) (by first | assumption | exact pI_rg _ | (unfold rg; omega)) (by first | assumption | exact pI_rg _ | (unfold rg; omega)) dX4_seat_13 (by decide) (fun c_13 => ?_) (fun c_13 => ?_)
      · omega
      · refine J_aload_n (M := mX4_seat) dX4_seat_16 rfl rfl ?_
        refine J_getf (M := mX4_seat) dX4_seat_17 fi_X4_9 (hk_6 (by first | exact rfl | assumption | exact Or.inl (by assumption) | exact Or.inr rfl | (show 0 ≤ _ ∧ _ < _; omega))) rfl ?_
        refine J_iload_n (M := mX4_seat) dX4_seat_20 rfl rfl ?_
        refine Z_iald (M := mX4_seat) dX4_seat_21 (hk_7 (by first | exact rfl | assumption | exact Or.inl (by assumption) | exact Or.inr rfl | (show 0 ≤ _ ∧ _ < _; omega))) (by decide) (by omega) (by omega) ?_
        refine Z_eq (M := mX4_seat) (sub_at ⟨by omega, by omega⟩) ?_
        refine Z_eq (M := mX4_seat) (congrArg _ (z0 _ _)) ?_
        refine Z_eq (M := mX4_seat) hs ?_
        refine J_iload_n (M := mX4_seat) dX4_seat_22 rfl rfl ?_
        refine Z_ic_ne (M := mX4_seat) (tgt := 38) (by first | assumption | exact pI_rg _ | (unfold rg; omega)) (by first | assumption | exact pI_rg _ | (unfold rg; omega)) dX4_seat_23 (by decide) (fun c_23 => ?_) (fun c_23 => ?_)
        · refine Z_iinc (M := mX4_seat) dX4_seat_38 rfl (by decide) ?_
          refine J_goto (M := mX4_seat) (tgt := 2) dX4_seat_41 (by decide) ?_
          first
            | (rw [ts_fs, stw_y h0 c_23]
               exact J_sub (ih (i + 1) (by omega) (by omega)) (And.intro rfl (And.intro rfl (And.intro rfl (And.intro rfl trivial)))))
            | (rw [stw_n c_23]
               exact J_sub (ih (i + 1) (by omega) (by omega)) (And.intro rfl (And.intro rfl (And.intro rfl (And.intro rfl trivial)))))
        · refine J_aload_n (M := mX4_seat) dX4_seat_26 rfl rfl ?_
          refine J_getf (M := mX4_seat) dX4_seat_27 fi_X4_15 (hk_6 (by first | exact rfl | assumption | exact Or.inl (by assumption) | exact Or.inr rfl | (show 0 ≤ _ ∧ _ < _; omega))) rfl ?_
          refine J_aload_n (M := mX4_seat) dX4_seat_30 rfl rfl ?_
          refine J_getf (M := mX4_seat) dX4_seat_31 fi_X4_24 (hk_6 (by first | exact rfl | assumption | exact Or.inl (by assumption) | exact Or.inr rfl | (show 0 ≤ _ ∧ _ < _; omega))) rfl ?_
          refine Z_eq (M := mX4_seat) hg ?_
          refine J_iload_n (M := mX4_seat) dX4_seat_34 rfl rfl ?_
          refine Z_iadd (M := mX4_seat) dX4_seat_35 ?_
          refine J_iload_n (M := mX4_seat) dX4_seat_36 rfl rfl ?_
          refine Z_iast (M := mX4_seat) dX4_seat_37 (hk_8 (by first | exact rfl | assumption | exact Or.inl (by assumption) | exact Or.inr rfl | (show 0 ≤ _ ∧ _ < _; omega))) (by decide) (by omega) (by omega) ?_
          refine Z_h (M := mX4_seat) (hkq_46 ⟨by omega, by omega⟩) ?_
          refine Z_iinc (M := mX4_seat) dX4_seat_38 rfl (by decide) ?_
          refine J_goto (M := mX4_seat) (tgt := 2) dX4_seat_41 (by decide) ?_
          first
            | (rw [ts_fs, stw_y h0 c_23]
               exact J_sub (ih (i + 1) (by omega) (by omega)) (And.intro rfl (And.intro rfl (And.intro rfl (And.intro rfl trivial)))))
            | (rw [stw_n c_23]
               exact J_sub (ih (i + 1) (by omega) (by omega)) (And.intro rfl (And.intro rfl (And.intro rfl (And.intro rfl trivial)))))

set_option maxRecDepth 100000 in
set_option maxHeartbeats 4000000 in
theorem kX4_seat {X : GX} {h : LH} {ρ : TS} {z q f : Int} (V : WK ρ) (h43 : ρ 43 0 = z) (hz : 0 ≤ z ∧ z ≤ 16) (hq : rg q) : CK X mX4_seat [vR (some (6, 0)), vI (iI q), vI (iI f)] h ρ (fun v r => v = none ∧ r = fs ρ 46 (stw (ρ 46) (ρ 45) z q f z)) := by
  refine CT_of (by decide +kernel) rfl (Nat.le_of_ble_eq_true rfl) ?_
  refine Z_iconst (M := mX4_seat) dX4_seat_0 ?_
  refine J_istore_n (M := mX4_seat) dX4_seat_1 rfl (by decide) ?_
  have hh := st_i (X := X) (h := h) (k := (mR mX4_seat).cells) (n := (mR mX4_seat).slots) (f := f) V h43 hz hq z.toNat 0 (by omega) (by omega)
  rw [stw_0, fs_id] at hh
  exact hh

/-- the nodes' bouts made -/
def lbN (ρ : TS) : Nat → TS
  | 0 => ρ
  | n + 1 => ts (nb2 (lbN ρ n) (66 + ((n : Int) + 1)) 0 (-1) (-1)) 7 ((n : Int) + 1) (66 + ((n : Int) + 1))
theorem lbN_k {ρ : TS} {k : Nat} (h : ¬ (17 ≤ k ∧ k ≤ 26) ∧ ¬ k = 48 ∧ ¬ k = 7) : ∀ n, lbN ρ n k = ρ k
  | 0 => rfl
  | n + 1 => by
    unfold lbN
    rw [ts_n (by omega), nb2_k (by omega), lbN_k h n]
theorem lbN_48 {ρ : TS} {b : Int} : ∀ n : Nat, (b < 67 ∨ 66 + (n : Int) < b) → lbN ρ n 48 b = ρ 48 b
  | 0, _ => rfl
  | n + 1, h => by
    unfold lbN nb2
    rw [ts_n (by decide), ts_n (by decide), ts_n (by decide), ts_n (by decide), nbt_48, upZ_ne (by omega)]
    exact lbN_48 n (by omega)
set_option maxRecDepth 100000 in
set_option maxHeartbeats 4000000 in
theorem ly_b {X : GX} {h : LH} {ρ : TS} {k n : Nat} {Q : LO → LH → Prop} {z F : Int} (h43 : ρ 43 0 = z) (hz : 1 ≤ z ∧ z ≤ 16) (hf : ∀ b, 66 < b → b < 66 + z → ¬ ρ 48 b = 1) (kk : J X mX4_lay 84 [some (vR (some (6, 0))), some (vI (iI F)), none, none] [] (hk h (lbN ρ (z - 1).toNat)) k n Q) : ∀ (m i : Nat), (i : Int) + 1 + m = z → J X mX4_lay 48 [some (vR (some (6, 0))), some (vI (iI F)), none, some (vI (iI (i + 1)))] [] (hk h (lbN ρ i)) (k + 3 * m) (n + 23 * m) Q := by
  intro m
  induction m with
  | zero =>
    intro i hi
    have ei : (z - 1).toNat = i := by omega
    rw [ei] at kk
    have hg : lbN ρ i 43 0 = z := by rw [lbN_k (by decide)]; exact h43
    refine J_iload_n (M := mX4_lay) dX4_lay_48 rfl rfl ?_
    refine J_aload_n (M := mX4_lay) dX4_lay_49 rfl rfl ?_
    refine J_getf (M := mX4_lay) dX4_lay_50 fi_X4_24 (hk_6 (by first | exact rfl | assumption | exact Or.inl (by assumption) | exact Or.inr rfl | (show 0 ≤ _ ∧ _ < _; omega))) rfl ?_
    refine Z_eq (M := mX4_lay) hg ?_
    refine Z_ic_ge (M := mX4_lay) (tgt := 84) (by first | assumption | exact pI_rg _ | (unfold rg; omega)) (by first | assumption | exact pI_rg _ | (unfold rg; omega)) dX4_lay_53 (by decide) (fun c_53 => ?_) (fun c_53 => ?_)
    · exact J_sub kk (And.intro rfl (And.intro rfl trivial))
    · omega
  | succ m ih =>
    intro i hi
    have hg : lbN ρ i 43 0 = z := by rw [lbN_k (by decide)]; exact h43
    have f13 : ¬ CE (lbN ρ i) 13 (66 + ((i : Int) + 1)) := by
      show ¬ lbN ρ i 48 (66 + ((i : Int) + 1)) = 1
      rw [lbN_48 i (by omega)]
      exact hf _ (by omega) (by omega)
    have h82 : ¬ 66 + ((i : Int) + 1) = 82 := by omega
    have e13 : CE (nb2 (lbN ρ i) (66 + ((i : Int) + 1)) 0 (-1) (-1)) 13 (66 + ((i : Int) + 1)) := by
      show nb2 (lbN ρ i) (66 + ((i : Int) + 1)) 0 (-1) (-1) 48 (66 + ((i : Int) + 1)) = 1
      unfold nb2
      rw [ts_n (by decide), ts_n (by decide), ts_n (by decide), nbt_48]
      exact upZ_at
    have ih2 := ih (i + 1) (by omega)
    refine J_le (k' := (k + 3 * m + 2) + 1) (n' := (n + 23 * m + 15) + 8) (by omega) (by omega) ?_
    refine J_iload_n (M := mX4_lay) dX4_lay_48 rfl rfl ?_
    refine J_aload_n (M := mX4_lay) dX4_lay_49 rfl rfl ?_
    refine J_getf (M := mX4_lay) dX4_lay_50 fi_X4_24 (hk_6 (by first | exact rfl | assumption | exact Or.inl (by assumption) | exact Or.inr rfl | (show 0 ≤ _ ∧ _ < _; omega))) rfl ?_
    refine Z_eq (M := mX4_lay) hg ?_
    refine Z_ic_ge (M := mX4_lay) (tgt := 84) (by first | assumption | exact pI_rg _ | (unfold rg; omega)) (by first | assumption | exact pI_rg _ | (unfold rg; omega)) dX4_lay_53 (by decide) (fun c_53 => ?_) (fun c_53 => ?_)
    · omega
    · refine J_iload_n (M := mX4_lay) dX4_lay_56 rfl rfl ?_
      refine Z_bipush (M := mX4_lay) dX4_lay_57 rfl ?_
      refine Z_ic_ge (M := mX4_lay) (tgt := 84) (by first | assumption | exact pI_rg _ | (unfold rg; omega)) (by first | assumption | exact pI_rg _ | (unfold rg; omega)) dX4_lay_59 (by decide) (fun c_59 => ?_) (fun c_59 => ?_)
      · omega
      · refine J_aload_n (M := mX4_lay) dX4_lay_62 rfl rfl ?_
        refine J_getf (M := mX4_lay) dX4_lay_63 fi_X4_20 (hk_6 (by first | exact rfl | assumption | exact Or.inl (by assumption) | exact Or.inr rfl | (show 0 ≤ _ ∧ _ < _; omega))) rfl ?_
        refine J_iload_n (M := mX4_lay) dX4_lay_66 rfl rfl ?_
        refine J_new (M := mX4_lay) dX4_lay_67 ni_X4_18 (hk_fr (by decide) f13) (tg_ne (by decide)) ?_
        refine J_dup (M := mX4_lay) dX4_lay_70 rfl ?_
        refine Z_iconst (M := mX4_lay) dX4_lay_71 ?_
        refine Z_iconst (M := mX4_lay) dX4_lay_72 ?_
        refine Z_iconst (M := mX4_lay) dX4_lay_73 ?_
        refine J_callI (M := mX4_lay) (as := [_, _, _]) dX4_lay_74 ca_X4_32 rfl ⟨by decide, by decide⟩ rfl (Nat.le_of_ble_eq_true rfl) (k' := k + 3 * m) (n' := n + 23 * m) (by show _ + 2 ≤ _; omega) (by show _ + 15 ≤ _; omega) (kX0_init (F := 0) h82 f13 (Or.inl rfl)) (fun v_74 h_74 hv_74 => ?_)
        obtain ⟨r_74, rfl, rfl, e_74⟩ := hv_74
        rw [e_74, show ts (ts (ts (nbt (lbN ρ i) (66 + ((i : Int) + 1)) 0 (-1) (-1)) 24 (66 + ((i : Int) + 1)) (if (0 : Int) = 0 then 5 else 3)) 25 (66 + ((i : Int) + 1)) 0) 26 (66 + ((i : Int) + 1)) 0 = nb2 (lbN ρ i) (66 + ((i : Int) + 1)) 0 (-1) (-1) from rfl]
        refine J_aast (M := mX4_lay) dX4_lay_77 (by decide) rfl rfl (hk_9 rfl) (hk_13 e13) (ix_iI (by omega) (by omega) (by decide)) ?_
        refine Z_h (M := mX4_lay) (hkqa_7 (by omega) ⟨by omega, by omega⟩) ?_
        refine Z_iinc (M := mX4_lay) dX4_lay_78 rfl (by decide) ?_
        refine J_goto (M := mX4_lay) (tgt := 48) dX4_lay_81 (by decide) ?_
        exact J_sub ih2 (And.intro rfl (And.intro rfl (And.intro (vz (by push_cast; omega)) trivial)))
