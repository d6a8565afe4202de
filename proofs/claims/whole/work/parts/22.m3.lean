/-! THE REFERENCE: tells, winners of nodes, what follows -/
set_option maxRecDepth 100000 in
set_option maxHeartbeats 4000000 in
theorem tells_l {X : GX} {h : LH} {τ : TS} {k n : Nat} {Q : LO → LH → Prop} (W : WF τ) {s : Int} (hs0 : 0 ≤ s) (hs1 : s < 82) : ∀ (m i : Nat), (i : Int) + m = τ 10 s → J X mX8_tells 142 [some (vR (some (20, 0))), some (vI (iI s)), some (vI (iI (gl3 s))), none, none] [] (hm h (t3 τ (tlF (gl3 s) (tch τ s) (τ 10 s).toNat))) k n Q → J X mX8_tells 29 [some (vR (some (20, 0))), some (vI (iI s)), some (vI (iI (gl3 s))), some (vI (iI i)), none] [] (hm h (t3 τ (tlF (gl3 s) (tch τ s) i))) k n Q := by
  have b1 := wf10 W s
  have b2 := fun i => tch_rg (τ := τ) s i
  have b3 := tlF_rg (g := gl3 s) b2
  have hg : gl3 s = 3 ∨ gl3 s = 5 := by
    unfold gl3; split
    · exact Or.inl rfl
    · exact Or.inr rfl
  intro m
  induction m with
  | zero =>
    intro i hi kk
    have ei : i = (τ 10 s).toNat := by omega
    subst ei
    have b4 := b3 (τ 10 s).toNat
    refine J_iload_n (M := mX8_tells) dX8_tells_29 rfl rfl ?_
    refine J_aload_n (M := mX8_tells) dX8_tells_30 rfl rfl ?_
    refine M_get (M := mX8_tells) (v := vR (some (50, 0))) dX8_tells_31 fi_X8_26 rfl ?_
    refine J_iload_n (M := mX8_tells) dX8_tells_34 rfl rfl ?_
    refine M_iald (M := mX8_tells) (kf := 10) (N := 82) dX8_tells_35 rfl (by decide) (by omega) (by omega) ?_
    have q9 : t3 τ (tlF (gl3 s) (tch τ s) (τ 10 s).toNat) 10 s = τ 10 s := rfl
    rw [q9]
    refine Z_ic_ge (M := mX8_tells) (tgt := 142) (by first | assumption | exact pI_rg _ | (unfold rg; omega)) (by first | assumption | exact pI_rg _ | (unfold rg; omega)) dX8_tells_36 (by decide) (fun c_36 => ?_) (fun c_36 => ?_)
    · exact J_sub kk (And.intro rfl (And.intro rfl (And.intro rfl trivial)))
    · (try (have q : t3 τ (tlF (gl3 s) (tch τ s) (τ 10 s).toNat) 10 s = τ 10 s := rfl))
      omega
  | succ m ih =>
    intro i hi kk
    have b4 := b3 i
    have b5 := b2 i
    generalize hi9 : tlF (gl3 s) (tch τ s) i = z0 at b4 ⊢
    obtain ⟨a0, b0, w0⟩ := z0
    simp only [] at b4
    have hz3 : 0 ≤ (a0, b0, w0).1 ∧ (a0, b0, w0).1 ≤ 12 ∧ 0 ≤ (a0, b0, w0).2.1 ∧ (a0, b0, w0).2.1 ≤ 12 ∧ -1 ≤ (a0, b0, w0).2.2 ∧ (a0, b0, w0).2.2 ≤ 1 := by
      simp only []
      omega
    refine J_iload_n (M := mX8_tells) dX8_tells_29 rfl rfl ?_
    refine J_aload_n (M := mX8_tells) dX8_tells_30 rfl rfl ?_
    refine M_get (M := mX8_tells) (v := vR (some (50, 0))) dX8_tells_31 fi_X8_26 rfl ?_
    refine J_iload_n (M := mX8_tells) dX8_tells_34 rfl rfl ?_
    refine M_iald (M := mX8_tells) (kf := 10) (N := 82) dX8_tells_35 rfl (by decide) (by omega) (by omega) ?_
    have q9 : t3 τ (a0, b0, w0) 10 s = τ 10 s := rfl
    rw [q9]
    refine Z_ic_ge (M := mX8_tells) (tgt := 142) (by first | assumption | exact pI_rg _ | (unfold rg; omega)) (by first | assumption | exact pI_rg _ | (unfold rg; omega)) dX8_tells_36 (by decide) (fun c_36 => ?_) (fun c_36 => ?_)
    · omega
    · refine J_aload_n (M := mX8_tells) dX8_tells_39 rfl rfl ?_
      refine M_get (M := mX8_tells) dX8_tells_40 fi_X8_135 rfl ?_
      rw [t3_at27]
      simp only []
      refine Z_iconst (M := mX8_tells) dX8_tells_43 ?_
      refine Z_ic_ne (M := mX8_tells) (tgt := 142) (by first | assumption | exact pI_rg _ | (unfold rg; omega)) (by first | assumption | exact pI_rg _ | (unfold rg; omega)) dX8_tells_44 (by decide) (fun c_44 => ?_) (fun c_44 => ?_)
      · have e9 : i + (m + 1) = (τ 10 s).toNat := by omega
        have e8 : tlF (gl3 s) (tch τ s) (τ 10 s).toNat = (a0, b0, w0) := by
          rw [← e9, tlF_stay (by rw [hi9]; exact c_44), hi9]
        rw [e8] at kk
        exact J_sub kk (And.intro rfl (And.intro rfl (And.intro rfl trivial)))
      · subst c_44
        have hi0 := hi9
        have hj133 : ∀ (a b z : Int), z = twon (gl3 s) a b → (a, b) = tadd (gl3 s) (tch τ s i) (a0, b0, -1) → J X mX8_tells 133 [some (vR (some (20, 0))), some (vI (iI s)), some (vI (iI (gl3 s))), some (vI (iI i)), some (vI (iI (tch τ s i)))] [vI (iI z), vR (some (20, 0))] (hm h (t3 τ (a, b, -1))) k n Q := by
          intro a b z hz hab
          have hzr : -1 ≤ z ∧ z ≤ 1 := by
            rw [hz]; unfold twon; split
            · omega
            · split <;> omega
          refine M_puti (M := mX8_tells) dX8_tells_133 fi_X8_135 rfl (by decide) rfl ?_
          rw [t3_27]
          refine Z_iinc (M := mX8_tells) dX8_tells_136 rfl (by decide) ?_
          refine J_goto (M := mX8_tells) (tgt := 29) dX8_tells_139 (by decide) ?_
          refine J_sub (M := mX8_tells) (Z_h ?_ (ih (i + 1) (by omega) kk)) (And.intro rfl (And.intro rfl (And.intro rfl (And.intro (vz (by push_cast; omega)) trivial))))
          have e : tlF (gl3 s) (tch τ s) (i + 1) = (a, b, z) := by
            show (if _ then _ else _) = _
            rw [hi0, if_pos rfl, ← hab, hz]
          rw [e]
        have hj107 : ∀ (a b : Int), 0 ≤ a → a ≤ 12 → 0 ≤ b → b ≤ 12 → (a, b) = tadd (gl3 s) (tch τ s i) (a0, b0, -1) → J X mX8_tells 107 [some (vR (some (20, 0))), some (vI (iI s)), some (vI (iI (gl3 s))), some (vI (iI i)), some (vI (iI (tch τ s i)))] [] (hm h (t3 τ (a, b, -1))) k n Q := by
          intro a b ha0 ha1 hb0 hb1 hab
          refine J_aload_n (M := mX8_tells) dX8_tells_107 rfl rfl ?_
          refine J_aload_n (M := mX8_tells) dX8_tells_108 rfl rfl ?_
          refine M_get (M := mX8_tells) dX8_tells_109 fi_X8_129 rfl ?_
          rw [t3_at25]
          simp only []
          refine J_iload_n (M := mX8_tells) dX8_tells_112 rfl rfl ?_
          refine Z_ic_ne (M := mX8_tells) (tgt := 120) (by first | assumption | exact pI_rg _ | (unfold rg; omega)) (by first | assumption | exact pI_rg _ | (unfold rg; omega)) dX8_tells_113 (by decide) (fun c_113 => ?_) (fun c_113 => ?_)
          · refine J_aload_n (M := mX8_tells) dX8_tells_120 rfl rfl ?_
            refine M_get (M := mX8_tells) dX8_tells_121 fi_X8_132 rfl ?_
            rw [t3_at26]
            simp only []
            refine J_iload_n (M := mX8_tells) dX8_tells_124 rfl rfl ?_
            refine Z_ic_ne (M := mX8_tells) (tgt := 132) (by first | assumption | exact pI_rg _ | (unfold rg; omega)) (by first | assumption | exact pI_rg _ | (unfold rg; omega)) dX8_tells_125 (by decide) (fun c_125 => ?_) (fun c_125 => ?_)
            · refine Z_iconst (M := mX8_tells) dX8_tells_132 ?_
              first
                | exact hj133 a b _ (by unfold twon; rw [if_pos c_113]) hab
                | exact hj133 a b _ (by unfold twon; rw [if_neg c_113, if_pos c_125]) hab
                | exact hj133 a b _ (by unfold twon; rw [if_neg c_113, if_neg c_125]) hab
            · refine Z_iconst (M := mX8_tells) dX8_tells_128 ?_
              refine J_goto (M := mX8_tells) (tgt := 133) dX8_tells_129 (by decide) ?_
              first
                | exact hj133 a b _ (by unfold twon; rw [if_pos c_113]) hab
                | exact hj133 a b _ (by unfold twon; rw [if_neg c_113, if_pos c_125]) hab
                | exact hj133 a b _ (by unfold twon; rw [if_neg c_113, if_neg c_125]) hab
          · refine Z_iconst (M := mX8_tells) dX8_tells_116 ?_
            refine J_goto (M := mX8_tells) (tgt := 133) dX8_tells_117 (by decide) ?_
            first
              | exact hj133 a b _ (by unfold twon; rw [if_pos c_113]) hab
              | exact hj133 a b _ (by unfold twon; rw [if_neg c_113, if_pos c_125]) hab
              | exact hj133 a b _ (by unfold twon; rw [if_neg c_113, if_neg c_125]) hab
        have hj81 : (tch τ s i < 3 ∨ a0 + 1 < gl3 s ∨ b0 + 1 < gl3 s) → J X mX8_tells 81 [some (vR (some (20, 0))), some (vI (iI s)), some (vI (iI (gl3 s))), some (vI (iI i)), some (vI (iI (tch τ s i)))] [] (hm h (t3 τ (a0, b0, -1))) k n Q := by
          intro hok
          have hm1 := mand1 (a := tch τ s i)
          refine J_aload_n (M := mX8_tells) dX8_tells_81 rfl rfl ?_
          refine J_dup (M := mX8_tells) dX8_tells_82 rfl ?_
          refine M_get (M := mX8_tells) dX8_tells_83 fi_X8_129 rfl ?_
          rw [t3_at25]
          simp only []
          refine J_iload (M := mX8_tells) dX8_tells_86 rfl ?_
          refine Z_iconst (M := mX8_tells) dX8_tells_88 ?_
          refine J_iand (M := mX8_tells) dX8_tells_89 ?_
          refine J_eq (M := mX8_tells) (iI_and (by omega) (by omega)) ?_
          refine Z_iadd (M := mX8_tells) dX8_tells_90 ?_
          refine M_puti (M := mX8_tells) dX8_tells_91 fi_X8_129 rfl (by decide) rfl ?_
          rw [t3_25]
          refine J_aload_n (M := mX8_tells) dX8_tells_94 rfl rfl ?_
          refine J_dup (M := mX8_tells) dX8_tells_95 rfl ?_
          refine M_get (M := mX8_tells) dX8_tells_96 fi_X8_132 rfl ?_
          rw [t3_at26]
          simp only []
          refine J_iload (M := mX8_tells) dX8_tells_99 rfl ?_
          refine Z_iconst (M := mX8_tells) dX8_tells_101 ?_
          refine J_ishr (M := mX8_tells) dX8_tells_102 ?_
          refine J_eq (M := mX8_tells) (iI_shr1 (by omega)) ?_
          refine Z_iadd (M := mX8_tells) dX8_tells_103 ?_
          refine M_puti (M := mX8_tells) dX8_tells_104 fi_X8_132 rfl (by decide) rfl ?_
          rw [t3_26]
          exact hj107 _ _ (by omega) (by omega) (by omega) (by omega) (by unfold tadd; rw [if_pos hok])
        refine J_aload_n (M := mX8_tells) dX8_tells_47 rfl rfl ?_
        refine J_iload_n (M := mX8_tells) dX8_tells_48 rfl rfl ?_
        refine J_iload_n (M := mX8_tells) dX8_tells_49 rfl rfl ?_
        refine M_call (M := mX8_tells) (as := [_, _]) dX8_tells_50 ca_X8_138 ⟨by decide, by decide⟩ rfl (Nat.le_of_ble_eq_true rfl) rfl rfl (c_touched (WF_t3 W hz3) (by omega) (by omega) (by omega) (by omega)) (fun v_50 t_50 hv_50 => ?_)
        obtain ⟨rfl, e_50⟩ := hv_50
        rw [e_50]
        rw [tch_t3]
        refine J_istore (M := mX8_tells) dX8_tells_53 (by decide) ?_
        refine J_iload (M := mX8_tells) dX8_tells_55 rfl ?_
        refine Z_iconst (M := mX8_tells) dX8_tells_57 ?_
        refine Z_ic_lt (M := mX8_tells) (tgt := 81) (by first | assumption | exact pI_rg _ | (unfold rg; omega)) (by first | assumption | exact pI_rg _ | (unfold rg; omega)) dX8_tells_58 (by decide) (fun c_58 => ?_) (fun c_58 => ?_)
        · exact hj81 (by omega)
        · refine J_aload_n (M := mX8_tells) dX8_tells_61 rfl rfl ?_
          refine M_get (M := mX8_tells) dX8_tells_62 fi_X8_129 rfl ?_
          rw [t3_at25]
          simp only []
          refine Z_iconst (M := mX8_tells) dX8_tells_65 ?_
          refine Z_iadd (M := mX8_tells) dX8_tells_66 ?_
          refine J_iload_n (M := mX8_tells) dX8_tells_67 rfl rfl ?_
          refine Z_ic_lt (M := mX8_tells) (tgt := 81) (by first | assumption | exact pI_rg _ | (unfold rg; omega)) (by first | assumption | exact pI_rg _ | (unfold rg; omega)) dX8_tells_68 (by decide) (fun c_68 => ?_) (fun c_68 => ?_)
          · exact hj81 (by omega)
          · refine J_aload_n (M := mX8_tells) dX8_tells_71 rfl rfl ?_
            refine M_get (M := mX8_tells) dX8_tells_72 fi_X8_132 rfl ?_
            rw [t3_at26]
            simp only []
            refine Z_iconst (M := mX8_tells) dX8_tells_75 ?_
            refine Z_iadd (M := mX8_tells) dX8_tells_76 ?_
            refine J_iload_n (M := mX8_tells) dX8_tells_77 rfl rfl ?_
            refine Z_ic_ge (M := mX8_tells) (tgt := 107) (by first | assumption | exact pI_rg _ | (unfold rg; omega)) (by first | assumption | exact pI_rg _ | (unfold rg; omega)) dX8_tells_78 (by decide) (fun c_78 => ?_) (fun c_78 => ?_)
            · exact hj107 a0 b0 (by omega) (by omega) (by omega) (by omega) (by unfold tadd; rw [if_neg (show ¬ (tch τ s i < 3 ∨ a0 + 1 < gl3 s ∨ b0 + 1 < gl3 s) by omega)])
            · exact hj81 (by omega)
        

set_option maxRecDepth 100000 in
set_option maxHeartbeats 4000000 in
theorem c_tells {X : GX} {h : LH} {τ : TS} (W : WF τ) {s : Int} (hs0 : 0 ≤ s) (hs1 : s < 82) : CM X mX8_tells [vI (iI s)] h τ (fun v t => v = none ∧ t = t3 τ (te τ s)) := by
  have hj11 : J X mX8_tells 11 [some (vR (some (20, 0))), some (vI (iI s)), none, none, none] [vI (iI (gl3 s))] (hm h τ) 0 0 (QM h (fun v t => v = none ∧ t = t3 τ (te τ s))) := by
    refine J_istore_n (M := mX8_tells) dX8_tells_11 rfl (by decide) ?_
    refine J_aload_n (M := mX8_tells) dX8_tells_12 rfl rfl ?_
    refine Z_iconst (M := mX8_tells) dX8_tells_13 ?_
    refine M_puti (M := mX8_tells) dX8_tells_14 fi_X8_129 rfl (by decide) rfl ?_
    refine J_aload_n (M := mX8_tells) dX8_tells_17 rfl rfl ?_
    refine Z_iconst (M := mX8_tells) dX8_tells_18 ?_
    refine M_puti (M := mX8_tells) dX8_tells_19 fi_X8_132 rfl (by decide) rfl ?_
    refine J_aload_n (M := mX8_tells) dX8_tells_22 rfl rfl ?_
    refine Z_iconst (M := mX8_tells) dX8_tells_23 ?_
    refine M_puti (M := mX8_tells) dX8_tells_24 fi_X8_135 rfl (by decide) rfl ?_
    refine Z_iconst (M := mX8_tells) dX8_tells_27 ?_
    refine J_istore_n (M := mX8_tells) dX8_tells_28 rfl (by decide) ?_
    refine J_sub (M := mX8_tells) (tells_l W hs0 hs1 (τ 10 s).toNat 0 (by have := wf10 W s; omega) ?_) (And.intro rfl (And.intro rfl (And.intro rfl (And.intro rfl trivial))))
    have e1 := tlF_rg (g := gl3 s) (fun i => tch_rg (τ := τ) s i) (τ 10 s).toNat
    have b1 := wf10 W s
    have hte : te τ s = te τ s := rfl
    conv at hte => rhs; unfold te
    simp only [] at hte
    generalize tlF (gl3 s) (tch τ s) (τ 10 s).toNat = z0 at e1 hte ⊢
    obtain ⟨a, b, w⟩ := z0
    simp only [] at e1 hte
    have q9 : t3 τ (a, b, w) 10 s = τ 10 s := rfl
    have hj185 : ∀ z : Int, z = (if w = -1 ∧ τ 10 s = 12 then (if a < b then 1 else 0) else w) → J X mX8_tells 185 [some (vR (some (20, 0))), some (vI (iI s)), some (vI (iI (gl3 s))), none, none] [vI (iI z), vR (some (20, 0))] (hm h (t3 τ (a, b, w))) 0 0 (QM h (fun v t => v = none ∧ t = t3 τ (te τ s))) := by
      intro z hz
      refine M_puti (M := mX8_tells) dX8_tells_185 fi_X8_135 rfl (by decide) rfl ?_
      rw [t3_27]
      refine M_vret (M := mX8_tells) dX8_tells_188 rfl ?_
      exact And.intro rfl (by rw [hte, ← hz])
    refine J_aload_n (M := mX8_tells) dX8_tells_142 rfl rfl ?_
    refine J_aload_n (M := mX8_tells) dX8_tells_143 rfl rfl ?_
    refine M_get (M := mX8_tells) dX8_tells_144 fi_X8_135 rfl ?_
    rw [t3_at27]
    simp only []
    refine Z_iconst (M := mX8_tells) dX8_tells_147 ?_
    refine Z_ic_ne (M := mX8_tells) (tgt := 181) (by first | assumption | exact pI_rg _ | (unfold rg; omega)) (by first | assumption | exact pI_rg _ | (unfold rg; omega)) dX8_tells_148 (by decide) (fun c_148 => ?_) (fun c_148 => ?_)
    · refine J_aload_n (M := mX8_tells) dX8_tells_181 rfl rfl ?_
      refine M_get (M := mX8_tells) dX8_tells_182 fi_X8_135 rfl ?_
      first
        | exact hj185 _ (by rw [if_pos (And.intro c_148 c_159), if_pos c_170])
        | exact hj185 _ (by rw [if_pos (And.intro c_148 c_159), if_neg (by omega)])
        | (rw [t3_at27]; exact hj185 _ (by rw [if_neg (fun q => absurd q.2 c_159)]))
        | (rw [t3_at27]; exact hj185 _ (by rw [if_neg (fun q => absurd q.1 c_148)]))
    · refine J_aload_n (M := mX8_tells) dX8_tells_151 rfl rfl ?_
      refine M_get (M := mX8_tells) (v := vR (some (50, 0))) dX8_tells_152 fi_X8_26 rfl ?_
      refine J_iload_n (M := mX8_tells) dX8_tells_155 rfl rfl ?_
      refine M_iald (M := mX8_tells) (kf := 10) (N := 82) dX8_tells_156 rfl (by decide) (by omega) (by omega) ?_
      rw [q9]
      refine Z_bipush (M := mX8_tells) dX8_tells_157 rfl ?_
      refine Z_ic_ne (M := mX8_tells) (tgt := 181) (by first | assumption | exact pI_rg _ | (unfold rg; omega)) (by first | assumption | exact pI_rg _ | (unfold rg; omega)) dX8_tells_159 (by decide) (fun c_159 => ?_) (fun c_159 => ?_)
      · refine J_aload_n (M := mX8_tells) dX8_tells_181 rfl rfl ?_
        refine M_get (M := mX8_tells) dX8_tells_182 fi_X8_135 rfl ?_
        first
          | exact hj185 _ (by rw [if_pos (And.intro c_148 c_159), if_pos c_170])
          | exact hj185 _ (by rw [if_pos (And.intro c_148 c_159), if_neg (by omega)])
          | (rw [t3_at27]; exact hj185 _ (by rw [if_neg (fun q => absurd q.2 c_159)]))
          | (rw [t3_at27]; exact hj185 _ (by rw [if_neg (fun q => absurd q.1 c_148)]))
      · refine J_aload_n (M := mX8_tells) dX8_tells_162 rfl rfl ?_
        refine M_get (M := mX8_tells) dX8_tells_163 fi_X8_132 rfl ?_
        rw [t3_at26]
        simp only []
        refine J_aload_n (M := mX8_tells) dX8_tells_166 rfl rfl ?_
        refine M_get (M := mX8_tells) dX8_tells_167 fi_X8_129 rfl ?_
        rw [t3_at25]
        simp only []
        refine Z_ic_le (M := mX8_tells) (tgt := 177) (by first | assumption | exact pI_rg _ | (unfold rg; omega)) (by first | assumption | exact pI_rg _ | (unfold rg; omega)) dX8_tells_170 (by decide) (fun c_170 => ?_) (fun c_170 => ?_)
        · refine Z_iconst (M := mX8_tells) dX8_tells_177 ?_
          refine J_goto (M := mX8_tells) (tgt := 185) dX8_tells_178 (by decide) ?_
          first
            | exact hj185 _ (by rw [if_pos (And.intro c_148 c_159), if_pos c_170])
            | exact hj185 _ (by rw [if_pos (And.intro c_148 c_159), if_neg (by omega)])
            | (rw [t3_at27]; exact hj185 _ (by rw [if_neg (fun q => absurd q.2 c_159)]))
            | (rw [t3_at27]; exact hj185 _ (by rw [if_neg (fun q => absurd q.1 c_148)]))
        · refine Z_iconst (M := mX8_tells) dX8_tells_173 ?_
          refine J_goto (M := mX8_tells) (tgt := 185) dX8_tells_174 (by decide) ?_
          first
            | exact hj185 _ (by rw [if_pos (And.intro c_148 c_159), if_pos c_170])
            | exact hj185 _ (by rw [if_pos (And.intro c_148 c_159), if_neg (by omega)])
            | (rw [t3_at27]; exact hj185 _ (by rw [if_neg (fun q => absurd q.2 c_159)]))
            | (rw [t3_at27]; exact hj185 _ (by rw [if_neg (fun q => absurd q.1 c_148)]))
    
  refine CM_of (by decide +kernel) rfl (Nat.le_of_ble_eq_true rfl) ?_
  refine J_iload_n (M := mX8_tells) dX8_tells_0 rfl rfl ?_
  refine Z_bipush (M := mX8_tells) dX8_tells_1 rfl ?_
  refine Z_ic_ge (M := mX8_tells) (tgt := 10) (by first | assumption | exact pI_rg _ | (unfold rg; omega)) (by first | assumption | exact pI_rg _ | (unfold rg; omega)) dX8_tells_3 (by decide) (fun c_3 => ?_) (fun c_3 => ?_)
  · refine Z_iconst (M := mX8_tells) dX8_tells_10 ?_
    first
      | exact (show gl3 s = 5 from if_neg (by omega)) ▸ hj11
      | exact (show gl3 s = 3 from if_pos (by omega)) ▸ hj11
  · refine Z_iconst (M := mX8_tells) dX8_tells_6 ?_
    refine J_goto (M := mX8_tells) (tgt := 11) dX8_tells_7 (by decide) ?_
    first
      | exact (show gl3 s = 5 from if_neg (by omega)) ▸ hj11
      | exact (show gl3 s = 3 from if_pos (by omega)) ▸ hj11

