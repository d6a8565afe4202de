/-! THE LAW: sums of the pool, who is ahead, ranks -/
def lsd (x : Int → Int) (f i : Int) : Int := if lfen x i 0 = f then 0 else if lfen x i 1 = f then 1 else 2
theorem lsd_rg {x : Int → Int} {f i : Int} : 0 ≤ lsd x f i ∧ lsd x f i ≤ 2 := by
  unfold lsd
  split
  · omega
  · split <;> omega
def lown (z : Int × Int × Int) (s : Int) : Int := if s = 0 then z.1 else z.2.1
def loth (z : Int × Int × Int) (s : Int) : Int := if s = 0 then z.2.1 else z.1
def lad (g : Int) (z : Int × Int × Int) (s : Int) : Int := if z.2.2 = -1 ∨ s = 2 then 0 else if g = 0 then 10000 + (if z.2.2 = s then 1000 else 0) + lown z s - loth z s else lown z s
/-- what a fencer has of the first n bouts of the pool -/
def lsm (w : Int → Int) (π : Int → Int64) (e x : Int → Int) (f g : Int) : Nat → Int
  | 0 => if g = 0 then 100 else 0
  | i + 1 => lsm w π e x f g i + lad g (lte w π e i) (lsd x f i)
theorem lad_rg {g s : Int} {z : Int × Int × Int} (h1 : 0 ≤ z.1 ∧ z.1 ≤ 5) (h2 : 0 ≤ z.2.1 ∧ z.2.1 ≤ 5) : -5 ≤ lad g z s ∧ lad g z s ≤ 11005 := by
  unfold lad lown loth
  split
  · omega
  · split
    · split <;> split <;> omega
    · split <;> omega
theorem lsm_rg {w : Int → Int} {π : Int → Int64} {e x : Int → Int} {f g : Int} : ∀ i : Nat, -5 * (i : Int) ≤ lsm w π e x f g i ∧ lsm w π e x f g i ≤ 100 + 11005 * i
  | 0 => by
    show -5 * ((0 : Nat) : Int) ≤ (if g = 0 then (100 : Int) else 0) ∧ (if g = 0 then (100 : Int) else 0) ≤ 100 + 11005 * ((0 : Nat) : Int)
    split <;> omega
  | i + 1 => by
    have h := lsm_rg (w := w) (π := π) (e := e) (x := x) (f := f) (g := g) i
    have b := lte_rg (w := w) (π := π) (e := e) (b := i)
    have c := lad_rg (g := g) (s := lsd x f i) b.1 b.2.1
    show -5 * ((i + 1 : Nat) : Int) ≤ lsm w π e x f g i + lad g (lte w π e i) (lsd x f i) ∧ lsm w π e x f g i + lad g (lte w π e i) (lsd x f i) ≤ 100 + 11005 * ((i + 1 : Nat) : Int)
    push_cast
    omega
theorem lsm_0 {w : Int → Int} {π : Int → Int64} {e x : Int → Int} {f : Int} : ∀ i : Nat, 100 - 5 * (i : Int) ≤ lsm w π e x f 0 i
  | 0 => by show 100 - 5 * ((0 : Nat) : Int) ≤ (if (0 : Int) = 0 then (100 : Int) else 0); rw [if_pos rfl]; omega
  | i + 1 => by
    have h := lsm_0 (w := w) (π := π) (e := e) (x := x) (f := f) i
    have b := lte_rg (w := w) (π := π) (e := e) (b := i)
    have c := lad_rg (g := 0) (s := lsd x f i) b.1 b.2.1
    show 100 - 5 * ((i + 1 : Nat) : Int) ≤ lsm w π e x f 0 i + lad 0 (lte w π e i) (lsd x f i)
    push_cast
    omega
set_option maxRecDepth 100000 in
set_option maxHeartbeats 4000000 in
theorem sum_l {X : GX} {h : LH} {k n : Nat} {Q : LO → LH → Prop} {t u v y : Tg} {w e x : Int → Int} {π : Int → Int64} (hw : h t = some (cI 0 32 (arr w))) (hp : h u = some (cL 2 27 (arL π))) (he : h v = some (cI 0 9 (arr e))) (Bw : ∀ z, 0 ≤ w z ∧ w z ≤ 3) (Be : ∀ z, 0 ≤ e z ∧ e z ≤ 12) (hx : h y = some (cI 0 8 (arr x))) (Bx : ∀ z, -1 ≤ x z ∧ x z ≤ 3) {f g : Int} (hf : 0 ≤ f ∧ f ≤ 3) (hg : g = 0 ∨ g = 1) : ∀ (m i : Nat), i + m = 6 → J X mL_sum 177 [some (vR (some t)), some (vR (some u)), some (vR (some v)), some (vR (some y)), some (vI (iI f)), some (vI (iI g)), some (vI (iI (lsm w π e x f g 6))), none, none, none, none, none] [] h k n Q → J X mL_sum 16 [some (vR (some t)), some (vR (some u)), some (vR (some v)), some (vR (some y)), some (vI (iI f)), some (vI (iI g)), some (vI (iI (lsm w π e x f g i))), some (vI (iI i)), none, none, none, none] [] h k n Q := by
  intro m
  induction m with
  | zero =>
    intro i hi kk
    have ei : i = 6 := by omega
    subst ei
    refine J_iload (M := mL_sum) dL_sum_16 rfl ?_
    refine Z_bipush (M := mL_sum) dL_sum_18 rfl ?_
    refine Z_ic_ge (M := mL_sum) (tgt := 177) (by first | assumption | exact pI_rg _ | (unfold rg; omega)) (by first | assumption | exact pI_rg _ | (unfold rg; omega)) dL_sum_20 (by decide) (fun c_20 => ?_) (fun c_20 => ?_)
    · exact J_sub kk (And.intro rfl (And.intro rfl (And.intro rfl (And.intro rfl (And.intro rfl (And.intro rfl (And.intro rfl trivial)))))))
    · omega
  | succ m ih =>
    intro i hi kk
    have kk2 := ih (i + 1) (by omega) kk
    refine J_iload (M := mL_sum) dL_sum_16 rfl ?_
    refine Z_bipush (M := mL_sum) dL_sum_18 rfl ?_
    refine Z_ic_ge (M := mL_sum) (tgt := 177) (by first | assumption | exact pI_rg _ | (unfold rg; omega)) (by first | assumption | exact pI_rg _ | (unfold rg; omega)) dL_sum_20 (by decide) (fun c_20 => ?_) (fun c_20 => ?_)
    · omega
    · refine J_aload_n (M := mL_sum) dL_sum_23 rfl rfl ?_
      refine J_aload_n (M := mL_sum) dL_sum_24 rfl rfl ?_
      refine J_aload_n (M := mL_sum) dL_sum_25 rfl rfl ?_
      refine J_iload (M := mL_sum) dL_sum_26 rfl ?_
      refine M_callS (M := mL_sum) (as := [_, _, _, _]) dL_sum_28 ca_L_23 ⟨by decide, by decide⟩ rfl (Nat.le_of_ble_eq_true rfl) rfl rfl (rL_told hw hp he Bw Be (by omega)) ?_
      have b2 := lfen_rg (x := x) (b := i) (s := 0) Bx (by omega)
      have b3 := lfen_rg (x := x) (b := i) (s := 1) Bx (by omega)
      obtain ⟨its, hits⟩ : ∃ y, y = ltold w π e i := ⟨_, rfl⟩
      obtain ⟨z, hz⟩ : ∃ z, z = lte w π e i := ⟨_, rfl⟩
      obtain ⟨s, hs⟩ : ∃ s, s = lsd x f i := ⟨_, rfl⟩
      have zr := lte_rg (w := w) (π := π) (e := e) (b := i)
      have e1 : its = 100 * (z.2.2 + 1) + 10 * z.1 + z.2.1 := by rw [hits, hz]; rfl
      rw [← hz] at zr
      have sr := lsd_rg (x := x) (f := f) (i := i)
      rw [← hs] at sr
      refine Z_eq (M := mL_sum) hits.symm ?_
      have e8 : lsm w π e x f g (i + 1) = lsm w π e x f g i + lad g z s := by rw [hz, hs]; rfl
      rw [e8] at kk2
      have d1 : its / 10 % 10 = z.1 := by omega
      have d2 : its % 10 = z.2.1 := by omega
      refine J_istore (M := mL_sum) dL_sum_31 (by decide) ?_
      refine Z_ij (M := mL_sum) (pcB := 66) (s) (fun hj_66 => ?_) ?_
      · refine J_aload_n (M := mL_sum) dL_sum_33 rfl rfl ?_
        refine J_iload (M := mL_sum) dL_sum_34 rfl ?_
        refine Z_iconst (M := mL_sum) dL_sum_36 ?_
        refine M_callS (M := mL_sum) (as := [_, _, _]) dL_sum_37 ca_L_27 ⟨by decide, by decide⟩ rfl (Nat.le_of_ble_eq_true rfl) rfl rfl (rL_fencer hx (by omega) (by omega)) ?_
        refine J_iload (M := mL_sum) dL_sum_40 rfl ?_
        refine Z_ic_ne (M := mL_sum) (tgt := 49) (by first | assumption | exact pI_rg _ | (unfold rg; omega)) (by first | assumption | exact pI_rg _ | (unfold rg; omega)) dL_sum_42 (by decide) (fun c_42 => ?_) (fun c_42 => ?_)
        · refine J_aload_n (M := mL_sum) dL_sum_49 rfl rfl ?_
          refine J_iload (M := mL_sum) dL_sum_50 rfl ?_
          refine Z_iconst (M := mL_sum) dL_sum_52 ?_
          refine M_callS (M := mL_sum) (as := [_, _, _]) dL_sum_53 ca_L_27 ⟨by decide, by decide⟩ rfl (Nat.le_of_ble_eq_true rfl) rfl rfl (rL_fencer hx (by omega) (by omega)) ?_
          refine J_iload (M := mL_sum) dL_sum_56 rfl ?_
          refine Z_ic_ne (M := mL_sum) (tgt := 65) (by first | assumption | exact pI_rg _ | (unfold rg; omega)) (by first | assumption | exact pI_rg _ | (unfold rg; omega)) dL_sum_58 (by decide) (fun c_58 => ?_) (fun c_58 => ?_)
          · refine Z_iconst (M := mL_sum) dL_sum_65 ?_
            exact hj_66 _ (by rw [hs]; unfold lsd; first | rw [if_pos (by omega)] | rw [if_neg (by omega), if_pos (by omega)] | rw [if_neg (by omega), if_neg (by omega)])
          · refine Z_iconst (M := mL_sum) dL_sum_61 ?_
            refine J_goto (M := mL_sum) (tgt := 66) dL_sum_62 (by decide) ?_
            exact hj_66 _ (by rw [hs]; unfold lsd; first | rw [if_pos (by omega)] | rw [if_neg (by omega), if_pos (by omega)] | rw [if_neg (by omega), if_neg (by omega)])
        · refine Z_iconst (M := mL_sum) dL_sum_45 ?_
          refine J_goto (M := mL_sum) (tgt := 66) dL_sum_46 (by decide) ?_
          exact hj_66 _ (by rw [hs]; unfold lsd; first | rw [if_pos (by omega)] | rw [if_neg (by omega), if_pos (by omega)] | rw [if_neg (by omega), if_neg (by omega)])
      refine J_istore (M := mL_sum) dL_sum_66 (by decide) ?_
      refine J_iload (M := mL_sum) dL_sum_68 rfl ?_
      refine Z_bipush (M := mL_sum) dL_sum_70 rfl ?_
      refine Z_ic_lt (M := mL_sum) (tgt := 171) (by first | assumption | exact pI_rg _ | (unfold rg; omega)) (by first | assumption | exact pI_rg _ | (unfold rg; omega)) dL_sum_72 (by decide) (fun c_72 => ?_) (fun c_72 => ?_)
      · refine Z_iinc (M := mL_sum) dL_sum_171 rfl (by decide) ?_
        refine J_goto (M := mL_sum) (tgt := 16) dL_sum_174 (by decide) ?_
        first
          | exact J_sub kk2 (And.intro rfl (And.intro rfl (And.intro rfl (And.intro rfl (And.intro rfl (And.intro rfl (And.intro rfl (And.intro (vz (by push_cast; omega)) trivial))))))))
          | exact J_sub kk2 (And.intro rfl (And.intro rfl (And.intro rfl (And.intro rfl (And.intro rfl (And.intro rfl (And.intro (vz (by rw [show lad g z s = 0 from if_pos (by omega)]; omega)) (And.intro (vz (by push_cast; omega)) trivial))))))))
      · refine J_iload (M := mL_sum) dL_sum_75 rfl ?_
        refine Z_iconst (M := mL_sum) dL_sum_77 ?_
        refine Z_ic_ge (M := mL_sum) (tgt := 171) (by first | assumption | exact pI_rg _ | (unfold rg; omega)) (by first | assumption | exact pI_rg _ | (unfold rg; omega)) dL_sum_78 (by decide) (fun c_78 => ?_) (fun c_78 => ?_)
        · refine Z_iinc (M := mL_sum) dL_sum_171 rfl (by decide) ?_
          refine J_goto (M := mL_sum) (tgt := 16) dL_sum_174 (by decide) ?_
          first
            | exact J_sub kk2 (And.intro rfl (And.intro rfl (And.intro rfl (And.intro rfl (And.intro rfl (And.intro rfl (And.intro rfl (And.intro (vz (by push_cast; omega)) trivial))))))))
            | exact J_sub kk2 (And.intro rfl (And.intro rfl (And.intro rfl (And.intro rfl (And.intro rfl (And.intro rfl (And.intro (vz (by rw [show lad g z s = 0 from if_pos (by omega)]; omega)) (And.intro (vz (by push_cast; omega)) trivial))))))))
        · refine Z_ij (M := mL_sum) (pcB := 102) (lown z s) (fun hj_102 => ?_) ?_
          · refine J_iload (M := mL_sum) dL_sum_81 rfl ?_
            first
              | refine Z_pt (M := mL_sum) (tgt := 97) dL_sum_83 (by decide) (fun c_83 => ?_) (fun c_83 => ?_)
              | refine Z_if_ne (M := mL_sum) (tgt := 97) (by first | assumption | exact pI_rg _ | (unfold rg; omega)) dL_sum_83 (by decide) (fun c_83 => ?_) (fun c_83 => ?_)
            · refine J_iload (M := mL_sum) dL_sum_97 rfl ?_
              refine Z_bipush (M := mL_sum) dL_sum_99 rfl ?_
              refine Z_irem (M := mL_sum) (by omega) (by first | assumption | exact pI_rg _ | (unfold rg; omega)) (by decide) (by first | assumption | exact pI_rg _ | (unfold rg; omega)) dL_sum_101 ?_
              exact hj_102 _ (by unfold lown; first | (rw [if_pos (by omega)]; omega) | (rw [if_neg (by omega)]; omega))
            · refine J_iload (M := mL_sum) dL_sum_86 rfl ?_
              refine Z_bipush (M := mL_sum) dL_sum_88 rfl ?_
              refine Z_idiv (M := mL_sum) (by omega) (by first | assumption | exact pI_rg _ | (unfold rg; omega)) (by decide) (by first | assumption | exact pI_rg _ | (unfold rg; omega)) dL_sum_90 ?_
              refine Z_bipush (M := mL_sum) dL_sum_91 rfl ?_
              refine Z_irem (M := mL_sum) (by omega) (by first | assumption | exact pI_rg _ | (unfold rg; omega)) (by decide) (by first | assumption | exact pI_rg _ | (unfold rg; omega)) dL_sum_93 ?_
              refine J_goto (M := mL_sum) (tgt := 102) dL_sum_94 (by decide) ?_
              exact hj_102 _ (by unfold lown; first | (rw [if_pos (by omega)]; omega) | (rw [if_neg (by omega)]; omega))
          refine J_istore (M := mL_sum) dL_sum_102 (by decide) ?_
          refine Z_ij (M := mL_sum) (pcB := 125) (loth z s) (fun hj_125 => ?_) ?_
          · refine J_iload (M := mL_sum) dL_sum_104 rfl ?_
            first
              | refine Z_pt (M := mL_sum) (tgt := 117) dL_sum_106 (by decide) (fun c_106 => ?_) (fun c_106 => ?_)
              | refine Z_if_ne (M := mL_sum) (tgt := 117) (by first | assumption | exact pI_rg _ | (unfold rg; omega)) dL_sum_106 (by decide) (fun c_106 => ?_) (fun c_106 => ?_)
            · refine J_iload (M := mL_sum) dL_sum_117 rfl ?_
              refine Z_bipush (M := mL_sum) dL_sum_119 rfl ?_
              refine Z_idiv (M := mL_sum) (by omega) (by first | assumption | exact pI_rg _ | (unfold rg; omega)) (by decide) (by first | assumption | exact pI_rg _ | (unfold rg; omega)) dL_sum_121 ?_
              refine Z_bipush (M := mL_sum) dL_sum_122 rfl ?_
              refine Z_irem (M := mL_sum) (by omega) (by first | assumption | exact pI_rg _ | (unfold rg; omega)) (by decide) (by first | assumption | exact pI_rg _ | (unfold rg; omega)) dL_sum_124 ?_
              exact hj_125 _ (by unfold loth; first | (rw [if_pos (by omega)]; omega) | (rw [if_neg (by omega)]; omega))
            · refine J_iload (M := mL_sum) dL_sum_109 rfl ?_
              refine Z_bipush (M := mL_sum) dL_sum_111 rfl ?_
              refine Z_irem (M := mL_sum) (by omega) (by first | assumption | exact pI_rg _ | (unfold rg; omega)) (by decide) (by first | assumption | exact pI_rg _ | (unfold rg; omega)) dL_sum_113 ?_
              refine J_goto (M := mL_sum) (tgt := 125) dL_sum_114 (by decide) ?_
              exact hj_125 _ (by unfold loth; first | (rw [if_pos (by omega)]; omega) | (rw [if_neg (by omega)]; omega))
          have o1 : 0 ≤ lown z s ∧ lown z s ≤ 5 := by unfold lown; split <;> omega
          have o2 : 0 ≤ loth z s ∧ loth z s ≤ 5 := by unfold loth; split <;> omega
          have l0 : ¬ (z.2.2 = -1 ∨ s = 2) := by omega
          have la0 : g = 0 → lad g z s = 10000 + (if z.2.2 = s then 1000 else 0) + lown z s - loth z s := fun q => by unfold lad; rw [if_neg l0, if_pos q]
          have la1 : ¬ g = 0 → lad g z s = lown z s := fun q => by unfold lad; rw [if_neg l0, if_neg q]
          refine J_istore (M := mL_sum) dL_sum_125 (by decide) ?_
          refine J_iload (M := mL_sum) dL_sum_127 rfl ?_
          refine Z_ij (M := mL_sum) (pcB := 168) (lad g z s) (fun hj_168 => ?_) ?_
          · refine J_iload (M := mL_sum) dL_sum_129 rfl ?_
            first
              | refine Z_pf (M := mL_sum) (tgt := 139) dL_sum_131 (by decide) (fun c_131 => ?_) (fun c_131 => ?_)
              | refine Z_if_eq (M := mL_sum) (tgt := 139) (by first | assumption | exact pI_rg _ | (unfold rg; omega)) dL_sum_131 (by decide) (fun c_131 => ?_) (fun c_131 => ?_)
            · refine Z_sipush (M := mL_sum) dL_sum_139 rfl ?_
              refine Z_ij (M := mL_sum) (pcB := 161) (if z.2.2 = s then 1000 else 0) (fun hj_161 => ?_) ?_
              · refine J_iload (M := mL_sum) dL_sum_142 rfl ?_
                refine Z_bipush (M := mL_sum) dL_sum_144 rfl ?_
                refine Z_idiv (M := mL_sum) (by omega) (by first | assumption | exact pI_rg _ | (unfold rg; omega)) (by decide) (by first | assumption | exact pI_rg _ | (unfold rg; omega)) dL_sum_146 ?_
                refine J_iload (M := mL_sum) dL_sum_147 rfl ?_
                refine Z_iconst (M := mL_sum) dL_sum_149 ?_
                refine Z_iadd (M := mL_sum) dL_sum_150 ?_
                refine Z_ic_ne (M := mL_sum) (tgt := 160) (by first | assumption | exact pI_rg _ | (unfold rg; omega)) (by first | assumption | exact pI_rg _ | (unfold rg; omega)) dL_sum_151 (by decide) (fun c_151 => ?_) (fun c_151 => ?_)
                · refine Z_iconst (M := mL_sum) dL_sum_160 ?_
                  exact hj_161 _ (by first | rw [if_pos (by omega)] | rw [if_neg (by omega)])
                · refine Z_sipush (M := mL_sum) dL_sum_154 rfl ?_
                  refine J_goto (M := mL_sum) (tgt := 161) dL_sum_157 (by decide) ?_
                  exact hj_161 _ (by first | rw [if_pos (by omega)] | rw [if_neg (by omega)])
              refine Z_iadd (M := mL_sum) dL_sum_161 ?_
              refine J_iload (M := mL_sum) dL_sum_162 rfl ?_
              refine Z_iadd (M := mL_sum) dL_sum_164 ?_
              refine J_iload (M := mL_sum) dL_sum_165 rfl ?_
              refine Z_isub (M := mL_sum) dL_sum_167 ?_
              exact hj_168 _ (by first | exact (la0 (by assumption)).symm | exact (la1 (by assumption)).symm)
            · refine J_iload (M := mL_sum) dL_sum_134 rfl ?_
              refine J_goto (M := mL_sum) (tgt := 168) dL_sum_136 (by decide) ?_
              exact hj_168 _ (by first | exact (la0 (by assumption)).symm | exact (la1 (by assumption)).symm)
          refine Z_iadd (M := mL_sum) dL_sum_168 ?_
          refine J_istore (M := mL_sum) dL_sum_169 (by decide) ?_
          refine Z_iinc (M := mL_sum) dL_sum_171 rfl (by decide) ?_
          refine J_goto (M := mL_sum) (tgt := 16) dL_sum_174 (by decide) ?_
          first
            | exact J_sub kk2 (And.intro rfl (And.intro rfl (And.intro rfl (And.intro rfl (And.intro rfl (And.intro rfl (And.intro rfl (And.intro (vz (by push_cast; omega)) trivial))))))))
            | exact J_sub kk2 (And.intro rfl (And.intro rfl (And.intro rfl (And.intro rfl (And.intro rfl (And.intro rfl (And.intro (vz (by rw [show lad g z s = 0 from if_pos (by omega)]; omega)) (And.intro (vz (by push_cast; omega)) trivial))))))))

set_option maxRecDepth 100000 in
set_option maxHeartbeats 4000000 in
theorem rL_sum {X : GX} {h : LH} {t u v y : Tg} {w e x : Int → Int} {π : Int → Int64} (hw : h t = some (cI 0 32 (arr w))) (hp : h u = some (cL 2 27 (arL π))) (he : h v = some (cI 0 9 (arr e))) (Bw : ∀ z, 0 ≤ w z ∧ w z ≤ 3) (Be : ∀ z, 0 ≤ e z ∧ e z ≤ 12) (hx : h y = some (cI 0 8 (arr x))) (Bx : ∀ z, -1 ≤ x z ∧ x z ≤ 3) {f g : Int} (hf : 0 ≤ f ∧ f ≤ 3) (hg : g = 0 ∨ g = 1) : CT X mL_sum [vR (some t), vR (some u), vR (some v), vR (some y), vI (iI f), vI (iI g)] h (rQ (fun r h' => r = some (vI (iI (lsm w π e x f g 6))) ∧ h' = h)) := by
  refine CT_of (by decide +kernel) rfl (Nat.le_of_ble_eq_true rfl) ?_
  refine Z_ij (M := mL_sum) (pcB := 11) (if g = 0 then 100 else 0) (fun hj_11 => ?_) ?_
  · refine J_iload (M := mL_sum) dL_sum_0 rfl ?_
    first
      | refine Z_pf (M := mL_sum) (tgt := 9) dL_sum_2 (by decide) (fun c_2 => ?_) (fun c_2 => ?_)
      | refine Z_if_eq (M := mL_sum) (tgt := 9) (by first | assumption | exact pI_rg _ | (unfold rg; omega)) dL_sum_2 (by decide) (fun c_2 => ?_) (fun c_2 => ?_)
    · refine Z_bipush (M := mL_sum) dL_sum_9 rfl ?_
      exact hj_11 _ (by first | rw [if_pos (by omega)] | rw [if_neg (by omega)])
    · refine Z_iconst (M := mL_sum) dL_sum_5 ?_
      refine J_goto (M := mL_sum) (tgt := 11) dL_sum_6 (by decide) ?_
      exact hj_11 _ (by first | rw [if_pos (by omega)] | rw [if_neg (by omega)])
  refine J_istore (M := mL_sum) dL_sum_11 (by decide) ?_
  refine Z_iconst (M := mL_sum) dL_sum_13 ?_
  refine J_istore (M := mL_sum) dL_sum_14 (by decide) ?_
  refine J_sub (M := mL_sum) (sum_l hw hp he Bw Be hx Bx hf hg 6 0 rfl ?_) (And.intro rfl (And.intro rfl (And.intro rfl (And.intro rfl (And.intro rfl (And.intro rfl (And.intro rfl (And.intro rfl trivial))))))))
  refine J_iload (M := mL_sum) dL_sum_177 rfl ?_
  refine J_iret (M := mL_sum) dL_sum_179 rfl ?_
  exact And.intro rfl rfl
  

abbrev lO (A B : Int) : Int := A / 1000 % 10 * mx1 (B / 10000)
def lD1 (A B : Int) : Int := if lO A B = lO B A then A % 1000 - B % 1000 else lO A B - lO B A
def lD2 (A B A1 B1 : Int) : Int := if lD1 A B = 0 then A1 - B1 else lD1 A B
def lah (w : Int → Int) (π : Int → Int64) (e x : Int → Int) (a b : Int) : Prop := 0 < lD2 (lsm w π e x a 0 6) (lsm w π e x b 0 6) (lsm w π e x a 1 6) (lsm w π e x b 1 6) ∨ (lD2 (lsm w π e x a 0 6) (lsm w π e x b 0 6) (lsm w π e x a 1 6) (lsm w π e x b 1 6) = 0 ∧ a < b)
noncomputable def lcn (w : Int → Int) (π : Int → Int64) (e x : Int → Int) (i : Int) : Nat → Int
  | 0 => 0
  | m + 1 => lcn w π e x i m + pI (¬ i = (m : Int) ∧ lah w π e x m i)
noncomputable def lrk (w : Int → Int) (π : Int → Int64) (e x : Int → Int) (p : Int) : Nat → Int
  | 0 => -1
  | i + 1 => if lcn w π e x i 4 = p then i else lrk w π e x p i
theorem lcn_rg {w : Int → Int} {π : Int → Int64} {e x : Int → Int} {i : Int} : ∀ m : Nat, 0 ≤ lcn w π e x i m ∧ lcn w π e x i m ≤ m
  | 0 => by show (0 : Int) ≤ 0 ∧ (0 : Int) ≤ ((0 : Nat) : Int); omega
  | m + 1 => by
    have h := lcn_rg (w := w) (π := π) (e := e) (x := x) (i := i) m
    have p := pI_01 (¬ i = (m : Int) ∧ lah w π e x m i)
    show 0 ≤ lcn w π e x i m + pI _ ∧ lcn w π e x i m + pI _ ≤ ((m + 1 : Nat) : Int)
    push_cast
    omega
theorem lrk_rg {w : Int → Int} {π : Int → Int64} {e x : Int → Int} {p : Int} : ∀ i : Nat, -1 ≤ lrk w π e x p i ∧ lrk w π e x p i < i
  | 0 => by show (-1 : Int) ≤ -1 ∧ (-1 : Int) < ((0 : Nat) : Int); omega
  | i + 1 => by
    have h := lrk_rg (w := w) (π := π) (e := e) (x := x) (p := p) i
    show -1 ≤ (if lcn w π e x i 4 = p then (i : Int) else lrk w π e x p i) ∧ (if lcn w π e x i 4 = p then (i : Int) else lrk w π e x p i) < ((i + 1 : Nat) : Int)
    split <;> omega
set_option maxRecDepth 100000 in
set_option maxHeartbeats 4000000 in
theorem rL_isAhead {X : GX} {h : LH} {t u v y : Tg} {w e x : Int → Int} {π : Int → Int64} (hw : h t = some (cI 0 32 (arr w))) (hp : h u = some (cL 2 27 (arL π))) (he : h v = some (cI 0 9 (arr e))) (Bw : ∀ z, 0 ≤ w z ∧ w z ≤ 3) (Be : ∀ z, 0 ≤ e z ∧ e z ≤ 12) (hx : h y = some (cI 0 8 (arr x))) (Bx : ∀ z, -1 ≤ x z ∧ x z ≤ 3) {a b : Int} (ha : 0 ≤ a ∧ a ≤ 3) (hb : 0 ≤ b ∧ b ≤ 3) : CT X mL_isAhead [vR (some t), vR (some u), vR (some v), vR (some y), vI (iI a), vI (iI b)] h (rQ (fun r h' => r = some (vI (iI (pI (lah w π e x a b)))) ∧ h' = h)) := by
  obtain ⟨A0, hA0⟩ : ∃ q, q = lsm w π e x a 0 6 := ⟨_, rfl⟩
  have rA0 := lsm_rg (w := w) (π := π) (e := e) (x := x) (f := a) (g := 0) 6
  rw [← hA0] at rA0
  obtain ⟨B0, hB0⟩ : ∃ q, q = lsm w π e x b 0 6 := ⟨_, rfl⟩
  have rB0 := lsm_rg (w := w) (π := π) (e := e) (x := x) (f := b) (g := 0) 6
  rw [← hB0] at rB0
  obtain ⟨A1, hA1⟩ : ∃ q, q = lsm w π e x a 1 6 := ⟨_, rfl⟩
  have rA1 := lsm_rg (w := w) (π := π) (e := e) (x := x) (f := a) (g := 1) 6
  rw [← hA1] at rA1
  obtain ⟨B1, hB1⟩ : ∃ q, q = lsm w π e x b 1 6 := ⟨_, rfl⟩
  have rB1 := lsm_rg (w := w) (π := π) (e := e) (x := x) (f := b) (g := 1) 6
  rw [← hB1] at rB1
  have qA := lsm_0 (w := w) (π := π) (e := e) (x := x) (f := a) 6
  have qB := lsm_0 (w := w) (π := π) (e := e) (x := x) (f := b) 6
  rw [← hA0] at qA
  rw [← hB0] at qB
  have hl : lah w π e x a b = (0 < lD2 A0 B0 A1 B1 ∨ (lD2 A0 B0 A1 B1 = 0 ∧ a < b)) := by rw [hA0, hB0, hA1, hB1]; rfl
  rw [hl]
  have m1 := mul_rg (x := A0 / 1000 % 10) (y := mx1 (B0 / 10000)) (by omega) (mx1_rg (by omega))
  have m2 := mul_rg (x := B0 / 1000 % 10) (y := mx1 (A0 / 10000)) (by omega) (mx1_rg (by omega))
  obtain ⟨O1, hO1⟩ : ∃ q, q = lO A0 B0 := ⟨_, rfl⟩
  obtain ⟨O2, hO2⟩ : ∃ q, q = lO B0 A0 := ⟨_, rfl⟩
  have p1 : 0 ≤ O1 ∧ O1 ≤ 4000000 := by rw [hO1]; exact m1
  have p2 : 0 ≤ O2 ∧ O2 ≤ 4000000 := by rw [hO2]; exact m2
  obtain ⟨D1, hD1⟩ : ∃ q, q = lD1 A0 B0 := ⟨_, rfl⟩
  have e1 : D1 = if O1 = O2 then A0 % 1000 - B0 % 1000 else O1 - O2 := by rw [hD1, hO1, hO2]; rfl
  have s1 : -5000000 ≤ D1 ∧ D1 ≤ 5000000 := by rw [e1]; split <;> omega
  obtain ⟨D2, hD2⟩ : ∃ q, q = lD2 A0 B0 A1 B1 := ⟨_, rfl⟩
  have e2 : D2 = if D1 = 0 then A1 - B1 else D1 := by rw [hD2, hD1]; rfl
  have s2 : -5000000 ≤ D2 ∧ D2 ≤ 5000000 := by rw [e2]; split <;> omega
  rw [← hD2]
  refine CT_of (by decide +kernel) rfl (Nat.le_of_ble_eq_true rfl) ?_
  refine J_aload_n (M := mL_isAhead) dL_isAhead_0 rfl rfl ?_
  refine J_aload_n (M := mL_isAhead) dL_isAhead_1 rfl rfl ?_
  refine J_aload_n (M := mL_isAhead) dL_isAhead_2 rfl rfl ?_
  refine J_aload_n (M := mL_isAhead) dL_isAhead_3 rfl rfl ?_
  refine J_iload (M := mL_isAhead) dL_isAhead_4 rfl ?_
  refine Z_iconst (M := mL_isAhead) dL_isAhead_6 ?_
  refine M_callS (M := mL_isAhead) (as := [_, _, _, _, _, _]) dL_isAhead_7 ca_L_35 ⟨by decide, by decide⟩ rfl (Nat.le_of_ble_eq_true rfl) rfl rfl (rL_sum hw hp he Bw Be hx Bx ha (by decide)) ?_
  refine Z_eq (M := mL_isAhead) hA0.symm ?_
  refine J_istore (M := mL_isAhead) dL_isAhead_10 (by decide) ?_
  refine J_aload_n (M := mL_isAhead) dL_isAhead_12 rfl rfl ?_
  refine J_aload_n (M := mL_isAhead) dL_isAhead_13 rfl rfl ?_
  refine J_aload_n (M := mL_isAhead) dL_isAhead_14 rfl rfl ?_
  refine J_aload_n (M := mL_isAhead) dL_isAhead_15 rfl rfl ?_
  refine J_iload (M := mL_isAhead) dL_isAhead_16 rfl ?_
  refine Z_iconst (M := mL_isAhead) dL_isAhead_18 ?_
  refine M_callS (M := mL_isAhead) (as := [_, _, _, _, _, _]) dL_isAhead_19 ca_L_35 ⟨by decide, by decide⟩ rfl (Nat.le_of_ble_eq_true rfl) rfl rfl (rL_sum hw hp he Bw Be hx Bx hb (by decide)) ?_
  refine Z_eq (M := mL_isAhead) hB0.symm ?_
  refine J_istore (M := mL_isAhead) dL_isAhead_22 (by decide) ?_
  refine J_iload (M := mL_isAhead) dL_isAhead_24 rfl ?_
  refine Z_sipush (M := mL_isAhead) dL_isAhead_26 rfl ?_
  refine Z_idiv (M := mL_isAhead) (by omega) (by first | assumption | exact pI_rg _ | (unfold rg; omega)) (by decide) (by first | assumption | exact pI_rg _ | (unfold rg; omega)) dL_isAhead_29 ?_
  refine Z_bipush (M := mL_isAhead) dL_isAhead_30 rfl ?_
  refine Z_irem (M := mL_isAhead) (by omega) (by first | assumption | exact pI_rg _ | (unfold rg; omega)) (by decide) (by first | assumption | exact pI_rg _ | (unfold rg; omega)) dL_isAhead_32 ?_
  refine Z_ij (M := mL_isAhead) (pcB := 52) (mx1 (B0 / 10000)) (fun hj_52 => ?_) ?_
  · refine J_iload (M := mL_isAhead) dL_isAhead_33 rfl ?_
    refine Z_sipush (M := mL_isAhead) dL_isAhead_35 rfl ?_
    refine Z_idiv (M := mL_isAhead) (by omega) (by first | assumption | exact pI_rg _ | (unfold rg; omega)) (by decide) (by first | assumption | exact pI_rg _ | (unfold rg; omega)) dL_isAhead_38 ?_
    refine Z_if_le (M := mL_isAhead) (tgt := 51) (by first | assumption | exact pI_rg _ | (unfold rg; omega)) dL_isAhead_39 (by decide) (fun c_39 => ?_) (fun c_39 => ?_)
    · refine Z_iconst (M := mL_isAhead) dL_isAhead_51 ?_
      exact hj_52 _ (by unfold mx1; first | rw [if_pos (by omega)] | rw [if_neg (by omega)])
    · refine J_iload (M := mL_isAhead) dL_isAhead_42 rfl ?_
      refine Z_sipush (M := mL_isAhead) dL_isAhead_44 rfl ?_
      refine Z_idiv (M := mL_isAhead) (by omega) (by first | assumption | exact pI_rg _ | (unfold rg; omega)) (by decide) (by first | assumption | exact pI_rg _ | (unfold rg; omega)) dL_isAhead_47 ?_
      refine J_goto (M := mL_isAhead) (tgt := 52) dL_isAhead_48 (by decide) ?_
      exact hj_52 _ (by unfold mx1; first | rw [if_pos (by omega)] | rw [if_neg (by omega)])
  refine Z_imul (M := mL_isAhead) dL_isAhead_52 ?_
  refine Z_eq (M := mL_isAhead) hO1.symm ?_
  refine J_istore (M := mL_isAhead) dL_isAhead_53 (by decide) ?_
  refine J_iload (M := mL_isAhead) dL_isAhead_55 rfl ?_
  refine Z_sipush (M := mL_isAhead) dL_isAhead_57 rfl ?_
  refine Z_idiv (M := mL_isAhead) (by omega) (by first | assumption | exact pI_rg _ | (unfold rg; omega)) (by decide) (by first | assumption | exact pI_rg _ | (unfold rg; omega)) dL_isAhead_60 ?_
  refine Z_bipush (M := mL_isAhead) dL_isAhead_61 rfl ?_
  refine Z_irem (M := mL_isAhead) (by omega) (by first | assumption | exact pI_rg _ | (unfold rg; omega)) (by decide) (by first | assumption | exact pI_rg _ | (unfold rg; omega)) dL_isAhead_63 ?_
  refine Z_ij (M := mL_isAhead) (pcB := 83) (mx1 (A0 / 10000)) (fun hj_83 => ?_) ?_
  · refine J_iload (M := mL_isAhead) dL_isAhead_64 rfl ?_
    refine Z_sipush (M := mL_isAhead) dL_isAhead_66 rfl ?_
    refine Z_idiv (M := mL_isAhead) (by omega) (by first | assumption | exact pI_rg _ | (unfold rg; omega)) (by decide) (by first | assumption | exact pI_rg _ | (unfold rg; omega)) dL_isAhead_69 ?_
    refine Z_if_le (M := mL_isAhead) (tgt := 82) (by first | assumption | exact pI_rg _ | (unfold rg; omega)) dL_isAhead_70 (by decide) (fun c_70 => ?_) (fun c_70 => ?_)
    · refine Z_iconst (M := mL_isAhead) dL_isAhead_82 ?_
      exact hj_83 _ (by unfold mx1; first | rw [if_pos (by omega)] | rw [if_neg (by omega)])
    · refine J_iload (M := mL_isAhead) dL_isAhead_73 rfl ?_
      refine Z_sipush (M := mL_isAhead) dL_isAhead_75 rfl ?_
      refine Z_idiv (M := mL_isAhead) (by omega) (by first | assumption | exact pI_rg _ | (unfold rg; omega)) (by decide) (by first | assumption | exact pI_rg _ | (unfold rg; omega)) dL_isAhead_78 ?_
      refine J_goto (M := mL_isAhead) (tgt := 83) dL_isAhead_79 (by decide) ?_
      exact hj_83 _ (by unfold mx1; first | rw [if_pos (by omega)] | rw [if_neg (by omega)])
  refine Z_imul (M := mL_isAhead) dL_isAhead_83 ?_
  refine Z_eq (M := mL_isAhead) hO2.symm ?_
  refine J_istore (M := mL_isAhead) dL_isAhead_84 (by decide) ?_
  refine Z_ij (M := mL_isAhead) (pcB := 114) (D1) (fun hj_114 => ?_) ?_
  · refine J_iload (M := mL_isAhead) dL_isAhead_86 rfl ?_
    refine J_iload (M := mL_isAhead) dL_isAhead_88 rfl ?_
    refine Z_ic_eq (M := mL_isAhead) (tgt := 101) (by first | assumption | exact pI_rg _ | (unfold rg; omega)) (by first | assumption | exact pI_rg _ | (unfold rg; omega)) dL_isAhead_90 (by decide) (fun c_90 => ?_) (fun c_90 => ?_)
    · refine J_iload (M := mL_isAhead) dL_isAhead_101 rfl ?_
      refine Z_sipush (M := mL_isAhead) dL_isAhead_103 rfl ?_
      refine Z_irem (M := mL_isAhead) (by omega) (by first | assumption | exact pI_rg _ | (unfold rg; omega)) (by decide) (by first | assumption | exact pI_rg _ | (unfold rg; omega)) dL_isAhead_106 ?_
      refine J_iload (M := mL_isAhead) dL_isAhead_107 rfl ?_
      refine Z_sipush (M := mL_isAhead) dL_isAhead_109 rfl ?_
      refine Z_irem (M := mL_isAhead) (by omega) (by first | assumption | exact pI_rg _ | (unfold rg; omega)) (by decide) (by first | assumption | exact pI_rg _ | (unfold rg; omega)) dL_isAhead_112 ?_
      refine Z_isub (M := mL_isAhead) dL_isAhead_113 ?_
      exact hj_114 _ (by rw [e1]; first | rw [if_pos (by omega)] | rw [if_neg (by omega)])
    · refine J_iload (M := mL_isAhead) dL_isAhead_93 rfl ?_
      refine J_iload (M := mL_isAhead) dL_isAhead_95 rfl ?_
      refine Z_isub (M := mL_isAhead) dL_isAhead_97 ?_
      refine J_goto (M := mL_isAhead) (tgt := 114) dL_isAhead_98 (by decide) ?_
      exact hj_114 _ (by rw [e1]; first | rw [if_pos (by omega)] | rw [if_neg (by omega)])
  refine J_istore (M := mL_isAhead) dL_isAhead_114 (by decide) ?_
  refine Z_ij (M := mL_isAhead) (pcB := 147) (D2) (fun hj_147 => ?_) ?_
  · refine J_iload (M := mL_isAhead) dL_isAhead_116 rfl ?_
    first
      | refine Z_pf (M := mL_isAhead) (tgt := 126) dL_isAhead_118 (by decide) (fun c_118 => ?_) (fun c_118 => ?_)
      | refine Z_if_eq (M := mL_isAhead) (tgt := 126) (by first | assumption | exact pI_rg _ | (unfold rg; omega)) dL_isAhead_118 (by decide) (fun c_118 => ?_) (fun c_118 => ?_)
    · refine J_aload_n (M := mL_isAhead) dL_isAhead_126 rfl rfl ?_
      refine J_aload_n (M := mL_isAhead) dL_isAhead_127 rfl rfl ?_
      refine J_aload_n (M := mL_isAhead) dL_isAhead_128 rfl rfl ?_
      refine J_aload_n (M := mL_isAhead) dL_isAhead_129 rfl rfl ?_
      refine J_iload (M := mL_isAhead) dL_isAhead_130 rfl ?_
      refine Z_iconst (M := mL_isAhead) dL_isAhead_132 ?_
      refine M_callS (M := mL_isAhead) (as := [_, _, _, _, _, _]) dL_isAhead_133 ca_L_35 ⟨by decide, by decide⟩ rfl (Nat.le_of_ble_eq_true rfl) rfl rfl (rL_sum hw hp he Bw Be hx Bx ha (by decide)) ?_
      refine Z_eq (M := mL_isAhead) hA1.symm ?_
      refine J_aload_n (M := mL_isAhead) dL_isAhead_136 rfl rfl ?_
      refine J_aload_n (M := mL_isAhead) dL_isAhead_137 rfl rfl ?_
      refine J_aload_n (M := mL_isAhead) dL_isAhead_138 rfl rfl ?_
      refine J_aload_n (M := mL_isAhead) dL_isAhead_139 rfl rfl ?_
      refine J_iload (M := mL_isAhead) dL_isAhead_140 rfl ?_
      refine Z_iconst (M := mL_isAhead) dL_isAhead_142 ?_
      refine M_callS (M := mL_isAhead) (as := [_, _, _, _, _, _]) dL_isAhead_143 ca_L_35 ⟨by decide, by decide⟩ rfl (Nat.le_of_ble_eq_true rfl) rfl rfl (rL_sum hw hp he Bw Be hx Bx hb (by decide)) ?_
      refine Z_eq (M := mL_isAhead) hB1.symm ?_
      refine Z_isub (M := mL_isAhead) dL_isAhead_146 ?_
      exact hj_147 _ (by rw [e2]; first | rw [if_pos (by omega)] | rw [if_neg (by omega)])
    · refine J_iload (M := mL_isAhead) dL_isAhead_121 rfl ?_
      refine J_goto (M := mL_isAhead) (tgt := 147) dL_isAhead_123 (by decide) ?_
      exact hj_147 _ (by rw [e2]; first | rw [if_pos (by omega)] | rw [if_neg (by omega)])
  refine J_istore (M := mL_isAhead) dL_isAhead_147 (by decide) ?_
  refine Z_bj (M := mL_isAhead) (pcB := 171) (0 < D2 ∨ (D2 = 0 ∧ a < b)) (fun hj_171 => ?_) ?_
  · refine J_iload (M := mL_isAhead) dL_isAhead_149 rfl ?_
    refine Z_if_gt (M := mL_isAhead) (tgt := 166) (by first | assumption | exact pI_rg _ | (unfold rg; omega)) dL_isAhead_151 (by decide) (fun c_151 => ?_) (fun c_151 => ?_)
    · refine Z_iconst (M := mL_isAhead) dL_isAhead_166 ?_
      refine J_goto (M := mL_isAhead) (tgt := 171) dL_isAhead_167 (by decide) ?_
      exact hj_171 _ (pI_t (by omega)).symm
    · refine J_iload (M := mL_isAhead) dL_isAhead_154 rfl ?_
      first
        | refine Z_pt (M := mL_isAhead) (tgt := 170) dL_isAhead_156 (by decide) (fun c_156 => ?_) (fun c_156 => ?_)
        | refine Z_if_ne (M := mL_isAhead) (tgt := 170) (by first | assumption | exact pI_rg _ | (unfold rg; omega)) dL_isAhead_156 (by decide) (fun c_156 => ?_) (fun c_156 => ?_)
      · refine Z_iconst (M := mL_isAhead) dL_isAhead_170 ?_
        exact hj_171 _ (pI_f (by omega)).symm
      · refine J_iload (M := mL_isAhead) dL_isAhead_159 rfl ?_
        refine J_iload (M := mL_isAhead) dL_isAhead_161 rfl ?_
        refine Z_ic_ge (M := mL_isAhead) (tgt := 170) (by first | assumption | exact pI_rg _ | (unfold rg; omega)) (by first | assumption | exact pI_rg _ | (unfold rg; omega)) dL_isAhead_163 (by decide) (fun c_163 => ?_) (fun c_163 => ?_)
        · refine Z_iconst (M := mL_isAhead) dL_isAhead_170 ?_
          exact hj_171 _ (pI_f (by omega)).symm
        · refine Z_iconst (M := mL_isAhead) dL_isAhead_166 ?_
          refine J_goto (M := mL_isAhead) (tgt := 171) dL_isAhead_167 (by decide) ?_
          exact hj_171 _ (pI_t (by omega)).symm
  refine J_zret (M := mL_isAhead) dL_isAhead_171 rfl (by first | exact pI_zb _ | exact zb_of (Or.inl rfl) | exact zb_of (Or.inr rfl) | assumption) ?_
  exact And.intro rfl rfl

set_option maxRecDepth 100000 in
set_option maxHeartbeats 4000000 in
theorem ranked_j {X : GX} {h : LH} {k n : Nat} {Q : LO → LH → Prop} {t u v y : Tg} {w e x : Int → Int} {π : Int → Int64} (hw : h t = some (cI 0 32 (arr w))) (hp : h u = some (cL 2 27 (arL π))) (he : h v = some (cI 0 9 (arr e))) (Bw : ∀ z, 0 ≤ w z ∧ w z ≤ 3) (Be : ∀ z, 0 ≤ e z ∧ e z ≤ 12) (hx : h y = some (cI 0 8 (arr x))) (Bx : ∀ z, -1 ≤ x z ∧ x z ≤ 3) {p r i : Int} (hi : 0 ≤ i ∧ i ≤ 3) : ∀ (m j : Nat), j + m = 4 → J X mL_ranked 61 [some (vR (some t)), some (vR (some u)), some (vR (some v)), some (vR (some y)), some (vI (iI p)), some (vI (iI r)), some (vI (iI i)), some (vI (iI (lcn w π e x i 4))), none] [] h k n Q → J X mL_ranked 18 [some (vR (some t)), some (vR (some u)), some (vR (some v)), some (vR (some y)), some (vI (iI p)), some (vI (iI r)), some (vI (iI i)), some (vI (iI (lcn w π e x i j))), some (vI (iI j))] [] h k n Q := by
  intro m
  induction m with
  | zero =>
    intro j hj kk
    have ej : j = 4 := by omega
    subst ej
    refine J_iload (M := mL_ranked) dL_ranked_18 rfl ?_
    refine Z_iconst (M := mL_ranked) dL_ranked_20 ?_
    refine Z_ic_ge (M := mL_ranked) (tgt := 61) (by first | assumption | exact pI_rg _ | (unfold rg; omega)) (by first | assumption | exact pI_rg _ | (unfold rg; omega)) dL_ranked_21 (by decide) (fun c_21 => ?_) (fun c_21 => ?_)
    · exact J_sub kk (And.intro rfl (And.intro rfl (And.intro rfl (And.intro rfl (And.intro rfl (And.intro rfl (And.intro rfl (And.intro rfl trivial))))))))
    · omega
  | succ m ih =>
    intro j hj kk
    have kk2 := ih (j + 1) (by omega) kk
    have en : lcn w π e x i (j + 1) = lcn w π e x i j + pI (¬ i = (j : Int) ∧ lah w π e x j i) := rfl
    rw [en] at kk2
    refine J_iload (M := mL_ranked) dL_ranked_18 rfl ?_
    refine Z_iconst (M := mL_ranked) dL_ranked_20 ?_
    refine Z_ic_ge (M := mL_ranked) (tgt := 61) (by first | assumption | exact pI_rg _ | (unfold rg; omega)) (by first | assumption | exact pI_rg _ | (unfold rg; omega)) dL_ranked_21 (by decide) (fun c_21 => ?_) (fun c_21 => ?_)
    · omega
    · refine J_iload (M := mL_ranked) dL_ranked_24 rfl ?_
      refine Z_bj (M := mL_ranked) (pcB := 52) (¬ i = (j : Int) ∧ lah w π e x j i) (fun hj_52 => ?_) ?_
      · refine J_iload (M := mL_ranked) dL_ranked_26 rfl ?_
        refine J_iload (M := mL_ranked) dL_ranked_28 rfl ?_
        refine Z_ic_eq (M := mL_ranked) (tgt := 51) (by first | assumption | exact pI_rg _ | (unfold rg; omega)) (by first | assumption | exact pI_rg _ | (unfold rg; omega)) dL_ranked_30 (by decide) (fun c_30 => ?_) (fun c_30 => ?_)
        · refine Z_iconst (M := mL_ranked) dL_ranked_51 ?_
          exact hj_52 _ (pI_f (by first | exact And.intro (by omega) (by assumption) | exact fun z => by first | exact absurd z.2 (by assumption) | (have := z.1; omega))).symm
        · refine J_aload_n (M := mL_ranked) dL_ranked_33 rfl rfl ?_
          refine J_aload_n (M := mL_ranked) dL_ranked_34 rfl rfl ?_
          refine J_aload_n (M := mL_ranked) dL_ranked_35 rfl rfl ?_
          refine J_aload_n (M := mL_ranked) dL_ranked_36 rfl rfl ?_
          refine J_iload (M := mL_ranked) dL_ranked_37 rfl ?_
          refine J_iload (M := mL_ranked) dL_ranked_39 rfl ?_
          refine M_callS (M := mL_ranked) (as := [_, _, _, _, _, _]) dL_ranked_41 ca_L_39 ⟨by decide, by decide⟩ rfl (Nat.le_of_ble_eq_true rfl) rfl rfl (rL_isAhead hw hp he Bw Be hx Bx (by omega) (by omega)) ?_
          first
            | refine Z_pf (M := mL_ranked) (tgt := 51) dL_ranked_44 (by decide) (fun c_44 => ?_) (fun c_44 => ?_)
            | refine Z_if_eq (M := mL_ranked) (tgt := 51) (by first | assumption | exact pI_rg _ | (unfold rg; omega)) dL_ranked_44 (by decide) (fun c_44 => ?_) (fun c_44 => ?_)
          · refine Z_iconst (M := mL_ranked) dL_ranked_51 ?_
            exact hj_52 _ (pI_f (by first | exact And.intro (by omega) (by assumption) | exact fun z => by first | exact absurd z.2 (by assumption) | (have := z.1; omega))).symm
          · refine Z_iconst (M := mL_ranked) dL_ranked_47 ?_
            refine J_goto (M := mL_ranked) (tgt := 52) dL_ranked_48 (by decide) ?_
            exact hj_52 _ (pI_t (by first | exact And.intro (by omega) (by assumption) | exact fun z => by first | exact absurd z.2 (by assumption) | (have := z.1; omega))).symm
      refine Z_iadd (M := mL_ranked) dL_ranked_52 ?_
      refine J_istore (M := mL_ranked) dL_ranked_53 (by decide) ?_
      refine Z_iinc (M := mL_ranked) dL_ranked_55 rfl (by decide) ?_
      refine J_goto (M := mL_ranked) (tgt := 18) dL_ranked_58 (by decide) ?_
      exact J_sub kk2 (And.intro rfl (And.intro rfl (And.intro rfl (And.intro rfl (And.intro rfl (And.intro rfl (And.intro rfl (And.intro rfl (And.intro (vz (by push_cast; omega)) trivial)))))))))

set_option maxRecDepth 100000 in
set_option maxHeartbeats 4000000 in
theorem ranked_i {X : GX} {h : LH} {k n : Nat} {Q : LO → LH → Prop} {t u v y : Tg} {w e x : Int → Int} {π : Int → Int64} (hw : h t = some (cI 0 32 (arr w))) (hp : h u = some (cL 2 27 (arL π))) (he : h v = some (cI 0 9 (arr e))) (Bw : ∀ z, 0 ≤ w z ∧ w z ≤ 3) (Be : ∀ z, 0 ≤ e z ∧ e z ≤ 12) (hx : h y = some (cI 0 8 (arr x))) (Bx : ∀ z, -1 ≤ x z ∧ x z ≤ 3) {p : Int} (hp0 : rg p) : ∀ (m i : Nat), i + m = 4 → J X mL_ranked 83 [some (vR (some t)), some (vR (some u)), some (vR (some v)), some (vR (some y)), some (vI (iI p)), some (vI (iI (lrk w π e x p 4))), none, none, none] [] h k n Q → J X mL_ranked 6 [some (vR (some t)), some (vR (some u)), some (vR (some v)), some (vR (some y)), some (vI (iI p)), some (vI (iI (lrk w π e x p i))), some (vI (iI i)), none, none] [] h k n Q := by
  intro m
  induction m with
  | zero =>
    intro i hi kk
    have ei : i = 4 := by omega
    subst ei
    refine J_iload (M := mL_ranked) dL_ranked_6 rfl ?_
    refine Z_iconst (M := mL_ranked) dL_ranked_8 ?_
    refine Z_ic_ge (M := mL_ranked) (tgt := 83) (by first | assumption | exact pI_rg _ | (unfold rg; omega)) (by first | assumption | exact pI_rg _ | (unfold rg; omega)) dL_ranked_9 (by decide) (fun c_9 => ?_) (fun c_9 => ?_)
    · exact J_sub kk (And.intro rfl (And.intro rfl (And.intro rfl (And.intro rfl (And.intro rfl (And.intro rfl trivial))))))
    · omega
  | succ m ih =>
    intro i hi kk
    have kk2 := ih (i + 1) (by omega) kk
    have cr := lcn_rg (w := w) (π := π) (e := e) (x := x) (i := i) 4
    have en : lrk w π e x p (i + 1) = if lcn w π e x i 4 = p then (i : Int) else lrk w π e x p i := rfl
    rw [en] at kk2
    refine J_iload (M := mL_ranked) dL_ranked_6 rfl ?_
    refine Z_iconst (M := mL_ranked) dL_ranked_8 ?_
    refine Z_ic_ge (M := mL_ranked) (tgt := 83) (by first | assumption | exact pI_rg _ | (unfold rg; omega)) (by first | assumption | exact pI_rg _ | (unfold rg; omega)) dL_ranked_9 (by decide) (fun c_9 => ?_) (fun c_9 => ?_)
    · omega
    · refine Z_iconst (M := mL_ranked) dL_ranked_12 ?_
      refine J_istore (M := mL_ranked) dL_ranked_13 (by decide) ?_
      refine Z_iconst (M := mL_ranked) dL_ranked_15 ?_
      refine J_istore (M := mL_ranked) dL_ranked_16 (by decide) ?_
      refine J_sub (M := mL_ranked) (ranked_j (i := (i : Int)) hw hp he Bw Be hx Bx (by omega) 4 0 rfl ?_) (And.intro rfl (And.intro rfl (And.intro rfl (And.intro rfl (And.intro rfl (And.intro rfl (And.intro rfl (And.intro rfl (And.intro rfl trivial)))))))))
      refine Z_ij (M := mL_ranked) (pcB := 75) (if lcn w π e x i 4 = p then (i : Int) else lrk w π e x p i) (fun hj_75 => ?_) ?_
      · refine J_iload (M := mL_ranked) dL_ranked_61 rfl ?_
        refine J_iload (M := mL_ranked) dL_ranked_63 rfl ?_
        refine Z_ic_ne (M := mL_ranked) (tgt := 73) (by first | assumption | exact pI_rg _ | (unfold rg; omega)) (by first | assumption | exact pI_rg _ | (unfold rg; omega)) dL_ranked_65 (by decide) (fun c_65 => ?_) (fun c_65 => ?_)
        · refine J_iload (M := mL_ranked) dL_ranked_73 rfl ?_
          exact hj_75 _ (by first | rw [if_pos (by omega)] | rw [if_neg (by omega)])
        · refine J_iload (M := mL_ranked) dL_ranked_68 rfl ?_
          refine J_goto (M := mL_ranked) (tgt := 75) dL_ranked_70 (by decide) ?_
          exact hj_75 _ (by first | rw [if_pos (by omega)] | rw [if_neg (by omega)])
      refine J_istore (M := mL_ranked) dL_ranked_75 (by decide) ?_
      refine Z_iinc (M := mL_ranked) dL_ranked_77 rfl (by decide) ?_
      refine J_goto (M := mL_ranked) (tgt := 6) dL_ranked_80 (by decide) ?_
      exact J_sub kk2 (And.intro rfl (And.intro rfl (And.intro rfl (And.intro rfl (And.intro rfl (And.intro rfl (And.intro (vz (by push_cast; omega)) trivial)))))))
      

set_option maxRecDepth 100000 in
set_option maxHeartbeats 4000000 in
theorem rL_ranked {X : GX} {h : LH} {t u v y : Tg} {w e x : Int → Int} {π : Int → Int64} (hw : h t = some (cI 0 32 (arr w))) (hp : h u = some (cL 2 27 (arL π))) (he : h v = some (cI 0 9 (arr e))) (Bw : ∀ z, 0 ≤ w z ∧ w z ≤ 3) (Be : ∀ z, 0 ≤ e z ∧ e z ≤ 12) (hx : h y = some (cI 0 8 (arr x))) (Bx : ∀ z, -1 ≤ x z ∧ x z ≤ 3) {p : Int} (hp0 : rg p) : CT X mL_ranked [vR (some t), vR (some u), vR (some v), vR (some y), vI (iI p)] h (rQ (fun r h' => r = some (vI (iI (lrk w π e x p 4))) ∧ h' = h)) := by
  refine CT_of (by decide +kernel) rfl (Nat.le_of_ble_eq_true rfl) ?_
  refine Z_iconst (M := mL_ranked) dL_ranked_0 ?_
  refine J_istore (M := mL_ranked) dL_ranked_1 (by decide) ?_
  refine Z_iconst (M := mL_ranked) dL_ranked_3 ?_
  refine J_istore (M := mL_ranked) dL_ranked_4 (by decide) ?_
  refine J_sub (M := mL_ranked) (ranked_i hw hp he Bw Be hx Bx hp0 4 0 rfl ?_) (And.intro rfl (And.intro rfl (And.intro rfl (And.intro rfl (And.intro rfl (And.intro rfl (And.intro rfl trivial)))))))
  refine J_iload (M := mL_ranked) dL_ranked_83 rfl ?_
  refine J_iret (M := mL_ranked) dL_ranked_85 rfl ?_
  exact And.intro rfl rfl
  

