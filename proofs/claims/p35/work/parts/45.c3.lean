/-! THE CLASS: a phrase, judged; what is told to it -/
theorem ts_id {τ : TS} {k : Nat} {i : Int} : ts τ k i (τ k i) = τ := by
  funext k'
  by_cases h : k' = k
  · subst h
    rw [ts_s]
    funext z
    unfold upZ
    split
    · rename_i e; rw [e]
    · rfl
  · rw [ts_n h]
theorem mand_v {t : Int} (h : 0 ≤ t ∧ t ≤ 3) : mand t 1 = t % 2 ∧ mand t 2 = 2 * (t / 2) ∧ mand t 3 = t := by
  have q : t = 0 ∨ t = 1 ∨ t = 2 ∨ t = 3 := by omega
  rcases q with rfl | rfl | rfl | rfl <;> exact ⟨rfl, rfl, rfl⟩
theorem ior_v {a b : Int} (ha : a = 1 ∨ a = 2) (hb : b = 0 ∨ b = 3 - a) : iI a ||| iI b = iI (a + b) := by
  rcases ha with rfl | rfl <;> rcases hb with rfl | rfl <;> simp only [iI_d] <;> decide +kernel
/-- what the reference's judgement is, in the class's steps -/
theorem jd_0 {τ : TS} {f : Int} (hf : 0 ≤ f) (h : flv τ f = -1) : jd τ f = 0 := by
  by_cases e : (jl (τ 0 0) (τ 15) (8 * f) (τ 12 f).toNat).1 = -1
  · unfold jd jdF
    exact if_pos e
  · obtain ⟨l, a1, a2, a3, a4, a5⟩ := jl_at (f := 8 * f) (by omega) _ e
    unfold flv at h
    rw [if_neg e] at h
    omega
theorem jd_k {τ : TS} (W : WF τ) {f : Int} (hf : 0 ≤ f) (h : ¬ flv τ f = -1) : (0 ≤ flv τ f ∧ flv τ f < τ 12 f) ∧ τ 15 (8 * f + flv τ f) < 4 ∧ (jl (τ 0 0) (τ 15) (8 * f) (flv τ f).toNat).1 = -1 ∧ litF (τ 0 0) (τ 15) (8 * f + flv τ f) ∧ (olv τ f (flv τ f) = -1 ∨ (0 ≤ olv τ f (flv τ f) ∧ olv τ f (flv τ f) < τ 12 f ∧ cntF (τ 0 0) (τ 15) (8 * f + olv τ f (flv τ f)) (1 - τ 15 (8 * f + flv τ f) / 2))) ∧ jd τ f = (if olv τ f (flv τ f) = -1 then tov τ f (flv τ f) else if τ 0 0 = 0 then 3 else if rgv τ f (flv τ f) = -1 then 0 else tov τ f (if τ 15 (8 * f + flv τ f) / 2 = rgv τ f (flv τ f) then flv τ f else olv τ f (flv τ f))) := by
  have e : ¬ (jl (τ 0 0) (τ 15) (8 * f) (τ 12 f).toNat).1 = -1 := fun e => by unfold flv at h; rw [if_pos e] at h; exact h rfl
  have b12 := wf12 W f
  obtain ⟨l, a1, a2, a3, a4, a5⟩ := jl_at (f := 8 * f) (by omega) _ e
  have hl : flv τ f = (l : Int) := by unfold flv; rw [if_neg e, a2]; omega
  have b15 := wf15 W (8 * f + l)
  have hc := lit_c b15 a4
  have e5 : (jl (τ 0 0) (τ 15) (8 * f) (τ 12 f).toNat).2 = (jl (τ 0 0) (τ 15) (8 * f) l).2 := by
    rw [a5, jl_su a3]
    show (if 4 ≤ τ 15 (8 * f + (l : Int)) then _ else _ : Int) = _
    rw [if_neg (by omega)]
  have hrg := jl_in (F := τ 0 0) (c := τ 15) (f := 8 * f) (by omega) (wf15 W) l
  have b14 := wf14 W f
  rw [hl]
  have hj : jd τ f = if jsv τ f l (τ 12 f - l - 1).toNat = -1 ∨ lko τ < τ 16 (jsv τ f l (τ 12 f - l - 1).toNat) - τ 16 (8 * f + l) then (if τ 15 (8 * f + l) % 2 = 1 then τ 15 (8 * f + l) / 2 + 1 else 0) else if τ 0 0 = 0 then 3 else if ¬ rgv τ f l = -1 ∧ τ 15 (if rgv τ f l = τ 15 (8 * f + l) / 2 then 8 * f + l else jsv τ f l (τ 12 f - l - 1).toNat) % 2 = 1 then rgv τ f l + 1 else 0 := by
    have er : rgv τ f l = if τ 14 f = -2 then (jl (τ 0 0) (τ 15) (8 * f) (τ 12 f).toNat).2 else τ 14 f := by unfold rgv; rw [e5]; rfl
    have ez : 8 * f + τ 12 f - (8 * f + (l : Int)) - 1 = τ 12 f - l - 1 := by omega
    unfold jd jdF
    show (if (jl (τ 0 0) (τ 15) (8 * f) (τ 12 f).toNat).1 = -1 then (0 : Int) else _) = _
    rw [if_neg e, er, a2, ez]
    rfl
  have hjs := js_in (F := τ 0 0) (c := τ 15) (s := τ 15 (8 * f + l) / 2) (f := 8 * f + l) (by omega) (τ 12 f - l - 1).toNat
  have hS : jsv τ f l (τ 12 f - l - 1).toNat = js (τ 0 0) (τ 15) (τ 15 (8 * f + l) / 2) (8 * f + l) (τ 12 f - l - 1).toNat := rfl
  rw [← hS] at hjs
  have ho : olv τ f l = if jsv τ f l (τ 12 f - l - 1).toNat = -1 ∨ lko τ < τ 16 (jsv τ f l (τ 12 f - l - 1).toNat) - τ 16 (8 * f + l) then -1 else jsv τ f l (τ 12 f - l - 1).toNat - 8 * f := rfl
  have ht : tov τ f l = if τ 15 (8 * f + l) % 2 = 1 then τ 15 (8 * f + l) / 2 + 1 else 0 := by
    unfold tov
    split <;> split <;> first | rfl | omega
  refine ⟨by omega, hc, a3, a4, ?_, ?_⟩
  · rw [ho]
    generalize jsv τ f l (τ 12 f - l - 1).toNat = S at hjs
    split
    · exact Or.inl rfl
    · rename_i q
      right
      rcases hjs with r | ⟨r1, r2, r3⟩
      · exact absurd (Or.inl r) q
      · refine ⟨by omega, by omega, ?_⟩
        rw [show 8 * f + (S - 8 * f) = S by omega]
        exact r3
  · rw [hj, ho]
    generalize jsv τ f l (τ 12 f - l - 1).toNat = S at hjs
    have bS := wf15 W S
    have rr : -1 ≤ rgv τ f l ∧ rgv τ f l ≤ 1 := by
      unfold rgv
      rw [show ((l : Int)).toNat = l by omega]
      split <;> omega
    by_cases q : S = -1 ∨ lko τ < τ 16 S - τ 16 (8 * f + l)
    · rw [if_pos q, if_pos q, if_pos rfl, ht]
    · rw [if_neg q, if_neg q]
      rcases hjs with r | ⟨r1, r2, r3, r4⟩
      · exact absurd (Or.inl r) q
      · rw [if_neg (show ¬ S - 8 * f = -1 by omega)]
        by_cases q2 : τ 0 0 = 0
        · rw [if_pos q2, if_pos q2]
        · rw [if_neg q2, if_neg q2]
          by_cases q3 : rgv τ f l = -1
          · rw [if_pos q3, if_neg (fun z => z.1 q3)]
          · rw [if_neg q3]
            by_cases q4 : rgv τ f l = τ 15 (8 * f + l) / 2
            · rw [if_pos q4, if_pos q4.symm, ht]
              by_cases q5 : τ 15 (8 * f + l) % 2 = 1
              · rw [if_pos ⟨q3, q5⟩, if_pos q5, q4]
              · rw [if_neg (fun z => q5 z.2), if_neg q5]
            · rw [if_neg q4, if_neg (show ¬ τ 15 (8 * f + l) / 2 = rgv τ f l from fun z => q4 z.symm)]
              unfold tov
              rw [show 8 * f + (S - 8 * f) = S by omega]
              by_cases q5 : τ 15 S % 2 = 1
              · rw [if_pos ⟨q3, q5⟩, if_pos (by omega)]
                omega
              · rw [if_neg (fun z => q5 z.2), if_neg (by omega)]
set_option maxRecDepth 100000 in
set_option maxHeartbeats 4000000 in
theorem kX2_judge {X : GX} {h : LH} {ρ τ : TS} (W : WF τ) (V : WK ρ) {p f : Int} (P : PH ρ τ p f) (hf0 : 0 ≤ f) : CK X mX2_judge [vR (some (16, p))] h ρ (fun v r => v = some (vI (iI (jd τ f))) ∧ r = ρ) := by
  have b0 := wf0 W 0
  have b12 := wf12 W f
  obtain ⟨h1, h2, h3, h4, h5, h6, h7, h8, h9⟩ := id P
  have b14 := wf14 W f
  have bfl : -1 ≤ flv τ f ∧ flv τ f ≤ 8 := by
    by_cases q : flv τ f = -1
    · omega
    · have := (jd_k W hf0 q).1; omega
  have h14 : ∀ l : Int, (jl (τ 0 0) (τ 15) (8 * f) l.toNat).1 = -1 → -1 ≤ rgv τ f l ∧ rgv τ f l ≤ 1 := fun l _ => by
    have hrg := jl_in (F := τ 0 0) (c := τ 15) (f := 8 * f) (by omega) (wf15 W) l.toNat
    unfold rgv
    split <;> omega
  refine CT_of (by decide +kernel) rfl (Nat.le_of_ble_eq_true rfl) ?_
  refine J_aload_n (M := mX2_judge) dX2_judge_0 rfl rfl ?_
  refine J_callV (M := mX2_judge) (as := []) dX2_judge_1 ca_X2_53 ⟨by decide, by decide⟩ (hk_16 (by first | exact rfl | assumption | exact Or.inl (by assumption) | exact Or.inr rfl | (unfold CE; omega))) rfl (Nat.le_of_ble_eq_true rfl) (k' := 0) (n' := 0) (by decide) (by decide) (kX2_firstLight W V P hf0) (fun v_1 h_1 hv_1 => ?_)
  obtain ⟨r_1, rfl, hv_1⟩ := hv_1
  obtain ⟨rfl, e_1⟩ := hv_1
  rw [e_1]
  refine J_istore_n (M := mX2_judge) dX2_judge_4 rfl (by decide) ?_
  refine J_iload_n (M := mX2_judge) dX2_judge_5 rfl rfl ?_
  refine Z_iconst (M := mX2_judge) dX2_judge_6 ?_
  refine Z_ic_ne (M := mX2_judge) (tgt := 12) (by first | assumption | exact pI_rg _ | (unfold rg; omega)) (by first | assumption | exact pI_rg _ | (unfold rg; omega)) dX2_judge_7 (by decide) (fun c_7 => ?_) (fun c_7 => ?_)
  · obtain ⟨g1, g2, g3, g4, g5, g6⟩ := jd_k W hf0 c_7
    have g8 := wf15 W (8 * f + flv τ f)
    have g9 := wf15 W (8 * f + olv τ f (flv τ f))
    have g10 := h8 (flv τ f) g1.1 g1.2
    have g11 := kd_c g8
    have t0 : tov τ f (-1) = 0 := by unfold tov; rw [if_neg (by omega)]
    have t1 : tov τ f (flv τ f) = if τ 15 (8 * f + flv τ f) % 2 = 1 then τ 15 (8 * f + flv τ f) / 2 + 1 else 0 := by unfold tov; split <;> split <;> first | rfl | omega
    have t2 : 0 ≤ olv τ f (flv τ f) → tov τ f (olv τ f (flv τ f)) = if τ 15 (8 * f + olv τ f (flv τ f)) % 2 = 1 then τ 15 (8 * f + olv τ f (flv τ f)) / 2 + 1 else 0 := fun q => by unfold tov; split <;> split <;> first | rfl | omega
    have g12 := h14 (flv τ f)
    refine J_aload_n (M := mX2_judge) dX2_judge_12 rfl rfl ?_
    refine J_iload_n (M := mX2_judge) dX2_judge_13 rfl rfl ?_
    refine J_callV (M := mX2_judge) (as := [_]) dX2_judge_14 ca_X2_56 ⟨by decide, by decide⟩ (hk_16 (by first | exact rfl | assumption | exact Or.inl (by assumption) | exact Or.inr rfl | (unfold CE; omega))) rfl (Nat.le_of_ble_eq_true rfl) (k' := 0) (n' := 0) (by decide) (by decide) (kX2_otherLight W V P hf0 g1 g2) (fun v_14 h_14 hv_14 => ?_)
    obtain ⟨r_14, rfl, hv_14⟩ := hv_14
    obtain ⟨rfl, e_14⟩ := hv_14
    rw [e_14]
    refine J_istore_n (M := mX2_judge) dX2_judge_17 rfl (by decide) ?_
    refine J_aload_n (M := mX2_judge) dX2_judge_18 rfl rfl ?_
    refine J_getf (M := mX2_judge) dX2_judge_19 fi_X2_25 (hk_16 (by first | exact rfl | assumption | exact Or.inl (by assumption) | exact Or.inr rfl | (unfold CE; omega))) rfl ?_
    refine Z_wb (M := mX2_judge) (g := ρ 27) (wk27 V) rfl (fun wb_27_17 => ?_)
    first
      | refine Z_pt (M := mX2_judge) (tgt := 37) dX2_judge_22 (by decide) (fun c_22 => ?_) (fun c_22 => ?_)
      | refine Z_if_ne (M := mX2_judge) (tgt := 37) (by first | assumption | exact pI_rg _ | (unfold rg; omega)) dX2_judge_22 (by decide) (fun c_22 => ?_) (fun c_22 => ?_)
    · refine J_iload_n (M := mX2_judge) dX2_judge_37 rfl rfl ?_
      refine Z_iconst (M := mX2_judge) dX2_judge_38 ?_
      refine Z_ic_ne (M := mX2_judge) (tgt := 48) (by first | assumption | exact pI_rg _ | (unfold rg; omega)) (by first | assumption | exact pI_rg _ | (unfold rg; omega)) dX2_judge_39 (by decide) (fun c_39 => ?_) (fun c_39 => ?_)
      · refine J_aload_n (M := mX2_judge) dX2_judge_48 rfl rfl ?_
        refine J_iload_n (M := mX2_judge) dX2_judge_49 rfl rfl ?_
        refine J_callV (M := mX2_judge) (as := [_]) dX2_judge_50 ca_X2_63 ⟨by decide, by decide⟩ (hk_16 (by first | exact rfl | assumption | exact Or.inl (by assumption) | exact Or.inr rfl | (unfold CE; omega))) rfl (Nat.le_of_ble_eq_true rfl) (k' := 0) (n' := 0) (by decide) (by decide) (kX2_rightAt W V P g1 g3) (fun v_50 h_50 hv_50 => ?_)
        obtain ⟨r_50, rfl, hv_50⟩ := hv_50
        obtain ⟨rfl, e_50⟩ := hv_50
        rw [e_50]
        refine J_istore_n (M := mX2_judge) dX2_judge_53 rfl (by decide) ?_
        refine J_iload_n (M := mX2_judge) dX2_judge_54 rfl rfl ?_
        refine Z_iconst (M := mX2_judge) dX2_judge_55 ?_
        have g13 := g12 g3
        refine Z_ic_ne (M := mX2_judge) (tgt := 61) (by first | assumption | exact pI_rg _ | (unfold rg; omega)) (by first | assumption | exact pI_rg _ | (unfold rg; omega)) dX2_judge_56 (by decide) (fun c_56 => ?_) (fun c_56 => ?_)
        · refine J_aload_n (M := mX2_judge) dX2_judge_61 rfl rfl ?_
          refine J_aload_n (M := mX2_judge) dX2_judge_62 rfl rfl ?_
          refine J_getf (M := mX2_judge) dX2_judge_63 fi_X2_15 (hk_16 (by first | exact rfl | assumption | exact Or.inl (by assumption) | exact Or.inr rfl | (unfold CE; omega))) rfl ?_
          refine J_iload_n (M := mX2_judge) dX2_judge_66 rfl rfl ?_
          refine Z_iald (M := mX2_judge) dX2_judge_67 (hk_18 (by first | exact rfl | assumption | exact Or.inl (by assumption) | exact Or.inr rfl | (unfold CE; omega))) (by decide) (by omega) (by omega) ?_
          refine Z_eq (M := mX2_judge) (sub_at ⟨by omega, by omega⟩) ?_
          refine Z_wb (M := mX2_judge) (g := ρ 31) (wk31 V) rfl (fun wb_31_38 => ?_)
          refine J_iload_n (M := mX2_judge) dX2_judge_68 rfl rfl ?_
          refine Z_ic_ne (M := mX2_judge) (tgt := 76) (by first | assumption | exact pI_rg _ | (unfold rg; omega)) (by first | assumption | exact pI_rg _ | (unfold rg; omega)) dX2_judge_69 (by decide) (fun c_69 => ?_) (fun c_69 => ?_)
          · refine J_iload_n (M := mX2_judge) dX2_judge_76 rfl rfl ?_
            refine J_callV (M := mX2_judge) (as := [_]) dX2_judge_77 ca_X2_60 ⟨by decide, by decide⟩ (hk_16 (by first | exact rfl | assumption | exact Or.inl (by assumption) | exact Or.inr rfl | (unfold CE; omega))) rfl (Nat.le_of_ble_eq_true rfl) (k' := 0) (n' := 0) (by decide) (by decide) (kX2_touchOf W V P (by omega)) (fun v_77 h_77 hv_77 => ?_)
            obtain ⟨r_77, rfl, hv_77⟩ := hv_77
            obtain ⟨rfl, e_77⟩ := hv_77
            rw [e_77]
            refine K_iret dX2_judge_80 rfl ?_
            exact And.intro (by rw [g6, if_neg (by omega), if_neg (by omega), if_neg (by omega)]; first | rw [if_pos (by omega)] | rw [if_neg (by omega)]) rfl
          · refine J_iload_n (M := mX2_judge) dX2_judge_72 rfl rfl ?_
            refine J_goto (M := mX2_judge) (tgt := 77) dX2_judge_73 (by decide) ?_
            refine J_callV (M := mX2_judge) (as := [_]) dX2_judge_77 ca_X2_60 ⟨by decide, by decide⟩ (hk_16 (by first | exact rfl | assumption | exact Or.inl (by assumption) | exact Or.inr rfl | (unfold CE; omega))) rfl (Nat.le_of_ble_eq_true rfl) (k' := 0) (n' := 0) (by decide) (by decide) (kX2_touchOf W V P (by omega)) (fun v_77 h_77 hv_77 => ?_)
            obtain ⟨r_77, rfl, hv_77⟩ := hv_77
            obtain ⟨rfl, e_77⟩ := hv_77
            rw [e_77]
            refine K_iret dX2_judge_80 rfl ?_
            exact And.intro (by rw [g6, if_neg (by omega), if_neg (by omega), if_neg (by omega)]; first | rw [if_pos (by omega)] | rw [if_neg (by omega)]) rfl
        · refine Z_iconst (M := mX2_judge) dX2_judge_59 ?_
          refine K_iret dX2_judge_60 rfl ?_
          exact And.intro (by rw [g6, if_neg (by omega), if_neg (by omega), if_pos (by omega)]) rfl
      · refine J_aload_n (M := mX2_judge) dX2_judge_42 rfl rfl ?_
        refine J_iload_n (M := mX2_judge) dX2_judge_43 rfl rfl ?_
        refine J_callV (M := mX2_judge) (as := [_]) dX2_judge_44 ca_X2_60 ⟨by decide, by decide⟩ (hk_16 (by first | exact rfl | assumption | exact Or.inl (by assumption) | exact Or.inr rfl | (unfold CE; omega))) rfl (Nat.le_of_ble_eq_true rfl) (k' := 0) (n' := 0) (by decide) (by decide) (kX2_touchOf W V P (by omega)) (fun v_44 h_44 hv_44 => ?_)
        obtain ⟨r_44, rfl, hv_44⟩ := hv_44
        obtain ⟨rfl, e_44⟩ := hv_44
        rw [e_44]
        refine K_iret dX2_judge_47 rfl ?_
        exact And.intro (by rw [g6, if_pos (by omega)]) rfl
    · refine J_aload_n (M := mX2_judge) dX2_judge_25 rfl rfl ?_
      refine J_iload_n (M := mX2_judge) dX2_judge_26 rfl rfl ?_
      refine J_callV (M := mX2_judge) (as := [_]) dX2_judge_27 ca_X2_60 ⟨by decide, by decide⟩ (hk_16 (by first | exact rfl | assumption | exact Or.inl (by assumption) | exact Or.inr rfl | (unfold CE; omega))) rfl (Nat.le_of_ble_eq_true rfl) (k' := 0) (n' := 0) (by decide) (by decide) (kX2_touchOf W V P (by omega)) (fun v_27 h_27 hv_27 => ?_)
      obtain ⟨r_27, rfl, hv_27⟩ := hv_27
      obtain ⟨rfl, e_27⟩ := hv_27
      rw [e_27]
      refine J_aload_n (M := mX2_judge) dX2_judge_30 rfl rfl ?_
      refine J_iload_n (M := mX2_judge) dX2_judge_31 rfl rfl ?_
      refine J_callV (M := mX2_judge) (as := [_]) dX2_judge_32 ca_X2_60 ⟨by decide, by decide⟩ (hk_16 (by first | exact rfl | assumption | exact Or.inl (by assumption) | exact Or.inr rfl | (unfold CE; omega))) rfl (Nat.le_of_ble_eq_true rfl) (k' := 0) (n' := 0) (by decide) (by decide) (kX2_touchOf W V P (by omega)) (fun v_32 h_32 hv_32 => ?_)
      obtain ⟨r_32, rfl, hv_32⟩ := hv_32
      obtain ⟨rfl, e_32⟩ := hv_32
      rw [e_32]
      refine J_ior (M := mX2_judge) dX2_judge_35 ?_
      have g20 : tov τ f (flv τ f) = 1 ∨ tov τ f (flv τ f) = 2 := by rw [t1, if_pos (by omega)]; omega
      have g21 : tov τ f (olv τ f (flv τ f)) = 0 ∨ tov τ f (olv τ f (flv τ f)) = 3 - tov τ f (flv τ f) := by
        rcases g5 with q | ⟨q1, q2, q3⟩
        · rw [q, t0]; exact Or.inl rfl
        · right; rw [t1, if_pos (by omega), t2 q1, if_pos (by omega)]; omega
      refine J_eq (M := mX2_judge) (ior_v g20 g21) ?_
      refine K_iret dX2_judge_36 rfl ?_
      exact And.intro (by
        rw [g6]
        rcases g5 with q | ⟨q1, q2, q3⟩
        · rw [if_pos q, q, t0, Int.add_zero]
        · rw [if_neg (by omega), if_pos (by omega)]; congr 3; omega) rfl
  · refine Z_iconst (M := mX2_judge) dX2_judge_10 ?_
    refine K_iret dX2_judge_11 rfl ?_
    exact And.intro (by rw [jd_0 hf0 c_7]) rfl

set_option maxRecDepth 100000 in
set_option maxHeartbeats 4000000 in
theorem kX2_latestTime {X : GX} {h : LH} {ρ : TS} (V : WK ρ) {p : Int} (e : CE ρ 16 p) : CK X mX2_latestTime [vR (some (16, p))] h ρ (fun v r => v = some (vI (iI (if 0 < ρ 33 p then ρ 32 (8 * p + (ρ 33 p - 1)) else 0))) ∧ r = ρ) := by
  have b33 := wk33 V p
  refine CT_of (by decide +kernel) rfl (Nat.le_of_ble_eq_true rfl) ?_
  refine J_aload_n (M := mX2_latestTime) dX2_latestTime_0 rfl rfl ?_
  refine J_getf (M := mX2_latestTime) dX2_latestTime_1 fi_X2_36 (hk_16 (by first | exact rfl | assumption | exact Or.inl (by assumption) | exact Or.inr rfl | (unfold CE; omega))) rfl ?_
  refine Z_wb (M := mX2_latestTime) (g := ρ 33) (wk33 V) rfl (fun wb_33_2 => ?_)
  refine Z_if_le (M := mX2_latestTime) (tgt := 30) (by first | assumption | exact pI_rg _ | (unfold rg; omega)) dX2_latestTime_4 (by decide) (fun c_4 => ?_) (fun c_4 => ?_)
  · refine Z_iconst (M := mX2_latestTime) dX2_latestTime_30 ?_
    refine K_iret dX2_latestTime_31 rfl ?_
    first
      | exact And.intro (congrArg (fun z => some (vI (iI z))) (if_pos (by omega)).symm) rfl
      | exact And.intro (congrArg (fun z => some (vI (iI z))) (if_neg (by omega)).symm) rfl
  · refine J_aload_n (M := mX2_latestTime) dX2_latestTime_7 rfl rfl ?_
    refine J_getf (M := mX2_latestTime) dX2_latestTime_8 fi_X2_36 (hk_16 (by first | exact rfl | assumption | exact Or.inl (by assumption) | exact Or.inr rfl | (unfold CE; omega))) rfl ?_
    refine Z_wb (M := mX2_latestTime) (g := ρ 33) (wk33 V) rfl (fun wb_33_9 => ?_)
    refine Z_bipush (M := mX2_latestTime) dX2_latestTime_11 rfl ?_
    refine Z_ic_gt (M := mX2_latestTime) (tgt := 30) (by first | assumption | exact pI_rg _ | (unfold rg; omega)) (by first | assumption | exact pI_rg _ | (unfold rg; omega)) dX2_latestTime_13 (by decide) (fun c_13 => ?_) (fun c_13 => ?_)
    · refine Z_iconst (M := mX2_latestTime) dX2_latestTime_30 ?_
      refine K_iret dX2_latestTime_31 rfl ?_
      first
        | exact And.intro (congrArg (fun z => some (vI (iI z))) (if_pos (by omega)).symm) rfl
        | exact And.intro (congrArg (fun z => some (vI (iI z))) (if_neg (by omega)).symm) rfl
    · refine J_aload_n (M := mX2_latestTime) dX2_latestTime_16 rfl rfl ?_
      refine J_getf (M := mX2_latestTime) dX2_latestTime_17 fi_X2_18 (hk_16 (by first | exact rfl | assumption | exact Or.inl (by assumption) | exact Or.inr rfl | (unfold CE; omega))) rfl ?_
      refine J_aload_n (M := mX2_latestTime) dX2_latestTime_20 rfl rfl ?_
      refine J_getf (M := mX2_latestTime) dX2_latestTime_21 fi_X2_36 (hk_16 (by first | exact rfl | assumption | exact Or.inl (by assumption) | exact Or.inr rfl | (unfold CE; omega))) rfl ?_
      refine Z_wb (M := mX2_latestTime) (g := ρ 33) (wk33 V) rfl (fun wb_33_19 => ?_)
      refine Z_iconst (M := mX2_latestTime) dX2_latestTime_24 ?_
      refine Z_isub (M := mX2_latestTime) dX2_latestTime_25 ?_
      refine Z_iald (M := mX2_latestTime) dX2_latestTime_26 (hk_19 (by first | exact rfl | assumption | exact Or.inl (by assumption) | exact Or.inr rfl | (unfold CE; omega))) (by decide) (by omega) (by omega) ?_
      refine Z_eq (M := mX2_latestTime) (sub_at ⟨by omega, by omega⟩) ?_
      refine Z_wb (M := mX2_latestTime) (g := ρ 32) (wk32 V) rfl (fun wb_32_24 => ?_)
      refine J_goto (M := mX2_latestTime) (tgt := 31) dX2_latestTime_27 (by decide) ?_
      refine K_iret dX2_latestTime_31 rfl ?_
      first
        | exact And.intro (congrArg (fun z => some (vI (iI z))) (if_pos (by omega)).symm) rfl
        | exact And.intro (congrArg (fun z => some (vI (iI z))) (if_neg (by omega)).symm) rfl

set_option maxRecDepth 100000 in
set_option maxHeartbeats 4000000 in
theorem kX2_hear {X : GX} {h : LH} {ρ : TS} (V : WK ρ) {p x y z : Int} (e : CE ρ 16 p) (hn : ρ 33 p < 8) : CK X mX2_hear [vR (some (16, p)), vI (iI x), vI (iI y), vI (iI z)] h ρ (fun v r => v = none ∧ r = ts (ts (ts (ts ρ 30 (8 * p + ρ 33 p) x) 31 (8 * p + ρ 33 p) y) 32 (8 * p + ρ 33 p) z) 33 p (ρ 33 p + 1)) := by
  have b33 := wk33 V p
  refine CT_of (by decide +kernel) rfl (Nat.le_of_ble_eq_true rfl) ?_
  refine J_aload_n (M := mX2_hear) dX2_hear_0 rfl rfl ?_
  refine J_getf (M := mX2_hear) dX2_hear_1 fi_X2_36 (hk_16 (by first | exact rfl | assumption | exact Or.inl (by assumption) | exact Or.inr rfl | (unfold CE; omega))) rfl ?_
  refine Z_wb (M := mX2_hear) (g := ρ 33) (wk33 V) rfl (fun wb_33_2 => ?_)
  refine Z_if_lt (M := mX2_hear) (tgt := 14) (by first | assumption | exact pI_rg _ | (unfold rg; omega)) dX2_hear_4 (by decide) (fun c_4 => ?_) (fun c_4 => ?_)
  · omega
  · refine J_aload_n (M := mX2_hear) dX2_hear_7 rfl rfl ?_
    refine J_callV (M := mX2_hear) (as := []) dX2_hear_8 ca_X2_39 ⟨by decide, by decide⟩ (hk_16 (by first | exact rfl | assumption | exact Or.inl (by assumption) | exact Or.inr rfl | (unfold CE; omega))) rfl (Nat.le_of_ble_eq_true rfl) (k' := 0) (n' := 0) (by decide) (by decide) (kX2_isFull V e) (fun v_8 h_8 hv_8 => ?_)
    obtain ⟨r_8, rfl, hv_8⟩ := hv_8
    obtain ⟨rfl, e_8⟩ := hv_8
    rw [e_8]
    first
      | refine Z_pf (M := mX2_hear) (tgt := 15) dX2_hear_11 (by decide) (fun c_11 => ?_) (fun c_11 => ?_)
      | refine Z_if_eq (M := mX2_hear) (tgt := 15) (by first | assumption | exact pI_rg _ | (unfold rg; omega)) dX2_hear_11 (by decide) (fun c_11 => ?_) (fun c_11 => ?_)
    · refine J_aload_n (M := mX2_hear) dX2_hear_15 rfl rfl ?_
      refine J_getf (M := mX2_hear) dX2_hear_16 fi_X2_9 (hk_16 (by first | exact rfl | assumption | exact Or.inl (by assumption) | exact Or.inr rfl | (unfold CE; omega))) rfl ?_
      refine J_aload_n (M := mX2_hear) dX2_hear_19 rfl rfl ?_
      refine J_getf (M := mX2_hear) dX2_hear_20 fi_X2_36 (hk_16 (by first | exact rfl | assumption | exact Or.inl (by assumption) | exact Or.inr rfl | (unfold CE; omega))) rfl ?_
      refine Z_wb (M := mX2_hear) (g := ρ 33) (wk33 V) rfl (fun wb_33_14 => ?_)
      refine J_iload_n (M := mX2_hear) dX2_hear_23 rfl rfl ?_
      refine Z_iast (M := mX2_hear) dX2_hear_24 (hk_17 (by first | exact rfl | assumption | exact Or.inl (by assumption) | exact Or.inr rfl | (unfold CE; omega))) (by decide) (by omega) (by omega) ?_
      refine Z_h (M := mX2_hear) (hkp_30 (by first | exact rfl | assumption | exact Or.inl (by assumption) | exact Or.inr rfl | (unfold CE; omega)) ⟨by omega, by omega⟩) ?_
      refine J_aload_n (M := mX2_hear) dX2_hear_25 rfl rfl ?_
      refine J_getf (M := mX2_hear) dX2_hear_26 fi_X2_15 (hk_16 (by first | exact rfl | assumption | exact Or.inl (by assumption) | exact Or.inr rfl | (unfold CE; omega))) rfl ?_
      refine J_aload_n (M := mX2_hear) dX2_hear_29 rfl rfl ?_
      refine J_getf (M := mX2_hear) dX2_hear_30 fi_X2_36 (hk_16 (by first | exact rfl | assumption | exact Or.inl (by assumption) | exact Or.inr rfl | (unfold CE; omega))) rfl ?_
      refine Z_wb (M := mX2_hear) (g := ρ 33) (wk33 V) rfl (fun wb_33_22 => ?_)
      refine J_iload_n (M := mX2_hear) dX2_hear_33 rfl rfl ?_
      refine Z_iast (M := mX2_hear) dX2_hear_34 (hk_18 (by first | exact rfl | assumption | exact Or.inl (by assumption) | exact Or.inr rfl | (unfold CE; omega))) (by decide) (by omega) (by omega) ?_
      refine Z_h (M := mX2_hear) (hkp_31 (by first | exact rfl | assumption | exact Or.inl (by assumption) | exact Or.inr rfl | (unfold CE; omega)) ⟨by omega, by omega⟩) ?_
      refine J_aload_n (M := mX2_hear) dX2_hear_35 rfl rfl ?_
      refine J_getf (M := mX2_hear) dX2_hear_36 fi_X2_18 (hk_16 (by first | exact rfl | assumption | exact Or.inl (by assumption) | exact Or.inr rfl | (unfold CE; omega))) rfl ?_
      refine J_aload_n (M := mX2_hear) dX2_hear_39 rfl rfl ?_
      refine J_getf (M := mX2_hear) dX2_hear_40 fi_X2_36 (hk_16 (by first | exact rfl | assumption | exact Or.inl (by assumption) | exact Or.inr rfl | (unfold CE; omega))) rfl ?_
      refine Z_wb (M := mX2_hear) (g := ρ 33) (wk33 V) rfl (fun wb_33_30 => ?_)
      refine J_iload_n (M := mX2_hear) dX2_hear_43 rfl rfl ?_
      refine Z_iast (M := mX2_hear) dX2_hear_44 (hk_19 (by first | exact rfl | assumption | exact Or.inl (by assumption) | exact Or.inr rfl | (unfold CE; omega))) (by decide) (by omega) (by omega) ?_
      refine Z_h (M := mX2_hear) (hkp_32 (by first | exact rfl | assumption | exact Or.inl (by assumption) | exact Or.inr rfl | (unfold CE; omega)) ⟨by omega, by omega⟩) ?_
      refine J_aload_n (M := mX2_hear) dX2_hear_45 rfl rfl ?_
      refine J_dup (M := mX2_hear) dX2_hear_46 rfl ?_
      refine J_getf (M := mX2_hear) dX2_hear_47 fi_X2_36 (hk_16 (by first | exact rfl | assumption | exact Or.inl (by assumption) | exact Or.inr rfl | (unfold CE; omega))) rfl ?_
      refine Z_wb (M := mX2_hear) (g := ρ 33) (wk33 V) rfl (fun wb_33_37 => ?_)
      refine Z_iconst (M := mX2_hear) dX2_hear_50 ?_
      refine Z_iadd (M := mX2_hear) dX2_hear_51 ?_
      refine J_putI (M := mX2_hear) dX2_hear_52 fi_X2_36 (hk_16 (by first | exact rfl | assumption | exact Or.inl (by assumption) | exact Or.inr rfl | (unfold CE; omega))) (Nat.le_of_ble_eq_true rfl) ?_
      refine Z_h (M := mX2_hear) (hkp_33 (by first | exact rfl | assumption | exact Or.inl (by assumption) | exact Or.inr rfl | (unfold CE; omega))) ?_
      refine K_vret dX2_hear_55 rfl ?_
      exact And.intro rfl rfl
    · omega

theorem PH_tell {ρ τ : TS} {p f d : Int} (hd : -1 ≤ d ∧ d ≤ 1) (P : PH ρ τ p f) : PH (ts (ts ρ 34 p 1) 35 p d) (ts τ 14 f d) p f := by
  obtain ⟨h1, h2, h3, h4, h5, h6, h7, h8, h9⟩ := P
  have e1 : ts (ts ρ 34 p 1) 35 p d 34 p = 1 := by rw [tsN (by decide), ts_self]
  have e2 : ts (ts ρ 34 p 1) 35 p d 35 p = d := ts_self
  have e3 : ts τ 14 f d 14 f = d := ts_self
  refine ⟨h1, h2, h3, h4, h5, ?_, fun _ => by rw [e2, e3], h8, h9⟩
  rw [e1, e3]
  omega
set_option maxRecDepth 100000 in
set_option maxHeartbeats 4000000 in
theorem kX2_tellRight {X : GX} {h : LH} {ρ τ : TS} (W : WF τ) (V : WK ρ) {p f : Int} (P : PH ρ τ p f) (hf0 : 0 ≤ f) {d : Int} (hd : -1 ≤ d ∧ d ≤ 1) : CK X mX2_tellRight [vR (some (16, p)), vI (iI d)] h ρ (fun v r => v = none ∧ r = ts (ts (ts ρ 34 p 1) 35 p d) 36 p (jd (ts τ 14 f d) f)) := by
  obtain ⟨h1, h2, h3, h4, h5, h6, h7, h8, h9⟩ := id P
  refine CT_of (by decide +kernel) rfl (Nat.le_of_ble_eq_true rfl) ?_
  refine J_aload_n (M := mX2_tellRight) dX2_tellRight_0 rfl rfl ?_
  refine Z_iconst (M := mX2_tellRight) dX2_tellRight_1 ?_
  refine J_putZ (M := mX2_tellRight) dX2_tellRight_2 fi_X2_43 (by first | exact pI_zb _ | exact zb_of (Or.inl rfl) | exact zb_of (Or.inr rfl) | exact zb_of (by omega)) (hk_16 (by first | exact rfl | assumption | exact Or.inl (by assumption) | exact Or.inr rfl | (unfold CE; omega))) (Nat.le_of_ble_eq_true rfl) ?_
  refine Z_h (M := mX2_tellRight) (hkp_34 (by first | exact rfl | assumption | exact Or.inl (by assumption) | exact Or.inr rfl | (unfold CE; omega))) ?_
  refine J_aload_n (M := mX2_tellRight) dX2_tellRight_5 rfl rfl ?_
  refine J_iload_n (M := mX2_tellRight) dX2_tellRight_6 rfl rfl ?_
  refine J_putI (M := mX2_tellRight) dX2_tellRight_7 fi_X2_21 (hk_16 (by first | exact rfl | assumption | exact Or.inl (by assumption) | exact Or.inr rfl | (unfold CE; omega))) (Nat.le_of_ble_eq_true rfl) ?_
  refine Z_h (M := mX2_tellRight) (hkp_35 (by first | exact rfl | assumption | exact Or.inl (by assumption) | exact Or.inr rfl | (unfold CE; omega))) ?_
  refine J_aload_n (M := mX2_tellRight) dX2_tellRight_10 rfl rfl ?_
  refine J_aload_n (M := mX2_tellRight) dX2_tellRight_11 rfl rfl ?_
  refine J_callV (M := mX2_tellRight) (as := []) dX2_tellRight_12 ca_X2_46 ⟨by decide, by decide⟩ (hk_16 (by first | exact rfl | assumption | exact Or.inl (by assumption) | exact Or.inr rfl | (unfold CE; omega))) rfl (Nat.le_of_ble_eq_true rfl) (k' := 0) (n' := 0) (by decide) (by decide) (kX2_judge (WF_ts W (show (-2 : Int) ≤ _ ∧ _ ≤ (1 : Int) by omega)) (WK_ts (WK_ts V (show (0 : Int) ≤ _ ∧ _ ≤ (1 : Int) by omega)) (show (-1 : Int) ≤ _ ∧ _ ≤ (1 : Int) by omega)) (PH_tell hd P) hf0) (fun v_12 h_12 hv_12 => ?_)
  obtain ⟨r_12, rfl, hv_12⟩ := hv_12
  obtain ⟨rfl, e_12⟩ := hv_12
  rw [e_12]
  refine J_putI (M := mX2_tellRight) dX2_tellRight_15 fi_X2_50 (hk_16 (by first | exact rfl | assumption | exact Or.inl (by assumption) | exact Or.inr rfl | (unfold CE; omega))) (Nat.le_of_ble_eq_true rfl) ?_
  refine Z_h (M := mX2_tellRight) (hkp_36 (by first | exact rfl | assumption | exact Or.inl (by assumption) | exact Or.inr rfl | (unfold CE; omega))) ?_
  refine K_vret dX2_tellRight_18 rfl ?_
  exact And.intro rfl rfl

def fls (ρ : TS) (w q : Int) : Prop := (q = 0 ∧ ρ 15 w = 2) ∨ (¬ q = 0 ∧ ¬ ρ 16 w = 0)
noncomputable def wsv (ρ : TS) (p q t : Int) : Int := mand (mand t (2 + (1 - pI (fls ρ (ρ 28 p) q)))) (1 + 2 * (1 - pI (fls ρ (ρ 29 p) q)))
theorem fls_v {ρ : TS} (V : WK ρ) {w q : Int} (hq : q = 0 ∨ q = 1) : (if q = 0 then pI (ρ 15 w = 2) else ρ 16 w) = pI (fls ρ w q) := by
  have b := wk16 V w
  rcases hq with rfl | rfl
  · rw [if_pos rfl]
    exact pI_c ⟨fun e => Or.inl ⟨rfl, e⟩, fun e => e.elim (fun e => e.2) (fun e => absurd rfl e.1)⟩
  · rw [if_neg (by decide)]
    by_cases e : ρ 16 w = 0
    · rw [pI_f (show ¬ fls ρ w 1 from fun z => z.elim (fun z => absurd z.1 (by decide)) (fun z => z.2 e))]; exact e
    · rw [pI_t (show fls ρ w 1 from Or.inr ⟨by decide, e⟩)]; omega
theorem mand_in {a b : Int} (hb : 0 ≤ b ∧ b ≤ 3) : 0 ≤ mand a b ∧ mand a b ≤ 3 := by have := mand_rg (a := a) (b := b); omega
set_option maxRecDepth 100000 in
set_option maxHeartbeats 4000000 in
theorem kX2_withoutStruck {X : GX} {h : LH} {ρ : TS} (V : WK ρ) {p t q : Int} (e : CE ρ 16 p) (h28 : 0 ≤ ρ 28 p ∧ ρ 28 p < ρ 47 1) (h29 : 0 ≤ ρ 29 p ∧ ρ 29 p < ρ 47 1) (ht : 0 ≤ t ∧ t ≤ 3) (hq : q = 0 ∨ q = 1) : CK X mX2_withoutStruck [vR (some (16, p)), vI (iI t), vI (iI q)] h ρ (fun v r => v = some (vI (iI (wsv ρ p q t))) ∧ r = ρ) := by
  have mt := mand_v ht
  have mr : ∀ b : Int, 0 ≤ b ∧ b ≤ 3 → 0 ≤ mand t b ∧ mand t b ≤ 3 := fun b hb => mand_in hb
  have m2 := mr 2 (by omega)
  refine CT_of (by decide +kernel) rfl (Nat.le_of_ble_eq_true rfl) ?_
  refine J_iload_n (M := mX2_withoutStruck) dX2_withoutStruck_0 rfl rfl ?_
  refine J_istore_n (M := mX2_withoutStruck) dX2_withoutStruck_1 rfl (by decide) ?_
  refine J_aload_n (M := mX2_withoutStruck) dX2_withoutStruck_2 rfl rfl ?_
  refine J_getf (M := mX2_withoutStruck) dX2_withoutStruck_3 fi_X2_29 (hk_16 (by first | exact rfl | assumption | exact Or.inl (by assumption) | exact Or.inr rfl | (unfold CE; omega))) rfl ?_
  refine Z_rwb (M := mX2_withoutStruck) (g := ρ 28) (wk28 V) rfl (fun wb_28_4 => ?_)
  first | refine Z_some (M := mX2_withoutStruck) (by omega) ?_ | skip
  refine J_iload_n (M := mX2_withoutStruck) dX2_withoutStruck_6 rfl rfl ?_
  refine J_callV (M := mX2_withoutStruck) (as := [_]) dX2_withoutStruck_7 ca_X2_66 ⟨by decide, by decide⟩ (hk_12 (by first | exact rfl | assumption | exact Or.inl (by assumption) | exact Or.inr rfl | (unfold CE; omega))) rfl (Nat.le_of_ble_eq_true rfl) (k' := 0) (n' := 0) (by decide) (by decide) (kX6_isFalse V hq h28) (fun v_7 h_7 hv_7 => ?_)
  obtain ⟨r_7, rfl, hv_7⟩ := hv_7
  obtain ⟨rfl, e_7⟩ := hv_7
  rw [e_7]
  refine Z_eq (M := mX2_withoutStruck) (fls_v V hq) ?_
  first
    | refine Z_pf (M := mX2_withoutStruck) (tgt := 17) dX2_withoutStruck_10 (by decide) (fun c_10 => ?_) (fun c_10 => ?_)
    | refine Z_if_eq (M := mX2_withoutStruck) (tgt := 17) (by first | assumption | exact pI_rg _ | (unfold rg; omega)) dX2_withoutStruck_10 (by decide) (fun c_10 => ?_) (fun c_10 => ?_)
  · refine J_aload_n (M := mX2_withoutStruck) dX2_withoutStruck_17 rfl rfl ?_
    refine J_getf (M := mX2_withoutStruck) dX2_withoutStruck_18 fi_X2_33 (hk_16 (by first | exact rfl | assumption | exact Or.inl (by assumption) | exact Or.inr rfl | (unfold CE; omega))) rfl ?_
    refine Z_rwb (M := mX2_withoutStruck) (g := ρ 29) (wk29 V) rfl (fun wb_29_14 => ?_)
    first | refine Z_some (M := mX2_withoutStruck) (by omega) ?_ | skip
    refine J_iload_n (M := mX2_withoutStruck) dX2_withoutStruck_21 rfl rfl ?_
    refine J_callV (M := mX2_withoutStruck) (as := [_]) dX2_withoutStruck_22 ca_X2_66 ⟨by decide, by decide⟩ (hk_12 (by first | exact rfl | assumption | exact Or.inl (by assumption) | exact Or.inr rfl | (unfold CE; omega))) rfl (Nat.le_of_ble_eq_true rfl) (k' := 0) (n' := 0) (by decide) (by decide) (kX6_isFalse V hq h29) (fun v_22 h_22 hv_22 => ?_)
    obtain ⟨r_22, rfl, hv_22⟩ := hv_22
    obtain ⟨rfl, e_22⟩ := hv_22
    rw [e_22]
    refine Z_eq (M := mX2_withoutStruck) (fls_v V hq) ?_
    first
      | refine Z_pf (M := mX2_withoutStruck) (tgt := 32) dX2_withoutStruck_25 (by decide) (fun c_25 => ?_) (fun c_25 => ?_)
      | refine Z_if_eq (M := mX2_withoutStruck) (tgt := 32) (by first | assumption | exact pI_rg _ | (unfold rg; omega)) dX2_withoutStruck_25 (by decide) (fun c_25 => ?_) (fun c_25 => ?_)
    · refine J_iload_n (M := mX2_withoutStruck) dX2_withoutStruck_32 rfl rfl ?_
      refine K_iret dX2_withoutStruck_33 rfl ?_
      exact And.intro (by
        unfold wsv
        first | rw [pI_t c_10] | rw [pI_f c_10]
        first | rw [pI_t c_25] | rw [pI_f c_25]
        first
          | rfl
          | (show _ = some (vI (iI (mand (mand t 2) 3))); rw [(mand_v m2).2.2])
          | (show _ = some (vI (iI (mand (mand t 3) 1))); rw [mt.2.2])
          | (show _ = some (vI (iI (mand (mand t 3) 3))); rw [mt.2.2, mt.2.2])) rfl
    · refine J_iload_n (M := mX2_withoutStruck) dX2_withoutStruck_28 rfl rfl ?_
      refine Z_iconst (M := mX2_withoutStruck) dX2_withoutStruck_29 ?_
      refine J_iand (M := mX2_withoutStruck) dX2_withoutStruck_30 ?_
      refine J_eq (M := mX2_withoutStruck) (iI_and (by omega) (by omega)) ?_
      refine J_istore_n (M := mX2_withoutStruck) dX2_withoutStruck_31 rfl (by decide) ?_
      refine J_iload_n (M := mX2_withoutStruck) dX2_withoutStruck_32 rfl rfl ?_
      refine K_iret dX2_withoutStruck_33 rfl ?_
      exact And.intro (by
        unfold wsv
        first | rw [pI_t c_10] | rw [pI_f c_10]
        first | rw [pI_t c_25] | rw [pI_f c_25]
        first
          | rfl
          | (show _ = some (vI (iI (mand (mand t 2) 3))); rw [(mand_v m2).2.2])
          | (show _ = some (vI (iI (mand (mand t 3) 1))); rw [mt.2.2])
          | (show _ = some (vI (iI (mand (mand t 3) 3))); rw [mt.2.2, mt.2.2])) rfl
  · refine J_iload_n (M := mX2_withoutStruck) dX2_withoutStruck_13 rfl rfl ?_
    refine Z_iconst (M := mX2_withoutStruck) dX2_withoutStruck_14 ?_
    refine J_iand (M := mX2_withoutStruck) dX2_withoutStruck_15 ?_
    refine J_eq (M := mX2_withoutStruck) (iI_and (by omega) (by omega)) ?_
    refine J_istore_n (M := mX2_withoutStruck) dX2_withoutStruck_16 rfl (by decide) ?_
    refine J_aload_n (M := mX2_withoutStruck) dX2_withoutStruck_17 rfl rfl ?_
    refine J_getf (M := mX2_withoutStruck) dX2_withoutStruck_18 fi_X2_33 (hk_16 (by first | exact rfl | assumption | exact Or.inl (by assumption) | exact Or.inr rfl | (unfold CE; omega))) rfl ?_
    refine Z_rwb (M := mX2_withoutStruck) (g := ρ 29) (wk29 V) rfl (fun wb_29_38 => ?_)
    first | refine Z_some (M := mX2_withoutStruck) (by omega) ?_ | skip
    refine J_iload_n (M := mX2_withoutStruck) dX2_withoutStruck_21 rfl rfl ?_
    refine J_callV (M := mX2_withoutStruck) (as := [_]) dX2_withoutStruck_22 ca_X2_66 ⟨by decide, by decide⟩ (hk_12 (by first | exact rfl | assumption | exact Or.inl (by assumption) | exact Or.inr rfl | (unfold CE; omega))) rfl (Nat.le_of_ble_eq_true rfl) (k' := 0) (n' := 0) (by decide) (by decide) (kX6_isFalse V hq h29) (fun v_22 h_22 hv_22 => ?_)
    obtain ⟨r_22, rfl, hv_22⟩ := hv_22
    obtain ⟨rfl, e_22⟩ := hv_22
    rw [e_22]
    refine Z_eq (M := mX2_withoutStruck) (fls_v V hq) ?_
    first
      | refine Z_pf (M := mX2_withoutStruck) (tgt := 32) dX2_withoutStruck_25 (by decide) (fun c_25 => ?_) (fun c_25 => ?_)
      | refine Z_if_eq (M := mX2_withoutStruck) (tgt := 32) (by first | assumption | exact pI_rg _ | (unfold rg; omega)) dX2_withoutStruck_25 (by decide) (fun c_25 => ?_) (fun c_25 => ?_)
    · refine J_iload_n (M := mX2_withoutStruck) dX2_withoutStruck_32 rfl rfl ?_
      refine K_iret dX2_withoutStruck_33 rfl ?_
      exact And.intro (by
        unfold wsv
        first | rw [pI_t c_10] | rw [pI_f c_10]
        first | rw [pI_t c_25] | rw [pI_f c_25]
        first
          | rfl
          | (show _ = some (vI (iI (mand (mand t 2) 3))); rw [(mand_v m2).2.2])
          | (show _ = some (vI (iI (mand (mand t 3) 1))); rw [mt.2.2])
          | (show _ = some (vI (iI (mand (mand t 3) 3))); rw [mt.2.2, mt.2.2])) rfl
    · refine J_iload_n (M := mX2_withoutStruck) dX2_withoutStruck_28 rfl rfl ?_
      refine Z_iconst (M := mX2_withoutStruck) dX2_withoutStruck_29 ?_
      refine J_iand (M := mX2_withoutStruck) dX2_withoutStruck_30 ?_
      refine J_eq (M := mX2_withoutStruck) (iI_and (by omega) (by omega)) ?_
      refine J_istore_n (M := mX2_withoutStruck) dX2_withoutStruck_31 rfl (by decide) ?_
      refine J_iload_n (M := mX2_withoutStruck) dX2_withoutStruck_32 rfl rfl ?_
      refine K_iret dX2_withoutStruck_33 rfl ?_
      exact And.intro (by
        unfold wsv
        first | rw [pI_t c_10] | rw [pI_f c_10]
        first | rw [pI_t c_25] | rw [pI_f c_25]
        first
          | rfl
          | (show _ = some (vI (iI (mand (mand t 2) 3))); rw [(mand_v m2).2.2])
          | (show _ = some (vI (iI (mand (mand t 3) 1))); rw [mt.2.2])
          | (show _ = some (vI (iI (mand (mand t 3) 3))); rw [mt.2.2, mt.2.2])) rfl
