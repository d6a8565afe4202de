/-! THE REFERENCE: what follows for the nodes -/
def clr (τ : TS) (i : Int) : TS := fun k' => if k' = 23 then (fun z => if 1 ≤ z ∧ z < i then 0 else τ 23 z) else τ k'
theorem clr_1 {τ : TS} : clr τ 1 = τ := by
  funext k' z
  unfold clr
  by_cases h : k' = 23
  · subst h
    rw [if_pos rfl, if_neg (by omega)]
  · rw [if_neg h]
theorem clr_s {τ : TS} {i : Int} (hi : 1 ≤ i) : ts (clr τ i) 23 i 0 = clr τ (i + 1) := by
  funext k'
  by_cases h : k' = 23
  · subst h
    rw [ts_s]
    funext z
    show (if z = i then 0 else if 1 ≤ z ∧ z < i then 0 else τ 23 z) = (if 1 ≤ z ∧ z < i + 1 then 0 else τ 23 z)
    by_cases e : z = i
    · rw [if_pos e, if_pos (by omega)]
    · rw [if_neg e]
      by_cases e2 : 1 ≤ z ∧ z < i
      · rw [if_pos e2, if_pos (by omega)]
      · rw [if_neg e2, if_neg (by omega)]
  · rw [ts_n h]
    unfold clr
    rw [if_neg h, if_neg h]
theorem WF_clr {τ : TS} (W : WF τ) (i : Int) : WF (clr τ i) := by
  intro k z h1 h2
  unfold clr
  by_cases h : k = 23
  · subst h
    rw [if_pos rfl]
    show (0 : Int) ≤ _ ∧ _ ≤ (1 : Int)
    have := wf23 W z
    split <;> omega
  · rw [if_neg h]; exact W k z h1 h2
/-- a bout is gone, if what it rests on has changed -/
def frst (τ : TS) (k : Int) : TS := if ¬ τ 23 (2 * k) = 0 ∨ ¬ τ 23 (2 * k + 1) = 0 then ts (ts (ts (ts (ts τ 24 0 (τ 24 0 + (if 0 < τ 10 (66 + k) then 1 else 0))) 10 (66 + k) 0) 11 (2 * (66 + k)) 0) 11 (2 * (66 + k) + 1) 0) 17 0 (if τ 17 0 = 100 + k then -1 else τ 17 0) else τ
def fnow (l r w : Int) : Int := if 0 ≤ l ∧ 0 ≤ r then (if w = -1 then -1 else if w = 0 then l else r) else if l = -2 then r else if r = -2 then l else -1
def ftel (τ : TS) (k : Int) : TS := if 0 ≤ τ 22 (2 * k) ∧ 0 ≤ τ 22 (2 * k + 1) then t3 τ (te τ (66 + k)) else τ
def fwin (τ : TS) (k : Int) : Int := fnow (τ 22 (2 * k)) (τ 22 (2 * k + 1)) (te τ (66 + k)).2.2
def fstep (τ : TS) (k : Int) : TS := ts (ts (ftel (frst τ k) k) 23 k (if 0 ≤ τ 22 k ∧ ¬ τ 22 k = fwin (frst τ k) k then 1 else 0)) 22 k (fwin (frst τ k) k)
def folG (τ : TS) (sz : Int) : Nat → TS
  | 0 => τ
  | i + 1 => fstep (folG τ sz i) (sz - 1 - i)
def fol (τ : TS) : TS := folG (clr τ 32) (τ 21 0) (τ 21 0 - 1).toNat
theorem frst_22 {τ : TS} {k : Int} : frst τ k 22 = τ 22 := by unfold frst; split <;> rfl
theorem ftel_22 {τ : TS} {k : Int} : ftel τ k 22 = τ 22 := by unfold ftel; split <;> rfl
theorem WF_frst {τ : TS} (W : WF τ) (k : Int) : WF (frst τ k) := by
  have b := wf17 W 0
  unfold frst
  split
  · refine WF_ts (WF_ts (WF_ts (WF_ts (WF_24 W) (by decide)) (by decide)) (by decide)) ?_
    show (-1 : Int) ≤ _ ∧ _ ≤ (115 : Int)
    split <;> omega
  · exact W
theorem WF_ftel {τ : TS} (W : WF τ) (k : Int) : WF (ftel τ k) := by
  unfold ftel
  split
  · exact WF_t3 W (te_rg W _)
  · exact W
theorem fnow_rg {l r w : Int} (hl : -2 ≤ l ∧ l ≤ 11) (hr : -2 ≤ r ∧ r ≤ 11) : -2 ≤ fnow l r w ∧ fnow l r w ≤ 11 := by
  unfold fnow
  split
  · split
    · omega
    · split <;> omega
  · split
    · omega
    · split <;> omega
theorem WF_fstep {τ : TS} (W : WF τ) (k : Int) : WF (fstep τ k) := by
  have h := fnow_rg (w := (te (frst τ k) (66 + k)).2.2) (wf22 (WF_frst W k) (2 * k)) (wf22 (WF_frst W k) (2 * k + 1))
  unfold fstep
  refine WF_ts (WF_ts (WF_ftel (WF_frst W k) k) ?_) h
  show (0 : Int) ≤ _ ∧ _ ≤ (1 : Int)
  split <;> omega
theorem WF_folG {τ : TS} (W : WF τ) (sz : Int) : ∀ i, WF (folG τ sz i)
  | 0 => W
  | i + 1 => WF_fstep (WF_folG W sz i) _
theorem WF_fol {τ : TS} (W : WF τ) : WF (fol τ) := WF_folG (WF_clr W 32) _ _
set_option maxRecDepth 100000 in
set_option maxHeartbeats 4000000 in
theorem follows_l1 {X : GX} {h : LH} {τ : TS} {k n : Nat} {Q : LO → LH → Prop} (W : WF τ) : ∀ (m : Nat) (i : Int), 1 ≤ i → i + m = 32 → J X mX8_follows 21 [some (vR (some (20, 0))), none, none, none, none, none] [] (hm h (clr τ 32)) k n Q → J X mX8_follows 2 [some (vR (some (20, 0))), some (vI (iI i)), none, none, none, none] [] (hm h (clr τ i)) k n Q := by
  intro m
  induction m with
  | zero =>
    intro i h1 hi kk
    have ei : i = 32 := by omega
    subst ei
    refine J_iload_n (M := mX8_follows) dX8_follows_2 rfl rfl ?_
    refine Z_bipush (M := mX8_follows) dX8_follows_3 rfl ?_
    refine Z_ic_ge (M := mX8_follows) (tgt := 21) (by first | assumption | exact pI_rg _ | (unfold rg; omega)) (by first | assumption | exact pI_rg _ | (unfold rg; omega)) dX8_follows_5 (by decide) (fun c_5 => ?_) (fun c_5 => ?_)
    · exact J_sub kk (And.intro rfl trivial)
    · omega
  | succ m ih =>
    intro i h1 hi kk
    refine J_iload_n (M := mX8_follows) dX8_follows_2 rfl rfl ?_
    refine Z_bipush (M := mX8_follows) dX8_follows_3 rfl ?_
    refine Z_ic_ge (M := mX8_follows) (tgt := 21) (by first | assumption | exact pI_rg _ | (unfold rg; omega)) (by first | assumption | exact pI_rg _ | (unfold rg; omega)) dX8_follows_5 (by decide) (fun c_5 => ?_) (fun c_5 => ?_)
    · omega
    · refine J_aload_n (M := mX8_follows) dX8_follows_8 rfl rfl ?_
      refine M_get (M := mX8_follows) (v := vR (some (63, 0))) dX8_follows_9 fi_X8_57 rfl ?_
      refine J_iload_n (M := mX8_follows) dX8_follows_12 rfl rfl ?_
      refine Z_iconst (M := mX8_follows) dX8_follows_13 ?_
      refine M_zast (M := mX8_follows) (kf := 23) (N := 32) dX8_follows_14 (by first | exact pI_01 _ | exact Or.inl rfl | exact Or.inr rfl | omega) rfl rfl rfl rfl (by decide) (by decide) (by omega) (by omega) ?_
      refine Z_iinc (M := mX8_follows) dX8_follows_15 rfl (by decide) ?_
      refine J_goto (M := mX8_follows) (tgt := 2) dX8_follows_18 (by decide) ?_
      rw [clr_s h1]
      exact J_sub (ih (i + 1) (by omega) (by omega) kk) (And.intro rfl (And.intro rfl trivial))

set_option maxRecDepth 100000 in
set_option maxHeartbeats 4000000 in
theorem follows_s {X : GX} {h : LH} {τ : TS} {k n : Nat} {Q : LO → LH → Prop} (W : WF τ) {k1 : Int} (h1 : 1 ≤ k1) (h2 : k1 ≤ 15) (kk : J X mX8_follows 28 [some (vR (some (20, 0))), some (vI (iI (k1 - 1))), none, none, none, none] [] (hm h (fstep τ k1)) k n Q) : J X mX8_follows 33 [some (vR (some (20, 0))), some (vI (iI k1)), none, none, none, none] [] (hm h τ) k n Q := by
  have b1 := wf23 W (2 * k1)
  have b2 := wf23 W (2 * k1 + 1)
  unfold fstep at kk
  have hj135 : ∀ τ1 : TS, τ1 = frst τ k1 → J X mX8_follows 135 [some (vR (some (20, 0))), some (vI (iI k1)), some (vI (iI (66 + k1))), none, none, none] [] (hm h τ1) k n Q := by
    intro τ1 hτ1
    have W1 : WF τ1 := by rw [hτ1]; exact WF_frst W k1
    obtain ⟨l, hl⟩ : ∃ l : Int, l = τ1 22 (2 * k1) := ⟨_, rfl⟩
    obtain ⟨r, hr⟩ : ∃ r : Int, r = τ1 22 (2 * k1 + 1) := ⟨_, rfl⟩
    have bl := wf22 W1 (2 * k1)
    have br := wf22 W1 (2 * k1 + 1)
    have bt := te_rg W1 (66 + k1)
    rw [← hl] at bl
    rw [← hr] at br
    have hj222 : ∀ (τ2 : TS) (nw : Int), τ2 = ftel τ1 k1 → nw = fwin τ1 k1 → J X mX8_follows 222 [some (vR (some (20, 0))), some (vI (iI k1)), some (vI (iI (66 + k1))), some (vI (iI l)), some (vI (iI r)), some (vI (iI nw))] [] (hm h τ2) k n Q := by
      intro τ2 nw hτ2 hnw
      have e22 : τ2 22 k1 = τ 22 k1 := by rw [hτ2, ftel_22, hτ1, frst_22]
      have bw := wf22 W k1
      have hnr : -2 ≤ nw ∧ nw ≤ 11 := by rw [hnw]; exact fnow_rg (wf22 W1 _) (wf22 W1 _)
      have hj252 : ∀ z : Int, z = (if 0 ≤ τ 22 k1 ∧ ¬ τ 22 k1 = nw then 1 else 0) → J X mX8_follows 252 [some (vR (some (20, 0))), some (vI (iI k1)), some (vI (iI (66 + k1))), some (vI (iI l)), some (vI (iI r)), some (vI (iI nw))] [vI (iI z), vI (iI k1), vR (some (63, 0))] (hm h τ2) k n Q := by
        intro z hz
        have hz01 : z = 0 ∨ z = 1 := by
          rw [hz]; split
          · exact Or.inr rfl
          · exact Or.inl rfl
        refine M_zast (M := mX8_follows) (kf := 23) (N := 32) dX8_follows_252 hz01 rfl rfl rfl rfl (by decide) (by decide) (by omega) (by omega) ?_
        refine J_aload_n (M := mX8_follows) dX8_follows_253 rfl rfl ?_
        refine M_get (M := mX8_follows) (v := vR (some (62, 0))) dX8_follows_254 fi_X8_54 rfl ?_
        refine J_iload_n (M := mX8_follows) dX8_follows_257 rfl rfl ?_
        refine J_iload (M := mX8_follows) dX8_follows_258 rfl ?_
        refine M_iast (M := mX8_follows) (kf := 22) (N := 32) dX8_follows_260 rfl rfl rfl rfl (by decide) (by decide) (by omega) (by omega) ?_
        refine Z_iinc (M := mX8_follows) dX8_follows_261 rfl (by decide) ?_
        refine J_goto (M := mX8_follows) (tgt := 28) dX8_follows_264 (by decide) ?_
        rw [hz, hτ2, hnw, hτ1]
        exact J_sub kk (And.intro rfl (And.intro (vz (by omega)) trivial))
      refine J_aload_n (M := mX8_follows) dX8_follows_222 rfl rfl ?_
      refine M_get (M := mX8_follows) (v := vR (some (63, 0))) dX8_follows_223 fi_X8_57 rfl ?_
      refine J_iload_n (M := mX8_follows) dX8_follows_226 rfl rfl ?_
      refine J_aload_n (M := mX8_follows) dX8_follows_227 rfl rfl ?_
      refine M_get (M := mX8_follows) (v := vR (some (62, 0))) dX8_follows_228 fi_X8_54 rfl ?_
      refine J_iload_n (M := mX8_follows) dX8_follows_231 rfl rfl ?_
      refine M_iald (M := mX8_follows) (kf := 22) (N := 32) dX8_follows_232 rfl (by decide) (by omega) (by omega) ?_
      refine Z_eq (M := mX8_follows) e22 ?_
      refine Z_if_lt (M := mX8_follows) (tgt := 251) (by first | assumption | exact pI_rg _ | (unfold rg; omega)) dX8_follows_233 (by decide) (fun c_233 => ?_) (fun c_233 => ?_)
      · refine Z_iconst (M := mX8_follows) dX8_follows_251 ?_
        first
          | exact hj252 _ (by rw [if_pos (And.intro (by assumption) (by assumption))])
          | exact hj252 _ (by rw [if_neg (by omega)])
      · refine J_aload_n (M := mX8_follows) dX8_follows_236 rfl rfl ?_
        refine M_get (M := mX8_follows) (v := vR (some (62, 0))) dX8_follows_237 fi_X8_54 rfl ?_
        refine J_iload_n (M := mX8_follows) dX8_follows_240 rfl rfl ?_
        refine M_iald (M := mX8_follows) (kf := 22) (N := 32) dX8_follows_241 rfl (by decide) (by omega) (by omega) ?_
        refine Z_eq (M := mX8_follows) e22 ?_
        refine J_iload (M := mX8_follows) dX8_follows_242 rfl ?_
        refine Z_ic_eq (M := mX8_follows) (tgt := 251) (by first | assumption | exact pI_rg _ | (unfold rg; omega)) (by first | assumption | exact pI_rg _ | (unfold rg; omega)) dX8_follows_244 (by decide) (fun c_244 => ?_) (fun c_244 => ?_)
        · refine Z_iconst (M := mX8_follows) dX8_follows_251 ?_
          first
            | exact hj252 _ (by rw [if_pos (And.intro (by assumption) (by assumption))])
            | exact hj252 _ (by rw [if_neg (by omega)])
        · refine Z_iconst (M := mX8_follows) dX8_follows_247 ?_
          refine J_goto (M := mX8_follows) (tgt := 252) dX8_follows_248 (by decide) ?_
          first
            | exact hj252 _ (by rw [if_pos (And.intro (by assumption) (by assumption))])
            | exact hj252 _ (by rw [if_neg (by omega)])
    have hj179 : ∀ z : Int, z = (if l = -2 then r else if r = -2 then l else -1) → J X mX8_follows 179 [some (vR (some (20, 0))), some (vI (iI k1)), some (vI (iI (66 + k1))), some (vI (iI l)), some (vI (iI r)), none] [vI (iI z)] (hm h τ1) k n Q := by
      intro z hz
      refine J_istore (M := mX8_follows) dX8_follows_179 (by decide) ?_
      refine J_iload_n (M := mX8_follows) dX8_follows_181 rfl rfl ?_
      refine Z_if_lt (M := mX8_follows) (tgt := 222) (by first | assumption | exact pI_rg _ | (unfold rg; omega)) dX8_follows_182 (by decide) (fun c_182 => ?_) (fun c_182 => ?_)
      · exact hj222 _ _ (by unfold ftel; rw [if_neg (by omega)]) (by unfold fwin fnow; rw [← hl, ← hr, if_neg (by omega)]; exact hz)
      · refine J_iload (M := mX8_follows) dX8_follows_185 rfl ?_
        refine Z_if_lt (M := mX8_follows) (tgt := 222) (by first | assumption | exact pI_rg _ | (unfold rg; omega)) dX8_follows_187 (by decide) (fun c_187 => ?_) (fun c_187 => ?_)
        · exact hj222 _ _ (by unfold ftel; rw [if_neg (by omega)]) (by unfold fwin fnow; rw [← hl, ← hr, if_neg (by omega)]; exact hz)
        · refine J_aload_n (M := mX8_follows) dX8_follows_190 rfl rfl ?_
          refine J_iload_n (M := mX8_follows) dX8_follows_191 rfl rfl ?_
          refine M_call (M := mX8_follows) (as := [_]) dX8_follows_192 ca_X8_145 ⟨by decide, by decide⟩ rfl (Nat.le_of_ble_eq_true rfl) rfl rfl (c_tells W1 (by omega) (by omega)) (fun v_192 t_192 hv_192 => ?_)
          obtain ⟨rfl, e_192⟩ := hv_192
          rw [e_192]
          refine J_aload_n (M := mX8_follows) dX8_follows_195 rfl rfl ?_
          refine M_get (M := mX8_follows) dX8_follows_196 fi_X8_135 rfl ?_
          rw [t3_at27]
          refine Z_iconst (M := mX8_follows) dX8_follows_199 ?_
          refine Z_ic_ne (M := mX8_follows) (tgt := 207) (by first | assumption | exact pI_rg _ | (unfold rg; omega)) (by first | assumption | exact pI_rg _ | (unfold rg; omega)) dX8_follows_200 (by decide) (fun c_200 => ?_) (fun c_200 => ?_)
          · refine J_aload_n (M := mX8_follows) dX8_follows_207 rfl rfl ?_
            refine M_get (M := mX8_follows) dX8_follows_208 fi_X8_135 rfl ?_
            rw [t3_at27]
            first
              | refine Z_pt (M := mX8_follows) (tgt := 218) dX8_follows_211 (by decide) (fun c_211 => ?_) (fun c_211 => ?_)
              | refine Z_if_ne (M := mX8_follows) (tgt := 218) (by first | assumption | exact pI_rg _ | (unfold rg; omega)) dX8_follows_211 (by decide) (fun c_211 => ?_) (fun c_211 => ?_)
            · refine J_iload (M := mX8_follows) dX8_follows_218 rfl ?_
              refine J_istore (M := mX8_follows) dX8_follows_220 (by decide) ?_
              have ht : t3 τ1 (te τ1 (66 + k1)) = ftel τ1 k1 := by unfold ftel; rw [if_pos (by omega)]
              rw [ht]
              first
                | exact hj222 _ _ rfl (by unfold fwin fnow; rw [← hl, ← hr, if_pos (by omega), if_pos c_200])
                | exact hj222 _ _ rfl (by unfold fwin fnow; rw [← hl, ← hr, if_pos (by omega), if_neg c_200, if_pos c_211])
                | exact hj222 _ _ rfl (by unfold fwin fnow; rw [← hl, ← hr, if_pos (by omega), if_neg c_200, if_neg c_211])
            · refine J_iload_n (M := mX8_follows) dX8_follows_214 rfl rfl ?_
              refine J_goto (M := mX8_follows) (tgt := 220) dX8_follows_215 (by decide) ?_
              refine J_istore (M := mX8_follows) dX8_follows_220 (by decide) ?_
              have ht : t3 τ1 (te τ1 (66 + k1)) = ftel τ1 k1 := by unfold ftel; rw [if_pos (by omega)]
              rw [ht]
              first
                | exact hj222 _ _ rfl (by unfold fwin fnow; rw [← hl, ← hr, if_pos (by omega), if_pos c_200])
                | exact hj222 _ _ rfl (by unfold fwin fnow; rw [← hl, ← hr, if_pos (by omega), if_neg c_200, if_pos c_211])
                | exact hj222 _ _ rfl (by unfold fwin fnow; rw [← hl, ← hr, if_pos (by omega), if_neg c_200, if_neg c_211])
          · refine Z_iconst (M := mX8_follows) dX8_follows_203 ?_
            refine J_goto (M := mX8_follows) (tgt := 220) dX8_follows_204 (by decide) ?_
            refine J_istore (M := mX8_follows) dX8_follows_220 (by decide) ?_
            have ht : t3 τ1 (te τ1 (66 + k1)) = ftel τ1 k1 := by unfold ftel; rw [if_pos (by omega)]
            rw [ht]
            first
              | exact hj222 _ _ rfl (by unfold fwin fnow; rw [← hl, ← hr, if_pos (by omega), if_pos c_200])
              | exact hj222 _ _ rfl (by unfold fwin fnow; rw [← hl, ← hr, if_pos (by omega), if_neg c_200, if_pos c_211])
              | exact hj222 _ _ rfl (by unfold fwin fnow; rw [← hl, ← hr, if_pos (by omega), if_neg c_200, if_neg c_211])
          
    refine J_aload_n (M := mX8_follows) dX8_follows_135 rfl rfl ?_
    refine M_get (M := mX8_follows) (v := vR (some (62, 0))) dX8_follows_136 fi_X8_54 rfl ?_
    refine Z_iconst (M := mX8_follows) dX8_follows_139 ?_
    refine J_iload_n (M := mX8_follows) dX8_follows_140 rfl rfl ?_
    refine Z_imul (M := mX8_follows) dX8_follows_141 ?_
    refine M_iald (M := mX8_follows) (kf := 22) (N := 32) dX8_follows_142 rfl (by decide) (by omega) (by omega) ?_
    refine Z_eq (M := mX8_follows) hl.symm ?_
    refine J_istore_n (M := mX8_follows) dX8_follows_143 rfl (by decide) ?_
    refine J_aload_n (M := mX8_follows) dX8_follows_144 rfl rfl ?_
    refine M_get (M := mX8_follows) (v := vR (some (62, 0))) dX8_follows_145 fi_X8_54 rfl ?_
    refine Z_iconst (M := mX8_follows) dX8_follows_148 ?_
    refine J_iload_n (M := mX8_follows) dX8_follows_149 rfl rfl ?_
    refine Z_imul (M := mX8_follows) dX8_follows_150 ?_
    refine Z_iconst (M := mX8_follows) dX8_follows_151 ?_
    refine Z_iadd (M := mX8_follows) dX8_follows_152 ?_
    refine M_iald (M := mX8_follows) (kf := 22) (N := 32) dX8_follows_153 rfl (by decide) (by omega) (by omega) ?_
    refine Z_eq (M := mX8_follows) hr.symm ?_
    refine J_istore (M := mX8_follows) dX8_follows_154 (by decide) ?_
    refine J_iload_n (M := mX8_follows) dX8_follows_156 rfl rfl ?_
    refine Z_bipush (M := mX8_follows) dX8_follows_157 rfl ?_
    refine Z_ic_ne (M := mX8_follows) (tgt := 167) (by first | assumption | exact pI_rg _ | (unfold rg; omega)) (by first | assumption | exact pI_rg _ | (unfold rg; omega)) dX8_follows_159 (by decide) (fun c_159 => ?_) (fun c_159 => ?_)
    · refine J_iload (M := mX8_follows) dX8_follows_167 rfl ?_
      refine Z_bipush (M := mX8_follows) dX8_follows_169 rfl ?_
      refine Z_ic_ne (M := mX8_follows) (tgt := 178) (by first | assumption | exact pI_rg _ | (unfold rg; omega)) (by first | assumption | exact pI_rg _ | (unfold rg; omega)) dX8_follows_171 (by decide) (fun c_171 => ?_) (fun c_171 => ?_)
      · refine Z_iconst (M := mX8_follows) dX8_follows_178 ?_
        first
          | exact hj179 _ (by rw [if_pos c_159])
          | exact hj179 _ (by rw [if_neg c_159, if_pos c_171])
          | exact hj179 _ (by rw [if_neg c_159, if_neg c_171])
      · refine J_iload_n (M := mX8_follows) dX8_follows_174 rfl rfl ?_
        refine J_goto (M := mX8_follows) (tgt := 179) dX8_follows_175 (by decide) ?_
        first
          | exact hj179 _ (by rw [if_pos c_159])
          | exact hj179 _ (by rw [if_neg c_159, if_pos c_171])
          | exact hj179 _ (by rw [if_neg c_159, if_neg c_171])
    · refine J_iload (M := mX8_follows) dX8_follows_162 rfl ?_
      refine J_goto (M := mX8_follows) (tgt := 179) dX8_follows_164 (by decide) ?_
      first
        | exact hj179 _ (by rw [if_pos c_159])
        | exact hj179 _ (by rw [if_neg c_159, if_pos c_171])
        | exact hj179 _ (by rw [if_neg c_159, if_neg c_171])
  have hj132 : ∀ (τ1 : TS) (z : Int), ts τ1 17 0 z = frst τ k1 → J X mX8_follows 132 [some (vR (some (20, 0))), some (vI (iI k1)), some (vI (iI (66 + k1))), none, none, none] [vI (iI z), vR (some (20, 0))] (hm h τ1) k n Q := by
    intro τ1 z hz
    refine M_puti (M := mX8_follows) dX8_follows_132 fi_X8_47 rfl (by decide) rfl ?_
    exact hj135 _ hz
  have hj81 : ∀ z : Int, z = (if 0 < τ 10 (66 + k1) then 1 else 0) → (¬ τ 23 (2 * k1) = 0 ∨ ¬ τ 23 (2 * k1 + 1) = 0) → J X mX8_follows 81 [some (vR (some (20, 0))), some (vI (iI k1)), some (vI (iI (66 + k1))), none, none, none] [vI (iI z), vI (iI (τ 24 0)), vR (some (20, 0))] (hm h τ) k n Q := by
    intro z hz hcd
    have b17 := wf17 W 0
    refine Z_iadd (M := mX8_follows) dX8_follows_81 ?_
    refine M_puti (M := mX8_follows) dX8_follows_82 fi_X8_142 rfl (by decide) rfl ?_
    refine J_aload_n (M := mX8_follows) dX8_follows_85 rfl rfl ?_
    refine M_get (M := mX8_follows) (v := vR (some (50, 0))) dX8_follows_86 fi_X8_26 rfl ?_
    refine J_iload_n (M := mX8_follows) dX8_follows_89 rfl rfl ?_
    refine Z_iconst (M := mX8_follows) dX8_follows_90 ?_
    refine M_iast (M := mX8_follows) (kf := 10) (N := 82) dX8_follows_91 rfl rfl rfl rfl (by decide) (by decide) (by omega) (by omega) ?_
    refine J_aload_n (M := mX8_follows) dX8_follows_92 rfl rfl ?_
    refine M_get (M := mX8_follows) (v := vR (some (51, 0))) dX8_follows_93 fi_X8_29 rfl ?_
    refine Z_iconst (M := mX8_follows) dX8_follows_96 ?_
    refine J_iload_n (M := mX8_follows) dX8_follows_97 rfl rfl ?_
    refine Z_imul (M := mX8_follows) dX8_follows_98 ?_
    refine Z_iconst (M := mX8_follows) dX8_follows_99 ?_
    refine M_iast (M := mX8_follows) (kf := 11) (N := 164) dX8_follows_100 rfl rfl rfl rfl (by decide) (by decide) (by omega) (by omega) ?_
    refine J_aload_n (M := mX8_follows) dX8_follows_101 rfl rfl ?_
    refine M_get (M := mX8_follows) (v := vR (some (51, 0))) dX8_follows_102 fi_X8_29 rfl ?_
    refine Z_iconst (M := mX8_follows) dX8_follows_105 ?_
    refine J_iload_n (M := mX8_follows) dX8_follows_106 rfl rfl ?_
    refine Z_imul (M := mX8_follows) dX8_follows_107 ?_
    refine Z_iconst (M := mX8_follows) dX8_follows_108 ?_
    refine Z_iadd (M := mX8_follows) dX8_follows_109 ?_
    refine Z_iconst (M := mX8_follows) dX8_follows_110 ?_
    refine M_iast (M := mX8_follows) (kf := 11) (N := 164) dX8_follows_111 rfl rfl rfl rfl (by decide) (by decide) (by omega) (by omega) ?_
    refine J_aload_n (M := mX8_follows) dX8_follows_112 rfl rfl ?_
    refine J_aload_n (M := mX8_follows) dX8_follows_113 rfl rfl ?_
    refine M_get (M := mX8_follows) dX8_follows_114 fi_X8_47 rfl ?_
    refine Z_eq (M := mX8_follows) (b := τ 17 0) rfl ?_
    refine Z_bipush (M := mX8_follows) dX8_follows_117 rfl ?_
    refine J_iload_n (M := mX8_follows) dX8_follows_119 rfl rfl ?_
    refine Z_iadd (M := mX8_follows) dX8_follows_120 ?_
    refine Z_ic_ne (M := mX8_follows) (tgt := 128) (by first | assumption | exact pI_rg _ | (unfold rg; omega)) (by first | assumption | exact pI_rg _ | (unfold rg; omega)) dX8_follows_121 (by decide) (fun c_121 => ?_) (fun c_121 => ?_)
    · refine J_aload_n (M := mX8_follows) dX8_follows_128 rfl rfl ?_
      refine M_get (M := mX8_follows) dX8_follows_129 fi_X8_47 rfl ?_
      refine Z_eq (M := mX8_follows) (b := τ 17 0) rfl ?_
      first
        | exact hj132 _ _ (by unfold frst; rw [if_pos hcd, if_pos c_121, hz])
        | exact hj132 _ _ (by unfold frst; rw [if_pos hcd, if_neg c_121, hz])
    · refine Z_iconst (M := mX8_follows) dX8_follows_124 ?_
      refine J_goto (M := mX8_follows) (tgt := 132) dX8_follows_125 (by decide) ?_
      first
        | exact hj132 _ _ (by unfold frst; rw [if_pos hcd, if_pos c_121, hz])
        | exact hj132 _ _ (by unfold frst; rw [if_pos hcd, if_neg c_121, hz])
  have hj62 : (¬ τ 23 (2 * k1) = 0 ∨ ¬ τ 23 (2 * k1 + 1) = 0) → J X mX8_follows 62 [some (vR (some (20, 0))), some (vI (iI k1)), some (vI (iI (66 + k1))), none, none, none] [] (hm h τ) k n Q := by
    intro hcd
    have b10 := wf10 W (66 + k1)
    refine J_aload_n (M := mX8_follows) dX8_follows_62 rfl rfl ?_
    refine J_dup (M := mX8_follows) dX8_follows_63 rfl ?_
    refine M_get (M := mX8_follows) dX8_follows_64 fi_X8_142 rfl ?_
    refine J_aload_n (M := mX8_follows) dX8_follows_67 rfl rfl ?_
    refine M_get (M := mX8_follows) (v := vR (some (50, 0))) dX8_follows_68 fi_X8_26 rfl ?_
    refine J_iload_n (M := mX8_follows) dX8_follows_71 rfl rfl ?_
    refine M_iald (M := mX8_follows) (kf := 10) (N := 82) dX8_follows_72 rfl (by decide) (by omega) (by omega) ?_
    refine Z_if_le (M := mX8_follows) (tgt := 80) (by first | assumption | exact pI_rg _ | (unfold rg; omega)) dX8_follows_73 (by decide) (fun c_73 => ?_) (fun c_73 => ?_)
    · refine Z_iconst (M := mX8_follows) dX8_follows_80 ?_
      first
        | exact hj81 _ (by rw [if_pos (by omega)]) hcd
        | exact hj81 _ (by rw [if_neg (by omega)]) hcd
    · refine Z_iconst (M := mX8_follows) dX8_follows_76 ?_
      refine J_goto (M := mX8_follows) (tgt := 81) dX8_follows_77 (by decide) ?_
      first
        | exact hj81 _ (by rw [if_pos (by omega)]) hcd
        | exact hj81 _ (by rw [if_neg (by omega)]) hcd
  refine Z_bipush (M := mX8_follows) dX8_follows_33 rfl ?_
  refine J_iload_n (M := mX8_follows) dX8_follows_35 rfl rfl ?_
  refine Z_iadd (M := mX8_follows) dX8_follows_36 ?_
  refine J_istore_n (M := mX8_follows) dX8_follows_37 rfl (by decide) ?_
  refine J_aload_n (M := mX8_follows) dX8_follows_38 rfl rfl ?_
  refine M_get (M := mX8_follows) (v := vR (some (63, 0))) dX8_follows_39 fi_X8_57 rfl ?_
  refine Z_iconst (M := mX8_follows) dX8_follows_42 ?_
  refine J_iload_n (M := mX8_follows) dX8_follows_43 rfl rfl ?_
  refine Z_imul (M := mX8_follows) dX8_follows_44 ?_
  refine M_zald (M := mX8_follows) (kf := 23) (N := 32) dX8_follows_45 rfl (by decide) (by omega) (by omega) ?_
  first
    | refine Z_pt (M := mX8_follows) (tgt := 62) dX8_follows_46 (by decide) (fun c_46 => ?_) (fun c_46 => ?_)
    | refine Z_if_ne (M := mX8_follows) (tgt := 62) (by first | assumption | exact pI_rg _ | (unfold rg; omega)) dX8_follows_46 (by decide) (fun c_46 => ?_) (fun c_46 => ?_)
  · exact hj62 (by omega)
  · refine J_aload_n (M := mX8_follows) dX8_follows_49 rfl rfl ?_
    refine M_get (M := mX8_follows) (v := vR (some (63, 0))) dX8_follows_50 fi_X8_57 rfl ?_
    refine Z_iconst (M := mX8_follows) dX8_follows_53 ?_
    refine J_iload_n (M := mX8_follows) dX8_follows_54 rfl rfl ?_
    refine Z_imul (M := mX8_follows) dX8_follows_55 ?_
    refine Z_iconst (M := mX8_follows) dX8_follows_56 ?_
    refine Z_iadd (M := mX8_follows) dX8_follows_57 ?_
    refine M_zald (M := mX8_follows) (kf := 23) (N := 32) dX8_follows_58 rfl (by decide) (by omega) (by omega) ?_
    first
      | refine Z_pf (M := mX8_follows) (tgt := 135) dX8_follows_59 (by decide) (fun c_59 => ?_) (fun c_59 => ?_)
      | refine Z_if_eq (M := mX8_follows) (tgt := 135) (by first | assumption | exact pI_rg _ | (unfold rg; omega)) dX8_follows_59 (by decide) (fun c_59 => ?_) (fun c_59 => ?_)
    · exact hj135 _ (by unfold frst; rw [if_neg (by omega)])
    · exact hj62 (by omega)

set_option maxRecDepth 100000 in
set_option maxHeartbeats 4000000 in
theorem follows_l2 {X : GX} {h : LH} {τ : TS} {k n : Nat} {Q : LO → LH → Prop} {sz : Int} (W : WF τ) (h0 : sz ≤ 16) : ∀ (m i : Nat), (i : Int) + m = sz - 1 → J X mX8_follows 267 [some (vR (some (20, 0))), none, none, none, none, none] [] (hm h (folG τ sz (i + m))) k n Q → J X mX8_follows 28 [some (vR (some (20, 0))), some (vI (iI (sz - 1 - i))), none, none, none, none] [] (hm h (folG τ sz i)) k n Q := by
  intro m
  induction m with
  | zero =>
    intro i hi kk
    refine J_iload_n (M := mX8_follows) dX8_follows_28 rfl rfl ?_
    refine Z_iconst (M := mX8_follows) dX8_follows_29 ?_
    refine Z_ic_lt (M := mX8_follows) (tgt := 267) (by first | assumption | exact pI_rg _ | (unfold rg; omega)) (by first | assumption | exact pI_rg _ | (unfold rg; omega)) dX8_follows_30 (by decide) (fun c_30 => ?_) (fun c_30 => ?_)
    · exact J_sub kk (And.intro rfl trivial)
    · omega
  | succ m ih =>
    intro i hi kk
    have e9 : i + (m + 1) = i + 1 + m := by omega
    rw [e9] at kk
    refine J_iload_n (M := mX8_follows) dX8_follows_28 rfl rfl ?_
    refine Z_iconst (M := mX8_follows) dX8_follows_29 ?_
    refine Z_ic_lt (M := mX8_follows) (tgt := 267) (by first | assumption | exact pI_rg _ | (unfold rg; omega)) (by first | assumption | exact pI_rg _ | (unfold rg; omega)) dX8_follows_30 (by decide) (fun c_30 => ?_) (fun c_30 => ?_)
    · omega
    · refine follows_s (WF_folG W sz i) (by omega) (by omega) ?_
      exact J_sub (ih (i + 1) (by omega) kk) (And.intro rfl (And.intro (vz (by push_cast; omega)) trivial))

set_option maxRecDepth 100000 in
set_option maxHeartbeats 4000000 in
theorem c_follows {X : GX} {h : LH} {τ : TS} (W : WF τ) : CM X mX8_follows [] h τ (fun v t => v = none ∧ t = fol τ) := by
  have b1 := wf21 W 0
  have hj28 : J X mX8_follows 28 [some (vR (some (20, 0))), some (vI (iI (τ 21 0 - 1))), none, none, none, none] [] (hm h (clr τ 32)) 0 0 (QM h (fun v t => v = none ∧ t = fol τ)) := by
    by_cases hs : 1 ≤ τ 21 0
    · refine J_sub (follows_l2 (sz := τ 21 0) (WF_clr W 32) (by omega) (τ 21 0 - 1).toNat 0 (by omega) ?_) (And.intro rfl (And.intro (vz (by push_cast; omega)) trivial))
      rw [Nat.zero_add]
      refine M_vret (M := mX8_follows) dX8_follows_267 rfl ?_
      exact And.intro rfl rfl
    · have e0 : (τ 21 0 - 1).toNat = 0 := by omega
      refine J_iload_n (M := mX8_follows) dX8_follows_28 rfl rfl ?_
      refine Z_iconst (M := mX8_follows) dX8_follows_29 ?_
      refine Z_ic_lt (M := mX8_follows) (tgt := 267) (by first | assumption | exact pI_rg _ | (unfold rg; omega)) (by first | assumption | exact pI_rg _ | (unfold rg; omega)) dX8_follows_30 (by decide) (fun c_30 => ?_) (fun c_30 => ?_)
      · refine M_vret (M := mX8_follows) dX8_follows_267 rfl ?_
        exact And.intro rfl (by unfold fol; rw [e0]; rfl)
      · omega
  refine CM_of (by decide +kernel) rfl (Nat.le_of_ble_eq_true rfl) ?_
  refine Z_iconst (M := mX8_follows) dX8_follows_0 ?_
  refine J_istore_n (M := mX8_follows) dX8_follows_1 rfl (by decide) ?_
  rw [← clr_1 (τ := τ)]
  refine J_sub (M := mX8_follows) (follows_l1 W 31 1 (by omega) (by omega) ?_) (And.intro rfl (And.intro rfl trivial))
  refine J_aload_n (M := mX8_follows) dX8_follows_21 rfl rfl ?_
  refine M_get (M := mX8_follows) dX8_follows_22 fi_X8_95 rfl ?_
  refine Z_eq (M := mX8_follows) (b := τ 21 0) rfl ?_
  refine Z_iconst (M := mX8_follows) dX8_follows_25 ?_
  refine Z_isub (M := mX8_follows) dX8_follows_26 ?_
  refine J_istore_n (M := mX8_follows) dX8_follows_27 rfl (by decide) ?_
  rw [clr_1]
  exact J_sub hj28 (And.intro rfl (And.intro rfl trivial))
  

