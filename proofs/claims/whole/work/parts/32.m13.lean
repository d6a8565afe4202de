/-! THE REFERENCE: the draw of the tableau, done -/
theorem ahP_eq {u t : TS} (e1 : u 29 = t 29) (e2 : u 30 = t 30) (e3 : u 31 = t 31) (e4 : u 32 = t 32) : ahP u = ahP t := by
  funext a b
  unfold ahP ahd
  rw [e1, e2, e3, e4]
theorem cnA_eq {u t : TS} (e : ahP u = ahP t) : ∀ (m : Nat) (i : Int), cnA u i m = cnA t i m
  | 0, _ => rfl
  | m + 1, i => by
      show cnA u i m + pI (¬ (m : Int) = i ∧ ahP u m i) = cnA t i m + pI (¬ (m : Int) = i ∧ ahP t m i)
      rw [cnA_eq e m i, e]
theorem rkF_eq {u t : TS} (e : ahP u = ahP t) (p n : Int) : ∀ i : Nat, rkF u p n i = rkF t p n i
  | 0 => rfl
  | i + 1 => by
      show (if cnA u i n.toNat = p then (i : Int) else rkF u p n i) = (if cnA t i n.toNat = p then (i : Int) else rkF t p n i)
      rw [cnA_eq e, rkF_eq e p n i]
theorem rkF_lt {u : TS} {p n : Int} : ∀ i : Nat, 0 ≤ rkF u p n i ∧ (rkF u p n i < i ∨ rkF u p n i = 0)
  | 0 => by show (0 : Int) ≤ 0 ∧ ((0 : Int) < ((0 : Nat) : Int) ∨ (0 : Int) = 0); omega
  | i + 1 => by
      have h := rkF_lt (u := u) (p := p) (n := n) i
      show 0 ≤ (if cnA u i n.toNat = p then (i : Int) else rkF u p n i) ∧ ((if cnA u i n.toNat = p then (i : Int) else rkF u p n i) < ((i + 1 : Nat) : Int) ∨ (if cnA u i n.toNat = p then (i : Int) else rkF u p n i) = 0)
      split <;> omega
/-- who is laid on a leaf -/
noncomputable def lf (u : TS) (c : Int) : Int := if u 1 0 < u 28 c then -2 else rkF u (u 28 c - 1) (u 1 0) (u 1 0).toNat
theorem lf_rg {u : TS} (W : WF u) (c : Int) : -2 ≤ lf u c ∧ lf u c ≤ 11 := by
  have h := rkF_lt (u := u) (p := u 28 c - 1) (n := u 1 0) (u 1 0).toNat
  have b1 := wf1 W 0
  unfold lf
  split <;> omega
theorem wl_rg {g v : Int → Int} {z c : Int} (hg : ∀ i, -2 ≤ g i ∧ g i ≤ 11) (hv : ∀ i, -2 ≤ v i ∧ v i ≤ 11) (i : Int) : -2 ≤ wl g v z c i ∧ wl g v z c i ≤ 11 := by
  unfold wl
  split
  · exact hv _
  · exact hg _
theorem wz_rg {g : Int → Int} {c : Int} (hg : ∀ i, -2 ≤ g i ∧ g i ≤ 11) (i : Int) : -2 ≤ wz g c i ∧ wz g c i ≤ 11 := by
  unfold wz
  split
  · omega
  · exact hg _
set_option maxRecDepth 100000 in
set_option maxHeartbeats 4000000 in
theorem dt_v {X : GX} {h : LH} {τ : TS} {k n : Nat} {Q : LO → LH → Prop} {z : Int} {g : Int → Int} (W : WF τ) (hz : 1 ≤ z ∧ z ≤ 16) (hg : ∀ i, -2 ≤ g i ∧ g i ≤ 11) : ∀ (m : Nat) (c : Int), 0 ≤ c → c + m = z → J X mX8_drawTableau 209 [some (vR (some (20, 0))), some (vI (iI z)), none, none] [] (hm h (fs τ 22 (wl g (lf τ) z z))) k n Q → J X mX8_drawTableau 160 [some (vR (some (20, 0))), some (vI (iI z)), none, some (vI (iI c))] [] (hm h (fs τ 22 (wl g (lf τ) z c))) k n Q := by
  intro m
  induction m with
  | zero =>
    intro c h0 h1 kk
    have e0 : c = z := by omega
    subst e0
    refine J_iload_n (M := mX8_drawTableau) dX8_drawTableau_160 rfl rfl ?_
    refine J_iload_n (M := mX8_drawTableau) dX8_drawTableau_161 rfl rfl ?_
    refine Z_ic_ge (M := mX8_drawTableau) (tgt := 209) (by first | assumption | exact pI_rg _ | (unfold rg; omega)) (by first | assumption | exact pI_rg _ | (unfold rg; omega)) dX8_drawTableau_162 (by decide) (fun c_162 => ?_) (fun c_162 => ?_)
    · exact J_sub kk (And.intro rfl (And.intro rfl trivial))
    · omega
  | succ m ih =>
    intro c h0 h1 kk
    have kk2 := ih (c + 1) (by omega) (by omega) kk
    have b1 := wf1 W 0
    have b28 := wf28 W c
    have wc : WF (fs τ 22 (wl g (lf τ) z c)) := WF_fs W (wl_rg hg (lf_rg W))
    have er : ∀ p, rkF (fs τ 22 (wl g (lf τ) z c)) p (τ 1 0) (τ 1 0).toNat = rkF τ p (τ 1 0) (τ 1 0).toNat := fun p => rkF_eq (u := (fs τ 22 (wl g (lf τ) z c))) (t := τ) (ahP_eq rfl rfl rfl rfl) _ _ _
    rw [← wl_s h0, ← ts_fs] at kk2
    refine J_iload_n (M := mX8_drawTableau) dX8_drawTableau_160 rfl rfl ?_
    refine J_iload_n (M := mX8_drawTableau) dX8_drawTableau_161 rfl rfl ?_
    refine Z_ic_ge (M := mX8_drawTableau) (tgt := 209) (by first | assumption | exact pI_rg _ | (unfold rg; omega)) (by first | assumption | exact pI_rg _ | (unfold rg; omega)) dX8_drawTableau_162 (by decide) (fun c_162 => ?_) (fun c_162 => ?_)
    · omega
    · refine J_aload_n (M := mX8_drawTableau) dX8_drawTableau_165 rfl rfl ?_
      refine M_get (M := mX8_drawTableau) (v := vR (some (62, 0))) dX8_drawTableau_166 fi_X8_54 rfl ?_
      refine J_iload_n (M := mX8_drawTableau) dX8_drawTableau_169 rfl rfl ?_
      refine J_iload_n (M := mX8_drawTableau) dX8_drawTableau_170 rfl rfl ?_
      refine Z_iadd (M := mX8_drawTableau) dX8_drawTableau_171 ?_
      refine Z_ij (M := mX8_drawTableau) (pcB := 202) (lf τ c) (fun hj_202 => ?_) ?_
      · refine J_aload_n (M := mX8_drawTableau) dX8_drawTableau_172 rfl rfl ?_
        refine M_get (M := mX8_drawTableau) (v := vR (some (68, 0))) dX8_drawTableau_173 fi_X8_60 rfl ?_
        refine J_iload_n (M := mX8_drawTableau) dX8_drawTableau_176 rfl rfl ?_
        refine M_iald (M := mX8_drawTableau) (kf := 28) (N := 16) dX8_drawTableau_177 rfl (by decide) (by omega) (by omega) ?_
        refine Z_eq (M := mX8_drawTableau) (b := τ 28 c) (rfl) ?_
        refine J_aload_n (M := mX8_drawTableau) dX8_drawTableau_178 rfl rfl ?_
        refine M_get (M := mX8_drawTableau) dX8_drawTableau_179 fi_X8_82 rfl ?_
        refine Z_eq (M := mX8_drawTableau) (b := τ 1 0) (rfl) ?_
        refine Z_ic_le (M := mX8_drawTableau) (tgt := 190) (by first | assumption | exact pI_rg _ | (unfold rg; omega)) (by first | assumption | exact pI_rg _ | (unfold rg; omega)) dX8_drawTableau_182 (by decide) (fun c_182 => ?_) (fun c_182 => ?_)
        · refine J_aload_n (M := mX8_drawTableau) dX8_drawTableau_190 rfl rfl ?_
          refine J_aload_n (M := mX8_drawTableau) dX8_drawTableau_191 rfl rfl ?_
          refine M_get (M := mX8_drawTableau) (v := vR (some (68, 0))) dX8_drawTableau_192 fi_X8_60 rfl ?_
          refine J_iload_n (M := mX8_drawTableau) dX8_drawTableau_195 rfl rfl ?_
          refine M_iald (M := mX8_drawTableau) (kf := 28) (N := 16) dX8_drawTableau_196 rfl (by decide) (by omega) (by omega) ?_
          refine Z_eq (M := mX8_drawTableau) (b := τ 28 c) (rfl) ?_
          refine Z_iconst (M := mX8_drawTableau) dX8_drawTableau_197 ?_
          refine Z_isub (M := mX8_drawTableau) dX8_drawTableau_198 ?_
          refine M_call (M := mX8_drawTableau) (as := [_]) dX8_drawTableau_199 ca_X8_197 ⟨by decide, by decide⟩ rfl (Nat.le_of_ble_eq_true rfl) rfl rfl (c_ranked wc (by unfold rg; omega)) (fun v_199 t_199 hv_199 => ?_)
          obtain ⟨rfl, e_199⟩ := hv_199
          rw [e_199]
          refine Z_eq (M := mX8_drawTableau) (er _) ?_
          exact hj_202 _ (by unfold lf; first | rw [if_pos (by omega)] | rw [if_neg (by omega)])
        · refine Z_bipush (M := mX8_drawTableau) dX8_drawTableau_185 rfl ?_
          refine J_goto (M := mX8_drawTableau) (tgt := 202) dX8_drawTableau_187 (by decide) ?_
          exact hj_202 _ (by unfold lf; first | rw [if_pos (by omega)] | rw [if_neg (by omega)])
      refine M_iast (M := mX8_drawTableau) (kf := 22) (N := 32) dX8_drawTableau_202 rfl rfl rfl rfl (by decide) (by decide) (by omega) (by omega) ?_
      refine Z_iinc (M := mX8_drawTableau) dX8_drawTableau_203 rfl (by decide) ?_
      refine J_goto (M := mX8_drawTableau) (tgt := 160) dX8_drawTableau_206 (by decide) ?_
      exact J_sub kk2 (And.intro rfl (And.intro rfl (And.intro rfl trivial)))

theorem fstep_k {τ : TS} {c : Int} {k : Nat} (h : ¬ (k = 10 ∨ k = 11 ∨ k = 17 ∨ (22 ≤ k ∧ k ≤ 27))) : fstep τ c k = τ k := by
  unfold fstep
  rw [ts_n (by omega), ts_n (by omega)]
  have e : ∀ u : TS, ftel u c k = u k := by
    intro u
    unfold ftel t3
    split
    · rw [ts_n (by omega), ts_n (by omega), ts_n (by omega)]
    · rfl
  rw [e]
  unfold frst
  split
  · rw [ts_n (by omega), ts_n (by omega), ts_n (by omega), ts_n (by omega), ts_n (by omega)]
  · rfl
theorem folG_k {τ : TS} {sz : Int} {k : Nat} (h : ¬ (k = 10 ∨ k = 11 ∨ k = 17 ∨ (22 ≤ k ∧ k ≤ 27))) : ∀ i, folG τ sz i k = τ k
  | 0 => rfl
  | i + 1 => by show fstep (folG τ sz i) _ k = τ k; rw [fstep_k h, folG_k h i]
theorem fol_k {τ : TS} {k : Nat} (h : ¬ (k = 10 ∨ k = 11 ∨ k = 17 ∨ (22 ≤ k ∧ k ≤ 27))) : fol τ k = τ k := by
  unfold fol
  rw [folG_k h]
  unfold clr
  exact if_neg (by omega)
/-- the state in which the tableau is drawn: before the sums, and whole -/
def dt3 (w : TS) : TS := fs (fs w 28 (sq0 (w 28) (itd (w 1 0)))) 22 (wz (w 22) (its (w 1 0)))
noncomputable def dt4 (w : TS) : TS := ts (ts (fs (sm (dt3 w)) 22 (wl (dt3 w 22) (lf (sm (dt3 w))) (its (w 1 0)) (its (w 1 0)))) 21 0 (its (w 1 0))) 17 0 (-1)
def ansX (τ : TS) (g : Int) (v : Int) (T : TS → TS) (r : Option LV) (u : TS) : Prop := WF u ∧ ((¬ g = 0 ∧ r = some (vI (iI 0)) ∧ u 33 0 = g ∧ SQ u τ) ∨ (g = 0 ∧ r = some (vI (iI v)) ∧ u 33 0 = 0 ∧ ∃ w, WF w ∧ SQ w τ ∧ u = T w))
set_option maxRecDepth 100000 in
set_option maxHeartbeats 4000000 in
theorem c_drawTableau {X : GX} {h : LH} {τ : TS} (W : WF τ) : CM X mX8_drawTableau [] h τ (ansX τ (gl (pI (0 < τ 8 0 ∧ τ 21 0 = 0 ∧ τ 19 0 = 0 ∧ dcd τ (τ 9 0).toNat)) 1 1) (its (τ 1 0)) (fun w => fol (dt4 w))) := by
  have b8 := wf8 W 0
  have b21 := wf21 W 0
  have b19 := wf19 W 0
  have hj61 : ∀ (w : TS) (z : Int), WF w → SQ w τ → w 33 0 = 0 → z = its (τ 1 0) → J X mX8_drawTableau 61 [some (vR (some (20, 0))), some (vI (iI z)), none, none] [] (hm h w) (mR mX8_drawTableau).cells (mR mX8_drawTableau).slots (QM h (ansX τ (0) (its (τ 1 0)) (fun w => fol (dt4 w)))) := by
    intro w z Ww Sw w33 hz
    subst hz
    have b1 := wf1 W 0
    have ew1 : w 1 0 = τ 1 0 := congrFun (Sw 1 (by decide)) 0
    have hz : 1 ≤ its (τ 1 0) ∧ its (τ 1 0) ≤ 16 := by rw [its_e]; split; omega; split; omega; split <;> omega
    have he : itd (τ 1 0) ≤ 4 := by unfold itd; split; omega; split; omega; split <;> omega
    have hw22 : ∀ i, -2 ≤ w 22 i ∧ w 22 i ≤ 11 := fun i => wf22 Ww i
    have h28 : ∀ i, (0 : Int) ≤ sq0 (w 28) (itd (τ 1 0)) i ∧ sq0 (w 28) (itd (τ 1 0)) i ≤ 64 := by
      intro i
      by_cases q : 0 ≤ i ∧ i < its (τ 1 0)
      · have := sq_rg (s := w 28) (itd (τ 1 0)) i q.1 q.2
        have e9 : ((2 ^ itd (τ 1 0) : Nat) : Int) = its (τ 1 0) := rfl
        omega
      · have q2 : i < 0 ∨ ((2 ^ itd (τ 1 0) : Nat) : Int) ≤ i := by
          have e9 : ((2 ^ itd (τ 1 0) : Nat) : Int) = its (τ 1 0) := rfl
          omega
        rw [sq_out _ _ q2]
        exact wf28 Ww i
    have W2 : WF (fs w 28 (sq0 (w 28) (itd (τ 1 0)))) := WF_fs Ww h28
    obtain ⟨u2, hu2⟩ : ∃ u2, u2 = fs w 28 (sq0 (w 28) (itd (τ 1 0))) := ⟨_, rfl⟩
    rw [← hu2] at W2
    have e22 : u2 22 = w 22 := by rw [hu2]; exact fs_n (by decide)
    obtain ⟨u3, hu3⟩ : ∃ u3, u3 = fs u2 22 (wz (u2 22) (its (τ 1 0))) := ⟨_, rfl⟩
    have W3 : WF u3 := by rw [hu3]; exact WF_fs W2 (wz_rg (fun i => wf22 W2 i))
    have hd3 : dt3 w = u3 := by unfold dt3; rw [ew1, hu3, e22, hu2]
    have W4 := WF_sm W3
    have e322 : sm u3 22 = u3 22 := SQ_sm 22 (by decide)
    have W5 : WF (ts (ts (fs (sm u3) 22 (wl (sm u3 22) (lf (sm u3)) (its (τ 1 0)) (its (τ 1 0)))) 21 0 (its (τ 1 0))) 17 0 (-1)) := WF_ts (WF_ts (WF_fs W4 (wl_rg (fun i => wf22 W4 i) (lf_rg W4))) (by show (0 : Int) ≤ _ ∧ _ ≤ (16 : Int); omega)) (by decide)
    have h5 : ts (ts (fs (sm u3) 22 (wl (sm u3 22) (lf (sm u3)) (its (τ 1 0)) (its (τ 1 0)))) 21 0 (its (τ 1 0))) 17 0 (-1) = dt4 w := by unfold dt4; rw [hd3, ew1, e322]
    refine J_aload_n (M := mX8_drawTableau) dX8_drawTableau_61 rfl rfl ?_
    refine M_get (M := mX8_drawTableau) (v := vR (some (68, 0))) dX8_drawTableau_62 fi_X8_60 rfl ?_
    refine Z_iconst (M := mX8_drawTableau) dX8_drawTableau_65 ?_
    refine Z_iconst (M := mX8_drawTableau) dX8_drawTableau_66 ?_
    refine M_iast (M := mX8_drawTableau) (kf := 28) (N := 16) dX8_drawTableau_67 rfl rfl rfl rfl (by decide) (by decide) (by omega) (by omega) ?_
    refine Z_iconst (M := mX8_drawTableau) dX8_drawTableau_68 ?_
    refine J_istore_n (M := mX8_drawTableau) dX8_drawTableau_69 rfl (by decide) ?_
    rw [ts_as]
    refine J_sub (M := mX8_drawTableau) (dt_r (e := itd (τ 1 0)) (s := w 28) he (itd (τ 1 0)) 0 (by omega) ?_) (And.intro rfl (And.intro rfl (And.intro rfl trivial)))
    rw [← hu2]
    refine Z_iconst (M := mX8_drawTableau) dX8_drawTableau_134 ?_
    refine J_istore_n (M := mX8_drawTableau) dX8_drawTableau_135 rfl (by decide) ?_
    refine Z_h (M := mX8_drawTableau) (h' := hm h (fs u2 22 (wz (u2 22) 1))) (by rw [wz_1, fs_id]) ?_
    refine J_sub (M := mX8_drawTableau) (dt_w (z := its (τ 1 0)) hz (its (τ 1 0) - 1).toNat 1 (by omega) (by omega) ?_) (And.intro rfl (And.intro rfl (And.intro rfl trivial)))
    rw [← hu3]
    refine J_aload_n (M := mX8_drawTableau) dX8_drawTableau_154 rfl rfl ?_
    refine M_call (M := mX8_drawTableau) (as := []) dX8_drawTableau_155 ca_X8_191 ⟨by decide, by decide⟩ rfl (Nat.le_of_ble_eq_true rfl) rfl rfl (c_sums W3) (fun v_155 t_155 hv_155 => ?_)
    obtain ⟨rfl, e_155⟩ := hv_155
    rw [e_155]
    have es : smF u3 (u3 9 0).toNat = sm u3 := rfl
    rw [es]
    refine Z_iconst (M := mX8_drawTableau) dX8_drawTableau_158 ?_
    refine J_istore_n (M := mX8_drawTableau) dX8_drawTableau_159 rfl (by decide) ?_
    refine Z_h (M := mX8_drawTableau) (h' := hm h (fs (sm u3) 22 (wl (sm u3 22) (lf (sm u3)) (its (τ 1 0)) 0))) (by rw [wl_0, fs_id]) ?_
    refine J_sub (M := mX8_drawTableau) (dt_v (z := its (τ 1 0)) W4 hz (fun i => wf22 W4 i) (its (τ 1 0)).toNat 0 (by omega) (by omega) ?_) (And.intro rfl (And.intro rfl (And.intro rfl trivial)))
    refine J_aload_n (M := mX8_drawTableau) dX8_drawTableau_209 rfl rfl ?_
    refine J_iload_n (M := mX8_drawTableau) dX8_drawTableau_210 rfl rfl ?_
    refine M_puti (M := mX8_drawTableau) dX8_drawTableau_211 fi_X8_95 rfl (by decide) rfl ?_
    refine J_aload_n (M := mX8_drawTableau) dX8_drawTableau_214 rfl rfl ?_
    refine Z_iconst (M := mX8_drawTableau) dX8_drawTableau_215 ?_
    refine M_puti (M := mX8_drawTableau) dX8_drawTableau_216 fi_X8_47 rfl (by decide) rfl ?_
    refine J_aload_n (M := mX8_drawTableau) dX8_drawTableau_219 rfl rfl ?_
    refine M_call (M := mX8_drawTableau) (as := []) dX8_drawTableau_220 ca_X8_115 ⟨by decide, by decide⟩ rfl (Nat.le_of_ble_eq_true rfl) rfl rfl (c_follows W5) (fun v_220 t_220 hv_220 => ?_)
    obtain ⟨rfl, e_220⟩ := hv_220
    rw [e_220]
    refine J_aload_n (M := mX8_drawTableau) dX8_drawTableau_223 rfl rfl ?_
    refine M_get (M := mX8_drawTableau) dX8_drawTableau_224 fi_X8_95 rfl ?_
    refine Z_eq (M := mX8_drawTableau) (b := its (τ 1 0)) (by rw [fol_k (by decide)]; rfl) ?_
    refine M_iret (M := mX8_drawTableau) dX8_drawTableau_227 rfl ?_
    exact And.intro (WF_fol W5) (Or.inr (And.intro rfl (And.intro rfl (And.intro (by rw [fol_k (by decide)]; show sm u3 33 0 = 0; rw [sm_at33, hu3, fs_n (by decide), hu2, fs_n (by decide)]; exact w33) ⟨w, Ww, Sw, by rw [h5]⟩))))
    
    
    
  have hj34 : ∀ (u : TS) (x : Int), (u = τ ∨ u = arT τ (τ 9 0).toNat) → x = pI (0 < τ 8 0 ∧ τ 21 0 = 0 ∧ τ 19 0 = 0 ∧ dcd τ (τ 9 0).toNat) → J X mX8_drawTableau 34 [some (vR (some (20, 0))), none, none, none] [vI (iI x), vR (some (20, 0))] (hm h u) (mR mX8_drawTableau).cells (mR mX8_drawTableau).slots (QM h (ansX τ (gl (pI (0 < τ 8 0 ∧ τ 21 0 = 0 ∧ τ 19 0 = 0 ∧ dcd τ (τ 9 0).toNat)) 1 1) (its (τ 1 0)) (fun w => fol (dt4 w)))) := by
    intro u x hu hx
    subst hx
    have Wu : WF u := hu.elim (fun e => e ▸ W) (fun e => e ▸ WF_arT W _)
    have SU : SQ u τ := hu.elim (fun e => e ▸ SQ_rfl) (fun e => e ▸ SQ_arT _)
    have b1 := wf1 W 0
    have e1 : u 1 0 = τ 1 0 := congrFun (SU 1 (by decide)) 0
    refine Z_iconst (M := mX8_drawTableau) dX8_drawTableau_34 ?_
    refine Z_iconst (M := mX8_drawTableau) dX8_drawTableau_35 ?_
    refine M_call (M := mX8_drawTableau) (as := [_, _, _]) dX8_drawTableau_36 ca_X8_101 ⟨by decide, by decide⟩ rfl (Nat.le_of_ble_eq_true rfl) rfl rfl (c_goes (by first | assumption | exact pI_rg _ | (unfold rg; omega)) (by first | assumption | exact pI_rg _ | (unfold rg; omega)) (by first | assumption | exact pI_rg _ | (unfold rg; omega))) (fun v_36 t_36 hv_36 => ?_)
    obtain ⟨rfl, e_36⟩ := hv_36
    rw [e_36]
    have W1 : WF (ts u 33 0 (gl (pI (0 < τ 8 0 ∧ τ 21 0 = 0 ∧ τ 19 0 = 0 ∧ dcd τ (τ 9 0).toNat)) 1 1)) := WF_ts Wu gl_rg
    first
      | refine Z_pt (M := mX8_drawTableau) (tgt := 44) dX8_drawTableau_39 (by decide) (fun c_39 => ?_) (fun c_39 => ?_)
      | refine Z_if_ne (M := mX8_drawTableau) (tgt := 44) (by first | assumption | exact pI_rg _ | (unfold rg; omega)) dX8_drawTableau_39 (by decide) (fun c_39 => ?_) (fun c_39 => ?_)
    · rw [gl_0 c_39] at W1
      rw [gl_0 c_39]
      have hj61 := fun z => hj61 (ts u 33 0 0) z W1 (SQ_l (by decide) SU) rfl
      refine Z_iconst (M := mX8_drawTableau) dX8_drawTableau_44 ?_
      refine J_istore_n (M := mX8_drawTableau) dX8_drawTableau_45 rfl (by decide) ?_
      refine J_iload_n (M := mX8_drawTableau) dX8_drawTableau_46 rfl rfl ?_
      refine J_aload_n (M := mX8_drawTableau) dX8_drawTableau_47 rfl rfl ?_
      refine M_get (M := mX8_drawTableau) dX8_drawTableau_48 fi_X8_82 rfl ?_
      refine Z_eq (M := mX8_drawTableau) e1 ?_
      refine Z_ic_ge (M := mX8_drawTableau) (tgt := 61) (by first | assumption | exact pI_rg _ | (unfold rg; omega)) (by first | assumption | exact pI_rg _ | (unfold rg; omega)) dX8_drawTableau_51 (by decide) (fun c_51 => ?_) (fun c_51 => ?_)
      · exact hj61 _ (by rw [its_e]; (repeat' split) <;> omega)
      · refine J_iload_n (M := mX8_drawTableau) dX8_drawTableau_54 rfl rfl ?_
        refine Z_iconst (M := mX8_drawTableau) dX8_drawTableau_55 ?_
        refine Z_imul (M := mX8_drawTableau) dX8_drawTableau_56 ?_
        refine J_istore_n (M := mX8_drawTableau) dX8_drawTableau_57 rfl (by decide) ?_
        refine J_goto (M := mX8_drawTableau) (tgt := 46) dX8_drawTableau_58 (by decide) ?_
        refine J_iload_n (M := mX8_drawTableau) dX8_drawTableau_46 rfl rfl ?_
        refine J_aload_n (M := mX8_drawTableau) dX8_drawTableau_47 rfl rfl ?_
        refine M_get (M := mX8_drawTableau) dX8_drawTableau_48 fi_X8_82 rfl ?_
        refine Z_eq (M := mX8_drawTableau) e1 ?_
        refine Z_ic_ge (M := mX8_drawTableau) (tgt := 61) (by first | assumption | exact pI_rg _ | (unfold rg; omega)) (by first | assumption | exact pI_rg _ | (unfold rg; omega)) dX8_drawTableau_51 (by decide) (fun c_51 => ?_) (fun c_51 => ?_)
        · exact hj61 _ (by rw [its_e]; (repeat' split) <;> omega)
        · refine J_iload_n (M := mX8_drawTableau) dX8_drawTableau_54 rfl rfl ?_
          refine Z_iconst (M := mX8_drawTableau) dX8_drawTableau_55 ?_
          refine Z_imul (M := mX8_drawTableau) dX8_drawTableau_56 ?_
          refine J_istore_n (M := mX8_drawTableau) dX8_drawTableau_57 rfl (by decide) ?_
          refine J_goto (M := mX8_drawTableau) (tgt := 46) dX8_drawTableau_58 (by decide) ?_
          refine J_iload_n (M := mX8_drawTableau) dX8_drawTableau_46 rfl rfl ?_
          refine J_aload_n (M := mX8_drawTableau) dX8_drawTableau_47 rfl rfl ?_
          refine M_get (M := mX8_drawTableau) dX8_drawTableau_48 fi_X8_82 rfl ?_
          refine Z_eq (M := mX8_drawTableau) e1 ?_
          refine Z_ic_ge (M := mX8_drawTableau) (tgt := 61) (by first | assumption | exact pI_rg _ | (unfold rg; omega)) (by first | assumption | exact pI_rg _ | (unfold rg; omega)) dX8_drawTableau_51 (by decide) (fun c_51 => ?_) (fun c_51 => ?_)
          · exact hj61 _ (by rw [its_e]; (repeat' split) <;> omega)
          · refine J_iload_n (M := mX8_drawTableau) dX8_drawTableau_54 rfl rfl ?_
            refine Z_iconst (M := mX8_drawTableau) dX8_drawTableau_55 ?_
            refine Z_imul (M := mX8_drawTableau) dX8_drawTableau_56 ?_
            refine J_istore_n (M := mX8_drawTableau) dX8_drawTableau_57 rfl (by decide) ?_
            refine J_goto (M := mX8_drawTableau) (tgt := 46) dX8_drawTableau_58 (by decide) ?_
            refine J_iload_n (M := mX8_drawTableau) dX8_drawTableau_46 rfl rfl ?_
            refine J_aload_n (M := mX8_drawTableau) dX8_drawTableau_47 rfl rfl ?_
            refine M_get (M := mX8_drawTableau) dX8_drawTableau_48 fi_X8_82 rfl ?_
            refine Z_eq (M := mX8_drawTableau) e1 ?_
            refine Z_ic_ge (M := mX8_drawTableau) (tgt := 61) (by first | assumption | exact pI_rg _ | (unfold rg; omega)) (by first | assumption | exact pI_rg _ | (unfold rg; omega)) dX8_drawTableau_51 (by decide) (fun c_51 => ?_) (fun c_51 => ?_)
            · exact hj61 _ (by rw [its_e]; (repeat' split) <;> omega)
            · omega
            
          
        
      
    · refine Z_iconst (M := mX8_drawTableau) dX8_drawTableau_42 ?_
      refine M_iret (M := mX8_drawTableau) dX8_drawTableau_43 rfl ?_
      exact And.intro (by assumption) (Or.inl (And.intro (gl_n (by assumption)) (And.intro rfl (And.intro ts0 (SQ_l (by decide) SU)))))
  refine CM_of (by decide +kernel) rfl (Nat.le_of_ble_eq_true rfl) ?_
  refine J_aload_n (M := mX8_drawTableau) dX8_drawTableau_0 rfl rfl ?_
  refine J_aload_n (M := mX8_drawTableau) dX8_drawTableau_1 rfl rfl ?_
  refine M_get (M := mX8_drawTableau) dX8_drawTableau_2 fi_X8_98 rfl ?_
  refine Z_eq (M := mX8_drawTableau) (b := τ 8 0) rfl ?_
  refine Z_if_le (M := mX8_drawTableau) (tgt := 33) (by first | assumption | exact pI_rg _ | (unfold rg; omega)) dX8_drawTableau_5 (by decide) (fun c_5 => ?_) (fun c_5 => ?_)
  · refine Z_iconst (M := mX8_drawTableau) dX8_drawTableau_33 ?_
    exact hj34 _ _ (by first | exact Or.inl rfl | exact Or.inr rfl) (pI_f (by first | omega | exact fun q => by have := q.2.2.2; contradiction)).symm
  · refine J_aload_n (M := mX8_drawTableau) dX8_drawTableau_8 rfl rfl ?_
    refine M_get (M := mX8_drawTableau) dX8_drawTableau_9 fi_X8_95 rfl ?_
    refine Z_eq (M := mX8_drawTableau) (b := τ 21 0) rfl ?_
    first
      | refine Z_pt (M := mX8_drawTableau) (tgt := 33) dX8_drawTableau_12 (by decide) (fun c_12 => ?_) (fun c_12 => ?_)
      | refine Z_if_ne (M := mX8_drawTableau) (tgt := 33) (by first | assumption | exact pI_rg _ | (unfold rg; omega)) dX8_drawTableau_12 (by decide) (fun c_12 => ?_) (fun c_12 => ?_)
    · refine Z_iconst (M := mX8_drawTableau) dX8_drawTableau_33 ?_
      exact hj34 _ _ (by first | exact Or.inl rfl | exact Or.inr rfl) (pI_f (by first | omega | exact fun q => by have := q.2.2.2; contradiction)).symm
    · refine J_aload_n (M := mX8_drawTableau) dX8_drawTableau_15 rfl rfl ?_
      refine M_get (M := mX8_drawTableau) dX8_drawTableau_16 fi_X8_112 rfl ?_
      refine Z_eq (M := mX8_drawTableau) (b := τ 19 0) rfl ?_
      first
        | refine Z_pt (M := mX8_drawTableau) (tgt := 33) dX8_drawTableau_19 (by decide) (fun c_19 => ?_) (fun c_19 => ?_)
        | refine Z_if_ne (M := mX8_drawTableau) (tgt := 33) (by first | assumption | exact pI_rg _ | (unfold rg; omega)) dX8_drawTableau_19 (by decide) (fun c_19 => ?_) (fun c_19 => ?_)
      · refine Z_iconst (M := mX8_drawTableau) dX8_drawTableau_33 ?_
        exact hj34 _ _ (by first | exact Or.inl rfl | exact Or.inr rfl) (pI_f (by first | omega | exact fun q => by have := q.2.2.2; contradiction)).symm
      · refine J_aload_n (M := mX8_drawTableau) dX8_drawTableau_22 rfl rfl ?_
        refine M_call (M := mX8_drawTableau) (as := []) dX8_drawTableau_23 ca_X8_200 ⟨by decide, by decide⟩ rfl (Nat.le_of_ble_eq_true rfl) rfl rfl (c_areDecided W) (fun v_23 t_23 hv_23 => ?_)
        obtain ⟨rfl, e_23⟩ := hv_23
        rw [e_23]
        first
          | refine Z_pf (M := mX8_drawTableau) (tgt := 33) dX8_drawTableau_26 (by decide) (fun c_26 => ?_) (fun c_26 => ?_)
          | refine Z_if_eq (M := mX8_drawTableau) (tgt := 33) (by first | assumption | exact pI_rg _ | (unfold rg; omega)) dX8_drawTableau_26 (by decide) (fun c_26 => ?_) (fun c_26 => ?_)
        · refine Z_iconst (M := mX8_drawTableau) dX8_drawTableau_33 ?_
          exact hj34 _ _ (by first | exact Or.inl rfl | exact Or.inr rfl) (pI_f (by first | omega | exact fun q => by have := q.2.2.2; contradiction)).symm
        · refine Z_iconst (M := mX8_drawTableau) dX8_drawTableau_29 ?_
          refine J_goto (M := mX8_drawTableau) (tgt := 34) dX8_drawTableau_30 (by decide) ?_
          exact hj34 _ _ (by first | exact Or.inl rfl | exact Or.inr rfl) (pI_t (by refine And.intro (by omega) (And.intro (by omega) (And.intro (by omega) (by assumption))))).symm

