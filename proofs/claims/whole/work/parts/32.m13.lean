/-! THE REFERENCE: the draw of the tableau, done -/
theorem ahP_eq {u t : TS} (e1 : u 29 = t 29) (e2 : u 30 = t 30) (e3 : u 31 = t 31) (e4 : u 32 = t 32) : ahP u = ahP t := by
  funext a b
  unfold ahP ahd
  rw [e1, e2, e3, e4]
theorem cnA_eq {u t : TS} (e : ahP u = ahP t) : ∀ (m : Nat) (i : Int), cnA u i m = cnA t i m
  | 0, _ => rfl
  | m + 1, i => by
      show cnA u i m + pI (¬ (m : Int) = i ∧ ahP u m i) = cnA t i m + pI (¬ (m : Int) = i ∧ ahP t m i)
      rw [cnA_eq e m i, e]
theorem rkF_eq {u t : TS} (e : ahP u = ahP t) (p n : Int) : ∀ i : Nat, rkF u p n i = rkF t p n i
  | 0 => rfl
  | i + 1 => by
      show (if cnA u i n.toNat = p then (i : Int) else rkF u p n i) = (if cnA t i n.toNat = p then (i : Int) else rkF t p n i)
      rw [cnA_eq e, rkF_eq e p n i]
theorem rkF_lt {u : TS} {p n : Int} : ∀ i : Nat, 0 ≤ rkF u p n i ∧ (rkF u p n i < i ∨ rkF u p n i = 0)
  | 0 => by show (0 : Int) ≤ 0 ∧ ((0 : Int) < ((0 : Nat) : Int) ∨ (0 : Int) = 0); omega
  | i + 1 => by
      have h := rkF_lt (u := u) (p := p) (n := n) i
      show 0 ≤ (if cnA u i n.toNat = p then (i : Int) else rkF u p n i) ∧ ((if cnA u i n.toNat = p then (i : Int) else rkF u p n i) < ((i + 1 : Nat) : Int) ∨ (if cnA u i n.toNat = p then (i : Int) else rkF u p n i) = 0)
      split <;> omega
/-- who is laid on a leaf -/
noncomputable def lf (u : TS) (c : Int) : Int := if u 1 0 < u 28 c then -2 else rkF u (u 28 c - 1) (u 1 0) (u 1 0).toNat
theorem lf_rg {u : TS} (W : WF u) (c : Int) : -2 ≤ lf u c ∧ lf u c ≤ 11 := by
  have h := rkF_lt (u := u) (p := u 28 c - 1) (n := u 1 0) (u 1 0).toNat
  have b1 := wf1 W 0
  unfold lf
  split <;> omega
theorem wl_rg {g v : Int → Int} {z c : Int} (hg : ∀ i, -2 ≤ g i ∧ g i ≤ 11) (hv : ∀ i, -2 ≤ v i ∧ v i ≤ 11) (i : Int) : -2 ≤ wl g v z c i ∧ wl g v z c i ≤ 11 := by
  unfold wl
  split
  · exact hv _
  · exact hg _
theorem wz_rg {g : Int → Int} {c : Int} (hg : ∀ i, -2 ≤ g i ∧ g i ≤ 11) (i : Int) : -2 ≤ wz g c i ∧ wz g c i ≤ 11 := by
  unfold wz
  split
  · omega
  · exact hg _
set_option maxRecDepth 100000 in
set_option maxHeartbeats 4000000 in
theorem dt_v {X : GX} {h : LH} {τ : TS} {k n : Nat} {Q : LO → LH → Prop} {z : Int} {g : Int → Int} (W : WF τ) (hz : 1 ≤ z ∧ z ≤ 16) (hg : ∀ i, -2 ≤ g i ∧ g i ≤ 11) : ∀ (m : Nat) (c : Int), 0 ≤ c → c + m = z → J X mX8_drawTableau 209 [some (vR (some (20, 0))), some (vI (iI z)), none, none] [] (hm h (fs τ 22 (wl g (lf τ) z z))) k n Q → J X mX8_drawTableau 160 [some (vR (some (20, 0))), some (vI (iI z)), none, some (vI (iI c))] [] (hm h (fs τ 22 (wl g (lf τ) z c))) k n Q := by
  intro m
  induction m with
  | zero =>
    intro c h0 h1 kk
    have e0 : c = z := by omega
    subst e0
    refine J_iload_n (M := mX8_drawTableau) dX8_drawTableau_160 rfl rfl ?_
    refine J_iload_n (M := mX8_drawTableau) dX8_drawTableau_161 rfl rfl ?_
    refine Z_ic_ge (M := mX8_drawTableau) (tgt := 209) (by first | assumption | exact pI_rg _ | (unfold rg; omega)) (by first | assumption | exact pI_rg _ | (unfold rg; omega)) dX8_drawTableau_162 (by decide) (fun c_162 => ?_) (fun c_162 => ?_)
    · exact J_sub kk (And.intro rfl (And.intro rfl trivial))
    · omega
  | succ m ih =>
    intro c h0 h1 kk
    have kk2 := ih (c + 1) (by omega) (by omega) kk
    have b1 := wf1 W 0
    have b28 := wf28 W c
    have wc : WF (fs τ 22 (wl g (lf τ) z c)) := WF_fs W (wl_rg hg (lf_rg W))
    have er : ∀ p, rkF (fs τ 22 (wl g (lf τ) z c)) p (τ 1 0) (τ 1 0).toNat = rkF τ p (τ 1 0) (τ 1 0).toNat := fun p => rkF_eq (ahP_eq rfl rfl rfl rfl) _ _ _
    rw [← wl_s h0, ← ts_fs] at kk2
    refine J_iload_n (M := mX8_drawTableau) dX8_drawTableau_160 rfl rfl ?_
    refine J_iload_n (M := mX8_drawTableau) dX8_drawTableau_161 rfl rfl ?_
    refine Z_ic_ge (M := mX8_drawTableau) (tgt := 209) (by first | assumption | exact pI_rg _ | (unfold rg; omega)) (by first | assumption | exact pI_rg _ | (unfold rg; omega)) dX8_drawTableau_162 (by decide) (fun c_162 => ?_) (fun c_162 => ?_)
    · omega
    · refine J_aload_n (M := mX8_drawTableau) dX8_drawTableau_165 rfl rfl ?_
      refine M_get (M := mX8_drawTableau) (v := vR (some (62, 0))) dX8_drawTableau_166 fi_X8_54 rfl ?_
      refine J_iload_n (M := mX8_drawTableau) dX8_drawTableau_169 rfl rfl ?_
      refine J_iload_n (M := mX8_drawTableau) dX8_drawTableau_170 rfl rfl ?_
      refine Z_iadd (M := mX8_drawTableau) dX8_drawTableau_171 ?_
      refine Z_ij (M := mX8_drawTableau) (pcB := 202) (lf τ c) (fun hj_202 => ?_) ?_
      · refine J_aload_n (M := mX8_drawTableau) dX8_drawTableau_172 rfl rfl ?_
        refine M_get (M := mX8_drawTableau) (v := vR (some (68, 0))) dX8_drawTableau_173 fi_X8_60 rfl ?_
        refine J_iload_n (M := mX8_drawTableau) dX8_drawTableau_176 rfl rfl ?_
        refine M_iald (M := mX8_drawTableau) (kf := 28) (N := 16) dX8_drawTableau_177 rfl (by decide) (by omega) (by omega) ?_
        refine Z_eq (M := mX8_drawTableau) (b := τ 28 c) (rfl) ?_
        refine J_aload_n (M := mX8_drawTableau) dX8_drawTableau_178 rfl rfl ?_
        refine M_get (M := mX8_drawTableau) dX8_drawTableau_179 fi_X8_82 rfl ?_
        refine Z_eq (M := mX8_drawTableau) (b := τ 1 0) (rfl) ?_
        refine Z_ic_le (M := mX8_drawTableau) (tgt := 190) (by first | assumption | exact pI_rg _ | (unfold rg; omega)) (by first | assumption | exact pI_rg _ | (unfold rg; omega)) dX8_drawTableau_182 (by decide) (fun c_182 => ?_) (fun c_182 => ?_)
        · refine J_aload_n (M := mX8_drawTableau) dX8_drawTableau_190 rfl rfl ?_
          refine J_aload_n (M := mX8_drawTableau) dX8_drawTableau_191 rfl rfl ?_
          refine M_get (M := mX8_drawTableau) (v := vR (some (68, 0))) dX8_drawTableau_192 fi_X8_60 rfl ?_
          refine J_iload_n (M := mX8_drawTableau) dX8_drawTableau_195 rfl rfl ?_
          refine M_iald (M := mX8_drawTableau) (kf := 28) (N := 16) dX8_drawTableau_196 rfl (by decide) (by omega) (by omega) ?_
          refine Z_eq (M := mX8_drawTableau) (b := τ 28 c) (rfl) ?_
          refine Z_iconst (M := mX8_drawTableau) dX8_drawTableau_197 ?_
          refine Z_isub (M := mX8_drawTableau) dX8_drawTableau_198 ?_
          refine M_call (M := mX8_drawTableau) (as := [_]) dX8_drawTableau_199 ca_X8_197 ⟨by decide, by decide⟩ rfl (Nat.le_of_ble_eq_true rfl) rfl rfl (c_ranked wc (by unfold rg; omega)) (fun v_199 t_199 hv_199 => ?_)
          obtain ⟨rfl, e_199⟩ := hv_199
          rw [e_199]
          refine Z_eq (M := mX8_drawTableau) (er _) ?_
          exact hj_202 _ (by unfold lf; first | rw [if_pos (by omega)] | rw [if_neg (by omega)])
        · refine Z_bipush (M := mX8_drawTableau) dX8_drawTableau_185 rfl ?_
          refine J_goto (M := mX8_drawTableau) (tgt := 202) dX8_drawTableau_187 (by decide) ?_
          exact hj_202 _ (by unfold lf; first | rw [if_pos (by omega)] | rw [if_neg (by omega)])
      refine M_iast (M := mX8_drawTableau) (kf := 22) (N := 32) dX8_drawTableau_202 rfl rfl rfl rfl (by decide) (by decide) (by omega) (by omega) ?_
      refine Z_iinc (M := mX8_drawTableau) dX8_drawTableau_203 rfl (by decide) ?_
      refine J_goto (M := mX8_drawTableau) (tgt := 160) dX8_drawTableau_206 (by decide) ?_
      exact J_sub kk2 (And.intro rfl (And.intro rfl (And.intro rfl trivial)))

theorem fstep_k {τ : TS} {c : Int} {k : Nat} (h : ¬ (k = 10 ∨ k = 11 ∨ k = 17 ∨ (22 ≤ k ∧ k ≤ 27))) : fstep τ c k = τ k := by
  unfold fstep
  rw [ts_n (by omega), ts_n (by omega)]
  have e : ∀ u : TS, ftel u c k = u k := by
    intro u
    unfold ftel t3
    split
    · rw [ts_n (by omega), ts_n (by omega), ts_n (by omega)]
    · rfl
  rw [e]
  unfold frst
  split
  · rw [ts_n (by omega), ts_n (by omega), ts_n (by omega), ts_n (by omega), ts_n (by omega)]
  · rfl
theorem folG_k {τ : TS} {sz : Int} {k : Nat} (h : ¬ (k = 10 ∨ k = 11 ∨ k = 17 ∨ (22 ≤ k ∧ k ≤ 27))) : ∀ i, folG τ sz i k = τ k
  | 0 => rfl
  | i + 1 => by show fstep (folG τ sz i) _ k = τ k; rw [fstep_k h, folG_k h i]
theorem fol_k {τ : TS} {k : Nat} (h : ¬ (k = 10 ∨ k = 11 ∨ k = 17 ∨ (22 ≤ k ∧ k ≤ 27))) : fol τ k = τ k := by
  unfold fol
  rw [folG_k h]
  unfold clr
  exact if_neg (by omega)
/-- the state in which the tableau is drawn: before the sums, and whole -/
def dt3 (w : TS) : TS := fs (fs w 28 (sq0 (w 28) (itd (w 1 0)))) 22 (wz (w 22) (its (w 1 0)))
noncomputable def dt4 (w : TS) : TS := ts (ts (fs (sm (dt3 w)) 22 (wl (dt3 w 22) (lf (sm (dt3 w))) (its (w 1 0)) (its (w 1 0)))) 21 0 (its (w 1 0))) 17 0 (-1)
def ansX (τ : TS) (g : Int) (v : Int) (T : TS → TS) (r : Option LV) (u : TS) : Prop := WF u ∧ ((¬ g = 0 ∧ r = some (vI (iI 0)) ∧ u 33 0 = g ∧ SQ u τ) ∨ (g = 0 ∧ r = some (vI (iI v)) ∧ u 33 0 = 0 ∧ ∃ w, WF w ∧ SQ w τ ∧ u = T w))
