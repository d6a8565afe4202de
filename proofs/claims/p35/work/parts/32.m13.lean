/-! THE REFERENCE: the draw of the tableau, done -/
theorem ahP_eq {u t : TS} (e1 : u 29 = t 29) (e2 : u 30 = t 30) (e3 : u 31 = t 31) (e4 : u 32 = t 32) : ahP u = ahP t := by
  funext a b
  unfold ahP ahd
  rw [e1, e2, e3, e4]
theorem cnA_eq {u t : TS} (e : ahP u = ahP t) : ∀ (m : Nat) (i : Int), cnA u i m = cnA t i m
  | 0, _ => rfl
  | m + 1, i => by
      show cnA u i m + pI (¬ (m : Int) = i ∧ ahP u m i) = cnA t i m + pI (¬ (m : Int) = i ∧ ahP t m i)
      rw [cnA_eq e m i, e]
theorem rkF_eq {u t : TS} (e : ahP u = ahP t) (p n : Int) : ∀ i : Nat, rkF u p n i = rkF t p n i
  | 0 => rfl
  | i + 1 => by
      show (if cnA u i n.toNat = p then (i : Int) else rkF u p n i) = (if cnA t i n.toNat = p then (i : Int) else rkF t p n i)
      rw [cnA_eq e, rkF_eq e p n i]
theorem rkF_lt {u : TS} {p n : Int} : ∀ i : Nat, 0 ≤ rkF u p n i ∧ (rkF u p n i < i ∨ rkF u p n i = 0)
  | 0 => by show (0 : Int) ≤ 0 ∧ ((0 : Int) < ((0 : Nat) : Int) ∨ (0 : Int) = 0); omega
  | i + 1 => by
      have h := rkF_lt (u := u) (p := p) (n := n) i
      show 0 ≤ (if cnA u i n.toNat = p then (i : Int) else rkF u p n i) ∧ ((if cnA u i n.toNat = p then (i : Int) else rkF u p n i) < ((i + 1 : Nat) : Int) ∨ (if cnA u i n.toNat = p then (i : Int) else rkF u p n i) = 0)
      split <;> omega
/-- who is laid on a leaf -/
noncomputable def lf (u : TS) (c : Int) : Int := if u 1 0 < u 28 c then -2 else rkF u (u 28 c - 1) (u 1 0) (u 1 0).toNat
theorem lf_rg {u : TS} (W : WF u) (c : Int) : -2 ≤ lf u c ∧ lf u c ≤ 11 := by
  have h := rkF_lt (u := u) (p := u 28 c - 1) (n := u 1 0) (u 1 0).toNat
  have b1 := wf1 W 0
  unfold lf
  split <;> omega
theorem wl_rg {g v : Int → Int} {z c : Int} (hg : ∀ i, -2 ≤ g i ∧ g i ≤ 11) (hv : ∀ i, -2 ≤ v i ∧ v i ≤ 11) (i : Int) : -2 ≤ wl g v z c i ∧ wl g v z c i ≤ 11 := by
  unfold wl
  split
  · exact hv _
  · exact hg _
theorem wz_rg {g : Int → Int} {c : Int} (hg : ∀ i, -2 ≤ g i ∧ g i ≤ 11) (i : Int) : -2 ≤ wz g c i ∧ wz g c i ≤ 11 := by
  unfold wz
  split
  · omega
  · exact hg _
theorem fstep_k {τ : TS} {c : Int} {k : Nat} (h : ¬ (k = 10 ∨ k = 11 ∨ k = 17 ∨ (22 ≤ k ∧ k ≤ 27))) : fstep τ c k = τ k := by
  unfold fstep
  rw [ts_n (by omega), ts_n (by omega)]
  have e : ∀ u : TS, ftel u c k = u k := by
    intro u
    unfold ftel t3
    split
    · rw [ts_n (by omega), ts_n (by omega), ts_n (by omega)]
    · rfl
  rw [e]
  unfold frst
  split
  · rw [ts_n (by omega), ts_n (by omega), ts_n (by omega), ts_n (by omega), ts_n (by omega)]
  · rfl
theorem folG_k {τ : TS} {sz : Int} {k : Nat} (h : ¬ (k = 10 ∨ k = 11 ∨ k = 17 ∨ (22 ≤ k ∧ k ≤ 27))) : ∀ i, folG τ sz i k = τ k
  | 0 => rfl
  | i + 1 => by show fstep (folG τ sz i) _ k = τ k; rw [fstep_k h, folG_k h i]
theorem fol_k {τ : TS} {k : Nat} (h : ¬ (k = 10 ∨ k = 11 ∨ k = 17 ∨ (22 ≤ k ∧ k ≤ 27))) : fol τ k = τ k := by
  unfold fol
  rw [folG_k h]
  unfold clr
  exact if_neg (by omega)
/-- the state in which the tableau is drawn: before the sums, and whole -/
def dt3 (w : TS) : TS := fs (fs w 28 (sq0 (w 28) (itd (w 1 0)))) 22 (wz (w 22) (its (w 1 0)))
noncomputable def dt4 (w : TS) : TS := ts (ts (fs (sm (dt3 w)) 22 (wl (dt3 w 22) (lf (sm (dt3 w))) (its (w 1 0)) (its (w 1 0)))) 21 0 (its (w 1 0))) 17 0 (-1)
def ansX (τ : TS) (g : Int) (v : Int) (T : TS → TS) (r : Option LV) (u : TS) : Prop := WF u ∧ ((¬ g = 0 ∧ r = some (vI (iI 0)) ∧ u 33 0 = g ∧ SQ u τ) ∨ (g = 0 ∧ r = some (vI (iI v)) ∧ u 33 0 = 0 ∧ ∃ w, WF w ∧ SQ w τ ∧ u = T w))
