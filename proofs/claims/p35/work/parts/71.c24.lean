/-! THE CLASS: drawTableau -/
theorem smF_28 {τ : TS} : ∀ i, smF τ i 28 = τ 28
  | 0 => by show zr τ 12 28 = τ 28; unfold zr; rw [if_neg (by decide)]
  | i + 1 => by
    show sm1 τ (smF τ i) i 28 = τ 28
    unfold sm1
    split
    · exact smF_28 i
    · exact smF_28 i
theorem sm_28 {τ : TS} : sm τ 28 = τ 28 := smF_28 _
/-- the sums rest on the bouts alone -/
theorem smF_e2 {τ τ' : TS} (et : te τ = te τ') (e6 : τ 6 = τ' 6) (e7 : τ 7 = τ' 7) (W' : WF τ') : ∀ (i : Nat) (k : Nat) (j : Int), (k = 29 ∨ k = 30 ∨ k = 31 ∨ k = 32) → 0 ≤ j → j < 12 → smF τ i k j = smF τ' i k j
  | 0, k, j, hk, h0, h1 => by
      show zr τ 12 k j = zr τ' 12 k j
      have Z : ∀ t : TS, zr t 12 k j = 0 := fun t => by
        unfold zr
        rw [if_pos (by omega)]
        exact if_pos (by omega)
      rw [Z, Z]
  | i + 1, k, j, hk, h0, h1 => by
      have b6 := wf6 W' i
      have b7 := wf7 W' i
      exact sm1_eq (by rw [et]) e6 e7 hk (fun f _ g0 g1 => ⟨smF_e2 et e6 e7 W' i 29 f (by decide) g0 g1, smF_e2 et e6 e7 W' i 30 f (by decide) g0 g1, smF_e2 et e6 e7 W' i 31 f (by decide) g0 g1, smF_e2 et e6 e7 W' i 32 f (by decide) g0 g1⟩) h0 h1 (by omega) (by omega)
def SU4 (u t : TS) (n : Int) : Prop := ∀ a, 0 ≤ a → a < n → u 29 a = t 29 a ∧ u 30 a = t 30 a ∧ u 31 a = t 31 a ∧ u 32 a = t 32 a
theorem ahP_loc {u t : TS} {n a b : Int} (h : SU4 u t n) (ha : 0 ≤ a ∧ a < n) (hb : 0 ≤ b ∧ b < n) : ahP u a b ↔ ahP t a b := by
  obtain ⟨x1, x2, x3, x4⟩ := h a ha.1 ha.2
  obtain ⟨y1, y2, y3, y4⟩ := h b hb.1 hb.2
  unfold ahP ahd
  rw [x1, x2, x3, x4, y1, y2, y3, y4]
theorem cnA_loc {u t : TS} {n i : Int} (h : SU4 u t n) (hi : 0 ≤ i ∧ i < n) : ∀ m : Nat, (m : Int) ≤ n → cnA u i m = cnA t i m
  | 0, _ => rfl
  | m + 1, hm => by
    show cnA u i m + pI (¬ (m : Int) = i ∧ ahP u m i) = cnA t i m + pI (¬ (m : Int) = i ∧ ahP t m i)
    rw [cnA_loc h hi m (by omega), pI_c (show (¬ (m : Int) = i ∧ ahP u m i) ↔ (¬ (m : Int) = i ∧ ahP t m i) by rw [ahP_loc h (by omega) hi])]
theorem rkF_loc {u t : TS} {n p : Int} (h : SU4 u t n) : ∀ i : Nat, (i : Int) ≤ n → rkF u p n i = rkF t p n i
  | 0, _ => rfl
  | i + 1, hi => by
    show (if cnA u i n.toNat = p then (i : Int) else rkF u p n i) = (if cnA t i n.toNat = p then (i : Int) else rkF t p n i)
    rw [cnA_loc h (by omega) n.toNat (by omega), rkF_loc h i (by omega)]
theorem d3_k {τ : TS} {k : Nat} (h : ¬ k = 22 ∧ ¬ k = 28) : dt3 τ k = τ k := by unfold dt3; rw [fs_n h.1, fs_n h.2]
theorem d3_22 {τ : TS} : dt3 τ 22 = wz (τ 22) (its (τ 1 0)) := by unfold dt3; rw [fs_s]
theorem d3_28 {τ : TS} : dt3 τ 28 = sq0 (τ 28) (itd (τ 1 0)) := by unfold dt3; rw [fs_n (by decide), fs_s]
theorem WF_d3 {τ : TS} (W : WF τ) : WF (dt3 τ) := WF_fs (WF_fs W (fun i => sq_b (fun i => wf28 W i) i)) (wz_rg (fun i => wf22 W i))
theorem WF_d4 {τ : TS} (W : WF τ) : WF (dt4 τ) := by
  have hi := its_r (F := τ 1 0)
  have W3 := WF_d3 W
  have W4 := WF_sm W3
  exact WF_ts (WF_ts (WF_fs W4 (wl_rg (fun i => wf22 W3 i) (lf_rg W4))) (show (0 : Int) ≤ _ ∧ _ ≤ (16 : Int) by omega)) (by decide)
theorem d4_k {τ : TS} {k : Nat} (h : (k < 23 ∨ k = 24) ∧ ¬ k = 17 ∧ ¬ k = 21 ∧ ¬ k = 22) : dt4 τ k = τ k := by
  unfold dt4
  rw [ts_n (by omega), ts_n (by omega), fs_n (by omega), SQ_sm k h.1, d3_k (by omega)]
theorem d4_17 {τ : TS} : dt4 τ 17 0 = -1 := ts_self
theorem d4_21 {τ : TS} : dt4 τ 21 0 = its (τ 1 0) := by unfold dt4; rw [tsN (by decide)]; exact ts_self
theorem d4_22 {τ : TS} : dt4 τ 22 = wl (wz (τ 22) (its (τ 1 0))) (lf (sm (dt3 τ))) (its (τ 1 0)) (its (τ 1 0)) := by
  unfold dt4
  rw [ts_n (by decide), ts_n (by decide), fs_s, d3_22]
theorem te_3 {τ : TS} : te (dt3 τ) = te τ := by
  funext b
  exact te_eq (tch_k (d3_k (by decide)) (fun k hk => d3_k (by omega)) (d3_k (by decide)) (d3_k (by decide))) (by rw [d3_k (by decide)])
theorem SU_3 {τ : TS} (W : WF τ) : SU4 (sm τ) (sm (dt3 τ)) 12 := by
  have e : ∀ (k : Nat) (j : Int), (k = 29 ∨ k = 30 ∨ k = 31 ∨ k = 32) → 0 ≤ j → j < 12 → sm τ k j = sm (dt3 τ) k j := fun k j hk h0 h1 => by
    unfold sm
    rw [d3_k (k := 9) (by decide)]
    exact smF_e2 te_3.symm (d3_k (by decide)).symm (d3_k (by decide)).symm (WF_d3 W) _ k j hk h0 h1
  intro a a0 a1
  exact ⟨e 29 a (by decide) a0 a1, e 30 a (by decide) a0 a1, e 31 a (by decide) a0 a1, e 32 a (by decide) a0 a1⟩
theorem lf_v {τ : TS} {c : Int} : lf (sm (dt3 τ)) c = if τ 1 0 < sq0 (τ 28) (itd (τ 1 0)) c then -2 else rkF (sm (dt3 τ)) (sq0 (τ 28) (itd (τ 1 0)) c - 1) (τ 1 0) (τ 1 0).toNat := by
  unfold lf
  rw [SQ_sm 1 (by decide), d3_k (k := 1) (by decide), sm_28, d3_28]
/-- the reference's own draw, whatever its scratch held -/
theorem d4_SQ {w τ : TS} (Ww : WF w) (W : WF τ) (e : SQ w τ) : SQ (dt4 w) (dt4 τ) := by
  intro k hk
  have hi := its_r (F := τ 1 0)
  have w1 := wf1 W 0
  have e1 : w 1 0 = τ 1 0 := by rw [e 1 (by decide)]
  by_cases c17 : k = 17
  · subst c17
    unfold dt4
    rw [ts_s, ts_s, ts_n (by decide), ts_n (by decide), fs_n (by decide), fs_n (by decide), SQ_sm 17 (by decide), SQ_sm 17 (by decide), d3_k (by decide), d3_k (by decide), e 17 (by decide)]
  by_cases c21 : k = 21
  · subst c21
    unfold dt4
    rw [ts_n (by decide), ts_s, ts_n (by decide), ts_s, fs_n (by decide), fs_n (by decide), SQ_sm 21 (by decide), SQ_sm 21 (by decide), d3_k (by decide), d3_k (by decide), e 21 (by decide), e1]
  by_cases c22 : k = 22
  · subst c22
    rw [d4_22, d4_22, e 22 (by decide), e1]
    funext y
    unfold wl
    by_cases z : its (τ 1 0) ≤ y ∧ y < its (τ 1 0) + its (τ 1 0)
    · rw [if_pos z, if_pos z, lf_v, lf_v, e1, sq_ind (s := w 28) (s' := τ 28) (itd (τ 1 0)) (y - its (τ 1 0)) (by omega) (by show _ < its (τ 1 0); omega)]
      have hS : SU4 (sm (dt3 w)) (sm (dt3 τ)) (τ 1 0) := fun a a0 a1 => by
        have x := SU_3 Ww a a0 (by omega)
        have x2 := SU_3 W a a0 (by omega)
        have q : ∀ (k : Nat), (k = 29 ∨ k = 30 ∨ k = 31 ∨ k = 32) → sm w k a = sm τ k a := fun k hk => by
          unfold sm
          rw [e 9 (by decide)]
          exact smF_eq e W _ k a hk a0 (by omega)
        have q29 := q 29 (by decide)
        have q30 := q 30 (by decide)
        have q31 := q 31 (by decide)
        have q32 := q 32 (by decide)
        omega
      rw [rkF_loc hS _ (by omega)]
    · rw [if_neg z, if_neg z]
  · rw [d4_k (by omega), d4_k (by omega), e k hk]
theorem fol_SQ {u t : TS} (Wu : WF u) (Wt : WF t) (e : SQ u t) : SQ (fol u) (fol t) := by
  have h := cfd_SQ (u 21 0 - 1).toNat u t e
  have a := fol_cfd Wu
  have b := fol_cfd Wt
  rw [show t 21 0 = u 21 0 by rw [e 21 (by decide)]] at b
  exact SQ_trans (SQ_symm a) (SQ_trans h b)
/-- the winners of the leaves, p places being seated -/
noncomputable def gP (g S : Int → Int) (z F : Int) (u : TS) (p : Int) : Int → Int := fun y => if z ≤ y ∧ y < z + z ∧ S (y - z) ≤ p then rkF u (S (y - z) - 1) F F.toNat else g y
theorem gP_s {g S : Int → Int} {z F p : Int} {u : TS} : stw (gP g S z F u p) S z (p + 1) (rkF u p F F.toNat) z = gP g S z F u (p + 1) := by
  funext y
  unfold stw gP
  by_cases a : z ≤ y ∧ y < z + z ∧ S (y - z) = p + 1
  · rw [if_pos a, if_pos ⟨a.1, a.2.1, by omega⟩, a.2.2, show p + 1 - 1 = p by omega]
  · rw [if_neg a]
    by_cases b : z ≤ y ∧ y < z + z ∧ S (y - z) ≤ p
    · rw [if_pos b, if_pos ⟨b.1, b.2.1, by omega⟩]
    · rw [if_neg b, if_neg (fun c => by
        by_cases d : S (y - z) = p + 1
        · exact a ⟨c.1, c.2.1, d⟩
        · exact b ⟨c.1, c.2.1, by omega⟩)]
theorem gP_0 {g S : Int → Int} {z F : Int} {u : TS} (hS : ∀ i, 0 ≤ i → i < z → 1 ≤ S i) : gP g S z F u 0 = g := by
  funext y
  unfold gP
  rw [if_neg (fun c => by have := hS (y - z) (by omega) (by omega); omega)]
theorem WK_gP {r : TS} (V : WK r) {S : Int → Int} {z F p : Int} {u : TS} (hF : 0 ≤ F ∧ F ≤ 12) : WK (fs r 46 (gP (r 46) S z F u p)) := by
  refine WK_fs V (fun i => ?_)
  show (-1 : Int) ≤ gP (r 46) S z F u p i ∧ gP (r 46) S z F u p i ≤ 11
  have a := wk46 V i
  have b := rkF_lt (u := u) (p := S (i - z) - 1) (n := F) F.toNat
  unfold gP
  split <;> omega
theorem RC_draw {ρ τ : TS} {c : Int} (R : RR ρ τ c) (h21 : τ 21 0 = 0) : RC (lyR (pst ρ (-1) (-1) (-1) (-1)) (τ 1 0)) τ := by
  obtain ⟨W, V, ⟨⟨a1, a2, a3, a4, a5, a6, a7, a8⟩, b1, b2, b3, b4, b5, b6⟩, S, Q, F⟩ := R
  have w9 := wf9 W 0
  have V1 := WK_pst V
  have ek : ∀ k, ¬ (17 ≤ k ∧ k ≤ 26) ∧ ¬ k = 48 ∧ ¬ k = 7 ∧ ¬ k = 43 ∧ ¬ k = 45 ∧ ¬ k = 46 ∧ ¬ (37 ≤ k ∧ k ≤ 42) → lyR (pst ρ (-1) (-1) (-1) (-1)) (τ 1 0) k = ρ k := fun k hk => by rw [ly_k (by omega), pst_k (by omega)]
  have el : ∀ k b, b < 67 → 17 ≤ k ∧ k ≤ 26 ∧ ¬ k = 23 → lyR (pst ρ (-1) (-1) (-1) (-1)) (τ 1 0) k b = ρ k b := fun k b hb hk => by rw [ly_lo hb hk, pst_k (by omega)]
  refine ⟨W, WK_lyR V1, ⟨by rw [ek 1 (by decide)]; exact a2, by rw [ek 47 (by decide)]; exact a3, by rw [ek 3 (by decide)]; exact a6⟩, by rw [ek 4 (by decide), ek 8 (by decide)]; exact b1, fun s s0 s1 => ?_, fun b x0 x1 => ?_⟩
  · rw [ek 6 (by decide), el 18 s (by omega) (by decide), el 19 s (by omega) (by decide)]
    exact b4 s s0 s1
  · obtain ⟨⟨g1, g2, g3, g4, g5, g6⟩, ⟨t1, t2⟩, t3, t4⟩ := S.2.2.1 b (Or.inl ⟨x0, x1⟩)
    have w10 := wf10 W b
    unfold BB BR TL
    rw [ly_48 (Or.inl (by omega)), pst_k (k := 48) (by decide), el 17 b (by omega) (by decide), el 24 b (by omega) (by decide), el 20 b (by omega) (by decide), el 25 b (by omega) (by decide), el 26 b (by omega) (by decide), el 21 b (by omega) (by decide), el 22 b (by omega) (by decide), ek 36 (by decide)]
    refine ⟨⟨g1, g2, g3, g4, g5, fun j j0 j1 => ?_⟩, ⟨t1, t2⟩, t3, t4⟩
    rw [ly_23 (by omega), pst_k (k := 23) (by decide)]
    exact ⟨PH_same (g6 j j0 j1).1 (fun k hk => ek k (by omega)) (by rw [ek 47 (by decide)]; omega) (by rw [ek 47 (by decide)]; omega) (fun _ _ => rfl), (g6 j j0 j1).2⟩
theorem SR_draw {ρ τ r : TS} {c : Int} (R : RR ρ τ c) (h8 : 0 < τ 8 0) (h21 : τ 21 0 = 0) (h19 : τ 19 0 = 0) (Fx : Fr (lyR (pst ρ (-1) (-1) (-1) (-1)) (τ 1 0)) r) :
    B1 (fs r 46 (gP (r 46) (r 45) (its (τ 1 0)) (τ 1 0) (sm (dt3 τ)) (τ 1 0))) (dt4 τ) c ∧ FRE (fs r 46 (gP (r 46) (r 45) (its (τ 1 0)) (τ 1 0) (sm (dt3 τ)) (τ 1 0))) (dt4 τ) ∧ SR (fs r 46 (gP (r 46) (r 45) (its (τ 1 0)) (τ 1 0) (sm (dt3 τ)) (τ 1 0))) (dt4 τ) (its (τ 1 0) - 1) 0 := by
  have hRC := RC_draw R h21
  obtain ⟨W, V, ⟨⟨a1, a2, a3, a4, a5, a6, a7, a8⟩, b1, b2, b3, b4, b5, b6⟩, S, Q, F⟩ := R
  have w1 := wf1 W 0
  have w9 := wf9 W 0
  have hi := its_r (F := τ 1 0)
  have h1 : 1 ≤ τ 1 0 := by
    have h9 : ¬ τ 9 0 = 0 := fun z => by have := b5.mpr z; omega
    have x := (b4 0 (by omega) (by omega)).2.2.2.1
    have y := wf6 W 0
    omega
  have e9 : ((2 ^ itd (τ 1 0) : Nat) : Int) = its (τ 1 0) := rfl
  have W4 := WF_d4 W
  obtain ⟨t, ht⟩ : ∃ t, t = fs r 46 (gP (r 46) (r 45) (its (τ 1 0)) (τ 1 0) (sm (dt3 τ)) (τ 1 0)) := ⟨_, rfl⟩
  rw [← ht]
  have Vt : WK t := by rw [ht]; exact WK_gP Fx.2 w1
  have tk : ∀ k, ¬ k = 46 ∧ ¬ (9 ≤ k ∧ k ≤ 12) → t k = lyR (pst ρ (-1) (-1) (-1) (-1)) (τ 1 0) k := fun k hk => by rw [ht, fs_n hk.1, Fx.1 k hk.2]
  have ek : ∀ k, ¬ (17 ≤ k ∧ k ≤ 26) ∧ ¬ k = 48 ∧ ¬ k = 7 ∧ ¬ k = 43 ∧ ¬ k = 45 ∧ ¬ k = 46 ∧ ¬ (37 ≤ k ∧ k ≤ 42) ∧ ¬ (9 ≤ k ∧ k ≤ 12) → t k = ρ k := fun k hk => by rw [tk k (by omega), ly_k (by omega), pst_k (by omega)]
  have ep : ∀ k, 37 ≤ k ∧ k ≤ 42 → t k = pst ρ (-1) (-1) (-1) (-1) k := fun k hk => by rw [tk k (by omega), ly_k (by omega)]
  have el : ∀ k b, b < 67 → 17 ≤ k ∧ k ≤ 26 ∧ ¬ k = 23 → t k b = ρ k b := fun k b hb hk => by rw [tk k (by omega), ly_lo hb hk, pst_k (by omega)]
  have et : ∀ k, (k < 23 ∨ k = 24) ∧ ¬ k = 17 ∧ ¬ k = 21 ∧ ¬ k = 22 → dt4 τ k = τ k := fun k hk => d4_k hk
  have e45 : r 45 = sq0 (ρ 45) (itd (τ 1 0)) := by rw [Fx.1 45 (by decide), ly_45, pst_k (by decide)]
  have e46 : ∀ y, t 46 y = gP (r 46) (r 45) (its (τ 1 0)) (τ 1 0) (sm (dt3 τ)) (τ 1 0) y := fun y => by rw [ht, fs_s]
  have r46 : ∀ y, 0 ≤ y ∧ y < 32 → r 46 y = -1 := fun y hy => by rw [Fx.1 46 (by decide)]; exact ly_46 hy
  have hsd : ∀ i, 0 ≤ i → i < its (τ 1 0) → sq0 (ρ 45) (itd (τ 1 0)) i = sq0 (τ 28) (itd (τ 1 0)) i ∧ 1 ≤ sq0 (τ 28) (itd (τ 1 0)) i := fun i i0 i1 => ⟨sq_ind _ i i0 i1, (sq_rg (s := τ 28) (itd (τ 1 0)) i i0 i1).1⟩
  have hj : jd (dt4 τ) = jd τ := jd_k2 (et 0 (by decide)) (fun k hk => et k (by omega))
  have hte : te (dt4 τ) = te τ := by funext b; exact te_eq (tch_k (et 0 (by decide)) (fun k hk => et k (by omega)) (et 3 (by decide)) (et 4 (by decide))) (by rw [et 10 (by decide)])
  have d22 : ∀ y, dt4 τ 22 y = if its (τ 1 0) ≤ y ∧ y < its (τ 1 0) + its (τ 1 0) then lf (sm (dt3 τ)) (y - its (τ 1 0)) else if 1 ≤ y ∧ y < its (τ 1 0) then -1 else τ 22 y := fun y => by rw [d4_22]; rfl
  have hlf : ∀ i, 0 ≤ i → i < its (τ 1 0) → (τ 1 0 < sq0 (τ 28) (itd (τ 1 0)) i ∧ lf (sm (dt3 τ)) i = -2) ∨ (¬ τ 1 0 < sq0 (τ 28) (itd (τ 1 0)) i ∧ 0 ≤ lf (sm (dt3 τ)) i ∧ lf (sm (dt3 τ)) i = rkF (sm (dt3 τ)) (sq0 (τ 28) (itd (τ 1 0)) i - 1) (τ 1 0) (τ 1 0).toNat) := fun i i0 i1 => by
    rw [lf_v]
    by_cases z : τ 1 0 < sq0 (τ 28) (itd (τ 1 0)) i
    · rw [if_pos z]; exact Or.inl ⟨z, rfl⟩
    · rw [if_neg z]; exact Or.inr ⟨z, (rkF_rg _).1, rfl⟩
  have h9 : ¬ τ 9 0 = 0 := fun z => by have := b5.mpr z; omega
  refine ⟨?_, ?_, ?_⟩
  · unfold B1
    rw [ek 0 (by decide), ek 1 (by decide), ek 2 (by decide), ek 3 (by decide), ek 4 (by decide), ek 5 (by decide), ek 6 (by decide), ek 8 (by decide), ek 13 (by decide), ek 14 (by decide), ek 47 (by decide), et 0 (by decide), et 1 (by decide), et 2 (by decide), et 4 (by decide), et 5 (by decide), et 6 (by decide), et 7 (by decide), et 8 (by decide), et 9 (by decide)]
    refine ⟨⟨a1, a2, a3, a4, a5, a6, a7, a8⟩, b1, b2, b3, fun s s0 s1 => ?_, b5, fun _ => h9⟩
    rw [el 18 s (by omega) (by decide), el 19 s (by omega) (by decide)]
    exact b4 s s0 s1
  · intro b x0 x1 hb
    unfold LVb at hb
    rw [d4_21, et 9 (by decide)] at hb
    rw [et 10 (by decide), et 11 (by decide), tk 48 (by decide), ly_48 (by omega), pst_k (by decide)]
    exact F b x0 x1 (fun y => by unfold LVb at y; omega)
  · unfold SR LVb
    rw [d4_21, et 9 (by decide), et 10 (by decide), et 24 (by decide), d4_17, tk 43 (by decide), ly_43, ek 44 (by decide)]
    refine ⟨W4, Vt, ⟨rfl, S.1.2.1, by omega⟩, fun k k1 k2 => ?_, fun b hb => ?_, fun k k1 k2 => ?_, fun k k1 k2 k3 => by omega, fun k k1 k2 => ?_, fun k k1 k2 => ?_, fun k k1 k2 _ _ => ?_, fun k k1 k2 _ z => by omega, ?_, ?_⟩
    · rw [tk 7 (by decide)]
      exact (ly_hi k1 k2).2
    · by_cases z : b < 67
      · obtain ⟨⟨g1, g2, g3, g4, g5, g6⟩, ⟨t1, t2⟩, t3, t4⟩ := S.2.2.1 b (Or.inl (by omega))
        have w10 := wf10 W b
        unfold BB BR TL
        rw [tk 48 (by decide), ly_48 (Or.inl z), pst_k (k := 48) (by decide), el 17 b z (by decide), el 24 b z (by decide), el 20 b z (by decide), el 25 b z (by decide), el 26 b z (by decide), el 21 b z (by decide), el 22 b z (by decide), ek 36 (by decide), hj, hte, et 10 (by decide), et 11 (by decide)]
        refine ⟨⟨g1, g2, g3, g4, g5, fun j j0 j1 => ?_⟩, ⟨t1, t2⟩, t3, t4⟩
        rw [tk 23 (by decide), ly_23 (by omega), pst_k (k := 23) (by decide)]
        exact ⟨PH_same (g6 j j0 j1).1 (fun k hk => ek k (by omega)) (by rw [ek 47 (by decide)]; omega) (by rw [ek 47 (by decide)]; omega) (fun k hk => et k (by omega)), (g6 j j0 j1).2⟩
      · obtain ⟨f10, f11, f11b, -⟩ := F b (by omega) (by omega) (fun y => by unfold LVb at y; omega)
        obtain ⟨⟨y17, y18, y19, y20, y21, y22, y24, y25, y26, y48⟩, -⟩ := ly_hi (ρ := pst ρ (-1) (-1) (-1) (-1)) (F := τ 1 0) (j := b - 66) (by omega) (by omega)
        rw [show 66 + (b - 66) = b by omega] at y17 y20 y21 y22 y24 y25 y26 y48
        unfold BB BR TL
        rw [tk 48 (by decide), tk 17 (by decide), tk 24 (by decide), tk 20 (by decide), tk 25 (by decide), tk 26 (by decide), tk 21 (by decide), tk 22 (by decide), y17, y20, y21, y22, y24, y25, y26, y48, hte, et 10 (by decide), et 11 (by decide), f10, f11, f11b, te_0 f10]
        refine ⟨⟨by omega, rfl, by rw [if_neg (by omega)], by unfold gl3; rw [if_neg (by omega)], rfl, fun j j0 j1 => by omega⟩, ⟨rfl, rfl⟩, rfl, rfl⟩
    · rw [e46, d22]
      by_cases z : its (τ 1 0) ≤ k ∧ k < its (τ 1 0) + its (τ 1 0)
      · rw [if_pos z]
        obtain ⟨s1, s2⟩ := hsd (k - its (τ 1 0)) (by omega) (by omega)
        have e := hlf (k - its (τ 1 0)) (by omega) (by omega)
        have m := mx_r (z := lf (sm (dt3 τ)) (k - its (τ 1 0)))
        unfold gP
        rw [e45, s1]
        rcases e with ⟨x1, x2⟩ | ⟨x1, x2, x3⟩
        · rw [if_neg (fun y => by omega), r46 k (by omega)]
          omega
        · rw [if_pos ⟨z.1, z.2, by omega⟩, ← x3]
          omega
      · rw [if_neg z, if_pos (by omega)]
        unfold gP
        rw [if_neg (fun y => z ⟨y.1, y.2.1⟩), r46 k (by omega)]
        rfl
    · rw [d22, if_neg (by omega), if_pos (by omega)]
      decide
    · rw [d22, d22, if_pos (by omega), if_pos (by omega)]
      have x := hlf (2 * k - its (τ 1 0)) (by omega) (by omega)
      have y := hlf (2 * k + 1 - its (τ 1 0)) (by omega) (by omega)
      have h1 := (itd_r (F := τ 1 0)).1
      obtain ⟨d, hd⟩ : ∃ d, itd (τ 1 0) = d + 1 := ⟨itd (τ 1 0) - 1, by omega⟩
      have ev := sq_ev (s := τ 28) d (2 * k - its (τ 1 0)) (by omega) (by rw [← hd]; show _ < its (τ 1 0); omega) (by omega)
      rw [← hd] at ev
      have hp := p2 (d := d)
      rw [← hd] at hp
      omega
    · exact (F (66 + k) (by omega) (by omega) (fun y => by unfold LVb at y; omega)).1
    · unfold PO
      rw [d4_17, ep 41 (by decide), ep 37 (by decide), ep 38 (by decide), ep 39 (by decide), ep 40 (by decide)]
      exact ⟨rfl, rfl, fun _ => ⟨rfl, rfl, rfl⟩, fun z => absurd rfl z⟩
    · unfold WR
      rw [ek 47 (by decide), ek 15 (by decide), ek 16 (by decide), et 3 (by decide), et 4 (by decide)]
      exact S.2.2.2.2.2.2.2.2.2
