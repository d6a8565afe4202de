/-! THE LAW: winners of nodes follow -/
abbrev lgo (hd x : Int → Int) (n : Int) : Prop := (0 ≤ hd (2 * n) ∧ ¬ hd (2 * n) = x (2 * n)) ∨ (0 ≤ hd (2 * n + 1) ∧ ¬ hd (2 * n + 1) = x (2 * n + 1))
def ldr (σ : TS) (b : Int) : TS := ts (ts (ts (ts (ts σ 37 8 (σ 37 8 + (if 0 < σ 32 b then 1 else 0))) 32 b 0) 33 (2 * b) 0) 33 (2 * b + 1) 0) 37 1 (if σ 37 1 = b then -1 else σ 37 1)
def lnw (σ : TS) (π : Int → Int64) (n : Int) : Int := if σ 36 (2 * n) < 0 ∨ σ 36 (2 * n + 1) < 0 then -1 else lwin (σ 30) π (σ 32) (σ 36) (5 + n)
def lfd (hd : Int → Int) (σ : TS) (n : Int) : TS := if lgo hd (σ 36) n then ldr σ (5 + n) else σ
def lfs (hd : Int → Int) (π : Int → Int64) (σ : TS) (n : Int) : TS := ts (lfd hd σ n) 36 n (lnw (lfd hd σ n) π n)
def lfol (π : Int → Int64) (σ : TS) : TS := if 0 < σ 37 7 then lfs (σ 36) π (lfs (σ 36) π (lfs (σ 36) π σ 3) 2) 1 else σ
theorem lfs_cg {hd hd' : Int → Int} {π : Int → Int64} {σ : TS} {n : Int} (h1 : hd (2 * n) = hd' (2 * n)) (h2 : hd (2 * n + 1) = hd' (2 * n + 1)) : lfs hd π σ n = lfs hd' π σ n := by
  unfold lfs lfd lgo
  rw [h1, h2]
theorem WL_ldr {σ : TS} (W : WL σ) (b : Int) : WL (ldr σ b) := WL_ts (WL_ts (WL_ts (WL_ts (WL_ts W (Or.inl rfl)) (Or.inr (by decide))) (Or.inr (by decide))) (Or.inr (by decide))) (Or.inl rfl)
theorem WL_lfd {hd : Int → Int} {σ : TS} {n : Int} (W : WL σ) : WL (lfd hd σ n) := by
  unfold lfd
  split
  · exact WL_ldr W _
  · exact W
theorem lnw_rg {σ : TS} {π : Int → Int64} {n : Int} (W : WL σ) (hn : 0 ≤ n) : -1 ≤ lnw σ π n ∧ lnw σ π n ≤ 3 := by
  unfold lnw
  split
  · omega
  · exact lwin_rg (wl36 W) (by omega)
theorem WL_lfs {hd : Int → Int} {π : Int → Int64} {σ : TS} {n : Int} (W : WL σ) (hn : 0 ≤ n) : WL (lfs hd π σ n) := WL_ts (WL_lfd W) (Or.inr (lnw_rg (WL_lfd W) hn))
theorem ldr_1 {σ : TS} {b : Int} : ldr σ b 37 1 = if σ 37 1 = b then -1 else σ 37 1 := ts_self
theorem ldr_37 {σ : TS} {b z : Int} (h : ¬ z = 1 ∧ ¬ z = 8) : ldr σ b 37 z = σ 37 z := by
  unfold ldr
  rw [ts_else h.1, ts_n (by decide), ts_n (by decide), ts_n (by decide), ts_else h.2]
theorem ldr_8 {σ : TS} {b : Int} : ldr σ b 37 8 = σ 37 8 + (if 0 < σ 32 b then 1 else 0) := by
  unfold ldr
  rw [ts_else (by decide), ts_n (by decide), ts_n (by decide), ts_n (by decide), ts_self]
theorem ldr_k {σ : TS} {b : Int} {k : Nat} (h : k ≠ 37 ∧ k ≠ 32 ∧ k ≠ 33) : ldr σ b k = σ k := by
  unfold ldr
  rw [ts_n h.1, ts_n h.2.2, ts_n h.2.2, ts_n h.2.1, ts_n h.1]
theorem ldr_32 {σ : TS} {b : Int} : ldr σ b 32 = upZ (σ 32) b 0 := by
  unfold ldr
  rw [ts_n (by decide), ts_n (by decide), ts_n (by decide), ts_s, ts_n (by decide)]
theorem ldr_33 {σ : TS} {b : Int} : ldr σ b 33 = upZ (upZ (σ 33) (2 * b) 0) (2 * b + 1) 0 := by
  unfold ldr
  rw [ts_n (by decide), ts_s, ts_s, ts_n (by decide), ts_n (by decide)]
theorem ldr_36 {σ : TS} {b n v : Int} : ldr (ts σ 36 n v) b = ts (ldr σ b) 36 n v := by
  unfold ldr
  rw [ts_n (k := 36) (k' := 37) (by decide), ts_n (k := 36) (k' := 32) (by decide), ts_cm (k := 36) (j := 37) (by decide), ts_cm (k := 36) (j := 32) (by decide), ts_cm (k := 36) (j := 33) (by decide), ts_cm (k := 36) (j := 33) (by decide), ts_cm (k := 36) (j := 37) (by decide)]
theorem upZ_s {g : Int → Int} {e x : Int} : upZ g e x e = x := if_pos rfl
theorem ldr_2 {σ : TS} {b : Int} (hb : 0 ≤ b) : ldr (ldr σ b) b = ldr σ b := by
  have e1 : ldr σ b 32 b = 0 := by rw [ldr_32]; exact upZ_s
  have e2 : (if ldr σ b 37 1 = b then -1 else ldr σ b 37 1) = ldr σ b 37 1 := by
    rw [ldr_1]
    by_cases q : σ 37 1 = b
    · rw [if_pos q, if_neg (by omega)]
    · rw [if_neg q, if_neg q]
  funext k z
  by_cases h1 : k = 37
  · subst h1
    by_cases h2 : z = 1
    · subst h2; rw [ldr_1, e2]
    · by_cases h3 : z = 8
      · subst h3; rw [ldr_8, e1, if_neg (by decide)]; omega
      · rw [ldr_37 ⟨h2, h3⟩]
  · by_cases h2 : k = 32
    · subst h2; rw [ldr_32, ldr_32, upZ_upZ]
    · by_cases h3 : k = 33
      · subst h3
        rw [ldr_33, ldr_33]
        unfold upZ
        split
        · rfl
        · split
          · rfl
          · rfl
      · rw [ldr_k ⟨h1, h2, h3⟩]
/-- the class's order -/
def lcs (π : Int → Int64) (σ : TS) (n : Int) : TS := if 2 ≤ n ∧ 0 ≤ σ 36 n ∧ ¬ σ 36 n = lnw σ π n then ldr (ts σ 36 n (lnw σ π n)) 6 else ts σ 36 n (lnw σ π n)
theorem lnw_cg {σ σ' : TS} {π : Int → Int64} {n : Int} (h30 : σ' 30 = σ 30) (h32 : σ' 32 (5 + n) = σ 32 (5 + n)) (h36 : σ' 36 (2 * n) = σ 36 (2 * n) ∧ σ' 36 (2 * n + 1) = σ 36 (2 * n + 1)) (hn : 0 < n) : lnw σ' π n = lnw σ π n := by
  have e1 : lte (σ' 30) π (σ' 32) (5 + n) = lte (σ 30) π (σ 32) (5 + n) := by unfold lte; rw [h30, h32]
  have e2 : ∀ s, s = 0 ∨ s = 1 → lfen (σ' 36) (5 + n) s = lfen (σ 36) (5 + n) s := fun s hs => by
    unfold lfen
    rw [if_pos (by omega), if_pos (by omega), show 2 * (5 + n - 5) + s = 2 * n + s by omega]
    rcases hs with rfl | rfl
    · rw [Int.add_zero]; exact h36.1
    · exact h36.2
  have r := lte_rg (w := σ 30) (π := π) (e := σ 32) (b := 5 + n)
  unfold lnw lwin
  rw [h36.1, h36.2, e1]
  split
  · rfl
  · split
    · rfl
    · exact e2 _ (by omega)
theorem lfol_cs {π : Int → Int64} {σ : TS} (h7 : 0 < σ 37 7) : lfol π σ = lcs π (lcs π (lcs π σ 3) 2) 1 := by
  obtain ⟨v3, h3⟩ : ∃ v, v = lnw σ π 3 := ⟨_, rfl⟩
  obtain ⟨v2, h2⟩ : ∃ v, v = lnw σ π 2 := ⟨_, rfl⟩
  unfold lfol
  rw [if_pos h7]
  have a3 : lfs (σ 36) π σ 3 = ts σ 36 3 v3 := by
    have e : lfd (σ 36) σ 3 = σ := if_neg (fun z => by rcases z with z | z <;> exact z.2 rfl)
    unfold lfs
    rw [e, h3]
  have n2 : lnw (ts σ 36 3 v3) π 2 = v2 := by rw [h2]; exact lnw_cg rfl rfl ⟨rfl, rfl⟩ (by decide)
  have a2 : lfs (σ 36) π (ts σ 36 3 v3) 2 = ts (ts σ 36 3 v3) 36 2 v2 := by
    have e : lfd (σ 36) (ts σ 36 3 v3) 2 = ts σ 36 3 v3 := if_neg (fun z => by rcases z with z | z <;> exact z.2 rfl)
    unfold lfs
    rw [e, n2]
  rw [a3, a2]
  have b3 : lcs π σ 3 = if 0 ≤ σ 36 3 ∧ ¬ σ 36 3 = v3 then ldr (ts σ 36 3 v3) 6 else ts σ 36 3 v3 := by
    unfold lcs
    rw [← h3]
    by_cases q : 0 ≤ σ 36 3 ∧ ¬ σ 36 3 = v3
    · rw [if_pos q, if_pos ⟨by decide, q⟩]
    · rw [if_neg q, if_neg (fun z => q z.2)]
  obtain ⟨s3, hs3⟩ : ∃ s, s = ts σ 36 3 v3 := ⟨_, rfl⟩
  have m3 : lnw (ldr s3 6) π 2 = v2 := by
    rw [← n2, hs3]
    refine lnw_cg ?_ ?_ ⟨?_, ?_⟩ (by decide)
    · rw [ldr_k (by decide)]
    · rw [ldr_32]; rfl
    · rw [ldr_k (by decide)]
    · rw [ldr_k (by decide)]
  have q2 : s3 36 2 = σ 36 2 := by rw [hs3]; rfl
  have q2' : ldr s3 6 36 2 = σ 36 2 := by rw [ldr_k (by decide), q2]
  have c2 : lcs π s3 2 = if 0 ≤ σ 36 2 ∧ ¬ σ 36 2 = v2 then ldr (ts s3 36 2 v2) 6 else ts s3 36 2 v2 := by
    unfold lcs
    rw [show lnw s3 π 2 = v2 by rw [hs3]; exact n2, q2]
    by_cases q : 0 ≤ σ 36 2 ∧ ¬ σ 36 2 = v2
    · rw [if_pos q, if_pos ⟨by decide, q⟩]
    · rw [if_neg q, if_neg (fun z => q z.2)]
  have c2' : lcs π (ldr s3 6) 2 = ldr (ts s3 36 2 v2) 6 := by
    unfold lcs
    rw [m3, q2', ← ldr_36, ldr_2 (by decide)]
    split <;> rfl
  have hd : lfd (σ 36) (ts s3 36 2 v2) 1 = lcs π (lcs π σ 3) 2 := by
    rw [b3, ← hs3]
    unfold lfd
    have g2 : (ts s3 36 2 v2) 36 (2 * 1) = v2 := rfl
    have g3 : (ts s3 36 2 v2) 36 (2 * 1 + 1) = v3 := by rw [hs3]; rfl
    have g : lgo (σ 36) ((ts s3 36 2 v2) 36) 1 ↔ (0 ≤ σ 36 2 ∧ ¬ σ 36 2 = v2) ∨ (0 ≤ σ 36 3 ∧ ¬ σ 36 3 = v3) := by
      unfold lgo
      rw [g2, g3]
      exact Iff.rfl
    by_cases p3 : 0 ≤ σ 36 3 ∧ ¬ σ 36 3 = v3
    · rw [if_pos p3, c2', if_pos (g.mpr (Or.inr p3))]
      rfl
    · rw [if_neg p3, c2]
      by_cases p2 : 0 ≤ σ 36 2 ∧ ¬ σ 36 2 = v2
      · rw [if_pos p2, if_pos (g.mpr (Or.inl p2))]
        rfl
      · rw [if_neg p2, if_neg (fun z => (g.mp z).elim p2 p3)]
  rw [← hs3]
  unfold lfs
  rw [hd]
  generalize lcs π (lcs π σ 3) 2 = s2
  unfold lcs
  rw [if_neg (fun z => absurd z.1 (by decide))]
/-- the ghost goes the same way -/
theorem LW_22 {σ : TS} {π : Int → Int64} {τ : TS} {n v : Int} (L : LW σ π τ) (h7 : σ 37 7 = 4) (hn : 1 ≤ n ∧ n ≤ 3) : LW (ts σ 36 n v) π (ts τ 22 n v) := by
  obtain ⟨a, p, x, g, q, ⟨n1, n2⟩, B⟩ := L
  refine ⟨a, p, x, g, q, ⟨fun h => ?_, fun h => ?_⟩, B⟩
  · obtain ⟨k1, k2⟩ := n1 h7
    refine ⟨fun k a b => ?_, fun k a b => ?_⟩
    · by_cases e : k = n
      · subst e; rw [ts_self, ts_self]
      · rw [ts_else e, ts_else e]; exact k1 k a b
    · rw [ts_else (by omega)]; exact k2 k a b
  · have : σ 37 7 = 0 := h
    omega
theorem LW_dr {σ : TS} {π : Int → Int64} {τ : TS} (L : LW σ π τ) (h7 : σ 37 7 = 4) : LW (ldr σ 6) π (cdr τ 1) := by
  obtain ⟨⟨⟨a1, a2, a3, a4, a5⟩, a6, a7, a8⟩, p, x, ⟨g1, g2⟩, q, ⟨n1, n2⟩, B⟩ := L
  have e37 : ∀ z, ¬ z = 1 ∧ ¬ z = 8 → ldr σ 6 37 z = σ 37 z := fun z h => ldr_37 h
  have ek : ∀ k, ¬ (k = 24 ∨ k = 10 ∨ k = 11 ∨ k = 17) → cdr τ 1 k = τ k := fun k h => cdr_k h
  have el : ∀ k, k ≠ 37 ∧ k ≠ 32 ∧ k ≠ 33 → ldr σ 6 k = σ k := fun k h => ldr_k h
  have q6 := q 6 (by decide) (by decide)
  have s6 : slb 6 = 67 := rfl
  rw [s6] at q6
  refine ⟨⟨⟨?_, ?_, ?_, ?_, ?_⟩, ?_, ?_, ?_⟩, ?_, ?_, ⟨?_, ?_⟩, ?_, ⟨?_, ?_⟩, ?_⟩
  · rw [ek 0 (by decide), e37 9 (by decide)]; exact a1
  · rw [ek 1 (by decide)]; exact a2
  · rw [ek 5 (by decide), e37 0 (by decide)]; exact a3
  · rw [ek 8 (by decide)]; exact a4
  · rw [ek 9 (by decide)]; exact a5
  · rw [ek 19 (by decide)]; exact a6
  · rw [ek 21 (by decide), e37 7 (by decide)]; exact a7
  · rw [cdr_24, ldr_8, a8, show (66 : Int) + 1 = 67 from rfl, q6.1]
  · unfold LPo
    rw [ek 6 (by decide), ek 7 (by decide)]
    exact p
  · unfold LX
    rw [ek 2 (by decide), ek 3 (by decide), ek 4 (by decide), el 30 (by decide), e37 0 (by decide)]
    exact x
  · intro h
    rw [ldr_1] at h
    rw [cdr_17]
    by_cases e : σ 37 1 = 6
    · have := (g2 (by omega)).1.1
      rw [this, e, if_pos (show num 6 = 100 + 1 from rfl)]
    · rw [if_neg e] at h
      rw [g1 h, if_neg (by decide)]
  · intro h
    rw [ldr_1] at h ⊢
    have e : ¬ σ 37 1 = 6 := fun z => by rw [if_pos z] at h; omega
    rw [if_neg e] at h ⊢
    obtain ⟨⟨k1, k2, k3, k4⟩, k5, k6, k7⟩ := g2 h
    rw [cdr_17, ek 18 (by decide), ek 20 (by decide), e37 2 (by decide), e37 3 (by decide), e37 6 (by decide), e37 0 (by decide), e37 7 (by decide)]
    refine ⟨⟨?_, k2, k3, k4⟩, k5, k6, k7⟩
    rw [k1, if_neg (by unfold num; split <;> omega)]
  · intro b b0 b1
    obtain ⟨k1, k2, k3⟩ := q b b0 b1
    by_cases e : b = 6
    · subst e
      rw [s6, ldr_32, ldr_33]
      refine ⟨?_, ?_, ?_⟩
      · rw [show (67 : Int) = 66 + 1 from rfl, cdr_10s]; rfl
      · rw [show (67 : Int) = 66 + 1 from rfl, cdr_11s.1]; rfl
      · rw [show (67 : Int) = 66 + 1 from rfl, cdr_11s.2]; rfl
    · have hs : ¬ slb b = 66 + 1 := by unfold slb; split <;> omega
      rw [cdr_10 hs, (cdr_11 hs).1, (cdr_11 hs).2, ldr_32, ldr_33]
      unfold upZ
      rw [if_neg e, if_neg (by omega), if_neg (by omega), if_neg (by omega), if_neg (by omega)]
      exact ⟨k1, k2, k3⟩
  · intro h
    rw [ek 22 (by decide), el 36 (by decide)]
    exact n1 h7
  · intro h
    rw [e37 7 (by decide)] at h
    omega
  · intro b j b0 b1 j0 j1
    have hj : j < σ 32 b := by
      rw [ldr_32] at j1
      unfold upZ at j1
      split at j1
      · omega
      · exact j1
    have hP := B b j b0 b1 j0 hj
    unfold PB at hP ⊢
    have ej : jr (cdr τ 1) = jr τ := by
      funext u v
      unfold jr
      rw [ek 0 (by decide), ek 12 (by decide), ek 15 (by decide), ek 16 (by decide)]
    have ed : jd (cdr τ 1) = jd τ := jd_k2 (ek 0 (by decide)) (fun k hk => ek k (by omega))
    rw [ek 13 (by decide), ej, ed, e37 0 (by decide)]
    exact hP
theorem lnw_fwin {σ : TS} {π : Int → Int64} {τ : TS} {n : Int} (L : LW σ π τ) (W : WF τ) (h7 : σ 37 7 = 4) (Wσ : WL σ) (hn : 1 ≤ n ∧ n ≤ 3) : lnw σ π n = fwin τ n := by
  have k1 := (L.2.2.2.2.2.1.1 h7).1 (2 * n) (by omega) (by omega)
  have k2 := (L.2.2.2.2.2.1.1 h7).1 (2 * n + 1) (by omega) (by omega)
  have h1 := lte_te L W (b := 5 + n) (by omega) (by omega)
  have es : slb (5 + n) = 66 + n := by unfold slb; rw [if_neg (by omega)]; omega
  rw [es] at h1
  have b1 := wl36 Wσ (2 * n)
  have b2 := wl36 Wσ (2 * n + 1)
  have r := te_rg W (66 + n)
  have f : ∀ s, lfen (σ 36) (5 + n) s = σ 36 (2 * n + s) := fun s => by
    unfold lfen
    rw [if_pos (by omega), show 2 * (5 + n - 5) = 2 * n by omega]
  unfold lnw lwin fwin fnow
  rw [h1, k1, k2]
  by_cases q : σ 36 (2 * n) < 0 ∨ σ 36 (2 * n + 1) < 0
  · have n1 : ¬ (0 ≤ σ 36 (2 * n) ∧ 0 ≤ σ 36 (2 * n + 1)) := by omega
    have n2 : ¬ σ 36 (2 * n) = -2 := by omega
    have n3 : ¬ σ 36 (2 * n + 1) = -2 := by omega
    rw [if_pos q, if_neg n1, if_neg n2, if_neg n3]
  · have n1 : 0 ≤ σ 36 (2 * n) ∧ 0 ≤ σ 36 (2 * n + 1) := by omega
    rw [if_neg q, if_pos n1]
    have hq : (te τ (66 + n)).2.2 = -1 ∨ (te τ (66 + n)).2.2 = 0 ∨ (te τ (66 + n)).2.2 = 1 := by omega
    rcases hq with z | z | z
    · rw [z, if_pos rfl, if_pos rfl]
    · rw [z, if_neg (show ¬ (0 : Int) = -1 by decide), if_neg (show ¬ (0 : Int) = -1 by decide), if_pos rfl, f, Int.add_zero]
    · rw [z, if_neg (show ¬ (1 : Int) = -1 by decide), if_neg (show ¬ (1 : Int) = -1 by decide), if_neg (show ¬ (1 : Int) = 0 by decide), f]
theorem fwin_rg {τ : TS} (W : WF τ) (n : Int) : -2 ≤ fwin τ n ∧ fwin τ n ≤ 11 := fnow_rg (wf22 W _) (wf22 W _)
theorem WF_cst {τ : TS} (W : WF τ) (n : Int) : WF (cst τ n) := by
  have h := WF_ts W (k := 22) (i := n) (fwin_rg W n)
  unfold cst
  split
  · exact WF_cdr h
  · exact h
theorem LW_cs {σ : TS} {π : Int → Int64} {τ : TS} {n : Int} (L : LW σ π τ) (W : WF τ) (h7 : σ 37 7 = 4) (Wσ : WL σ) (hn : 1 ≤ n ∧ n ≤ 3) : LW (lcs π σ n) π (cst τ n) := by
  have hv := lnw_fwin L W h7 Wσ hn
  have k1 := (L.2.2.2.2.2.1.1 h7).1 n (by omega) (by omega)
  have h2 := LW_22 (v := lnw σ π n) L h7 hn
  unfold lcs cst
  rw [k1, ← hv]
  by_cases q : 2 ≤ n ∧ 0 ≤ σ 36 n ∧ ¬ σ 36 n = lnw σ π n
  · rw [if_pos q, if_pos q, show n / 2 = 1 by omega]
    exact LW_dr h2 h7
  · rw [if_neg q, if_neg q]
    exact h2
theorem lcs_7 {σ : TS} {π : Int → Int64} {n : Int} : lcs π σ n 37 7 = σ 37 7 := by
  unfold lcs
  split
  · rw [ldr_37 (by decide)]; rfl
  · rfl
theorem WL_lcs {σ : TS} {π : Int → Int64} {n : Int} (W : WL σ) (hn : 0 ≤ n) : WL (lcs π σ n) := by
  have h := WL_ts W (k := 36) (i := n) (Or.inr (lnw_rg (π := π) W hn))
  unfold lcs
  split
  · exact WL_ldr h _
  · exact h
theorem WL_lfol {σ : TS} {π : Int → Int64} (W : WL σ) : WL (lfol π σ) := by
  unfold lfol
  split
  · exact WL_lfs (WL_lfs (WL_lfs W (by decide)) (by decide)) (by decide)
  · exact W
theorem LW_fol {σ : TS} {π : Int → Int64} {τ : TS} (L : LW σ π τ) (W : WF τ) (h7 : σ 37 7 = 0 ∨ σ 37 7 = 4) (Wσ : WL σ) : LW (lfol π σ) π (fol τ) := by
  have e := fol_cfd W
  have a7 := L.1.2.2.1
  refine LW_SQ (SQ_symm e) ?_
  rcases h7 with h7 | h7
  · rw [a7, h7]
    unfold lfol
    rw [if_neg (by omega)]
    exact L
  · rw [a7, h7, lfol_cs (by omega)]
    have L3 := LW_cs (n := 3) L W h7 Wσ (by decide)
    have L2 := LW_cs (n := 2) L3 (WF_cst W 3) (by rw [lcs_7]; exact h7) (WL_lcs Wσ (by decide)) (by decide)
    exact LW_cs (n := 1) L2 (WF_cst (WF_cst W 3) 2) (by rw [lcs_7, lcs_7]; exact h7) (WL_lcs (WL_lcs Wσ (by decide)) (by decide)) (by decide)
/-- what of the law's numbers stays -/
def LSt (σ σ' : TS) : Prop := (∀ z, ¬ z = 1 ∧ ¬ z = 8 → σ' 37 z = σ 37 z) ∧ (∀ k, k ≠ 37 ∧ k ≠ 32 ∧ k ≠ 33 ∧ k ≠ 36 → σ' k = σ k) ∧ (σ' 37 1 = σ 37 1 ∨ σ' 37 1 = -1) ∧ (σ 37 8 ≤ σ' 37 8 ∧ σ' 37 8 ≤ σ 37 8 + 3)
theorem LSt_fol {σ : TS} {π : Int → Int64} : LSt σ (lfol π σ) := by
  have d : ∀ (hd : Int → Int) (s : TS) (n : Int), (∀ z, ¬ z = 1 ∧ ¬ z = 8 → lfs hd π s n 37 z = s 37 z) ∧ (∀ k, k ≠ 37 ∧ k ≠ 32 ∧ k ≠ 33 ∧ k ≠ 36 → lfs hd π s n k = s k) ∧ (lfs hd π s n 37 1 = s 37 1 ∨ lfs hd π s n 37 1 = -1) ∧ (s 37 8 ≤ lfs hd π s n 37 8 ∧ lfs hd π s n 37 8 ≤ s 37 8 + 1) := by
    intro hd s n
    have e37 : lfs hd π s n 37 = lfd hd s n 37 := ts_n (by decide)
    rw [e37]
    refine ⟨fun z hz => ?_, fun k hk => ?_, ?_, ?_⟩
    · unfold lfd
      split
      · exact ldr_37 hz
      · rfl
    · have e : lfs hd π s n k = lfd hd s n k := ts_n hk.2.2.2
      rw [e]
      unfold lfd
      split
      · exact ldr_k ⟨hk.1, hk.2.1, hk.2.2.1⟩
      · rfl
    · unfold lfd
      split
      · rw [ldr_1]
        split
        · exact Or.inr rfl
        · exact Or.inl rfl
      · exact Or.inl rfl
    · unfold lfd
      split
      · rw [ldr_8]
        split <;> omega
      · omega
  unfold lfol
  split
  · obtain ⟨a1, a2, a3, a4⟩ := d (σ 36) σ 3
    obtain ⟨b1, b2, b3, b4⟩ := d (σ 36) (lfs (σ 36) π σ 3) 2
    obtain ⟨c1, c2, c3, c4⟩ := d (σ 36) (lfs (σ 36) π (lfs (σ 36) π σ 3) 2) 1
    refine ⟨fun z hz => by rw [c1 z hz, b1 z hz, a1 z hz], fun k hk => by rw [c2 k hk, b2 k hk, a2 k hk], ?_, by omega⟩
    rcases c3 with c3 | c3
    · rw [c3]
      rcases b3 with b3 | b3
      · rw [b3]
        exact a3
      · exact Or.inr b3
    · exact Or.inr c3
  · exact ⟨fun _ _ => rfl, fun _ _ => rfl, Or.inl rfl, by omega⟩
theorem LM_LSt {σ σ' : TS} (M : LM σ) (S : LSt σ σ') : LM σ' := by
  obtain ⟨s1, -, s3, -⟩ := S
  unfold LM at *
  rw [s1 0 (by decide), s1 2 (by decide), s1 3 (by decide), s1 4 (by decide), s1 6 (by decide), s1 7 (by decide), s1 9 (by decide)]
  rcases s3 with s3 | s3 <;> rw [s3]
  · exact M
  · exact ⟨M.1, by decide, M.2.2⟩
/-- the copy of the winners -/
noncomputable def Gh (g : LH) (k0 : Int) (c : Int → Int) : LH := hup g (38, k0) (cI 0 8 (arr c))
theorem Gh_at {g : LH} {k0 : Int} {c : Int → Int} {σ : TS} {π : Int → Int64} {ρ : TS} : HW (Gh g k0 c) σ π ρ (38, k0) = some (cI 0 8 (arr c)) := by
  rw [HW_38]
  exact hup_s
theorem Gh_up {g : LH} {k0 : Int} {c d : Int → Int} {σ : TS} {π : Int → Int64} {ρ : TS} : hup (HW (Gh g k0 c) σ π ρ) (38, k0) (cI 0 8 (arr d)) = HW (Gh g k0 d) σ π ρ := by
  rw [HW_up38]
  congr 1
  funext u
  unfold Gh
  by_cases e : u = (38, k0)
  · rw [e, hup_s, hup_s]
  · rw [hup_n e, hup_n e, hup_n e]
theorem GF_Gh {g : LH} {k0 : Int} {c : Int → Int} (h : ∀ j, k0 ≤ j → g (38, j) = none) : GF (Gh g k0 c) := ⟨k0 + 1, fun j hj => by
  unfold Gh
  rw [hup_n (fun e => by have := congrArg Prod.snd e; simp at this; omega)]
  exact h j (by omega)⟩
def cpy (x : Int → Int) (i : Int) : Int → Int := fun z => if 1 ≤ z ∧ z < i then x z else 0
theorem cpy_s {x : Int → Int} {i : Int} (h : 1 ≤ i) : upZ (cpy x i) i (x i) = cpy x (i + 1) := by
  funext z
  unfold upZ cpy
  by_cases e : z = i
  · subst e; rw [if_pos rfl, if_pos ⟨h, by omega⟩]
  · rw [if_neg e]
    by_cases q : 1 ≤ z ∧ z < i
    · rw [if_pos q, if_pos ⟨q.1, by omega⟩]
    · rw [if_neg q, if_neg (by omega)]
theorem cpy_1 {x : Int → Int} : cpy x 1 = fun _ => 0 := by
  funext z
  exact if_neg (by omega)
set_option maxRecDepth 100000 in
set_option maxHeartbeats 4000000 in
theorem follow_c {X : GX} {g : LH} {k0 : Int} {σ ρ : TS} {π : Int → Int64} {k n : Nat} {Q : LO → LH → Prop} : ∀ (m i : Nat), i + m = 8 → 1 ≤ i → J X mL_follow 32 [some (vR (some (30, 0))), some (vR (some (31, 0))), some (vR (some (32, 0))), some (vR (some (33, 0))), some (vR (some (36, 0))), some (vR (some (37, 0))), some (vR (some (38, k0))), none, none, none] [] (HW (Gh g k0 (cpy (σ 36) 8)) σ π ρ) k n Q → J X mL_follow 9 [some (vR (some (30, 0))), some (vR (some (31, 0))), some (vR (some (32, 0))), some (vR (some (33, 0))), some (vR (some (36, 0))), some (vR (some (37, 0))), some (vR (some (38, k0))), some (vI (iI i)), none, none] [] (HW (Gh g k0 (cpy (σ 36) i)) σ π ρ) k n Q := by
  intro m
  induction m with
  | zero =>
    intro i hi h1 kk
    have ei : i = 8 := by omega
    subst ei
    refine J_iload (M := mL_follow) dL_follow_9 rfl ?_
    refine Z_bipush (M := mL_follow) dL_follow_11 rfl ?_
    refine Z_ic_ge (M := mL_follow) (tgt := 32) (by first | assumption | exact pI_rg _ | (unfold rg; omega)) (by first | assumption | exact pI_rg _ | (unfold rg; omega)) dL_follow_13 (by decide) (fun c_13 => ?_) (fun c_13 => ?_)
    · exact J_sub kk (And.intro rfl (And.intro rfl (And.intro rfl (And.intro rfl (And.intro rfl (And.intro rfl (And.intro rfl trivial)))))))
    · omega
  | succ m ih =>
    intro i hi h1 kk
    have kk2 := ih (i + 1) (by omega) (by omega) kk
    rw [show ((i + 1 : Nat) : Int) = (i : Int) + 1 by push_cast; rfl, ← cpy_s (by omega)] at kk2
    refine J_iload (M := mL_follow) dL_follow_9 rfl ?_
    refine Z_bipush (M := mL_follow) dL_follow_11 rfl ?_
    refine Z_ic_ge (M := mL_follow) (tgt := 32) (by first | assumption | exact pI_rg _ | (unfold rg; omega)) (by first | assumption | exact pI_rg _ | (unfold rg; omega)) dL_follow_13 (by decide) (fun c_13 => ?_) (fun c_13 => ?_)
    · omega
    · refine J_aload (M := mL_follow) dL_follow_16 rfl ?_
      refine J_iload (M := mL_follow) dL_follow_18 rfl ?_
      refine J_aload (M := mL_follow) dL_follow_20 rfl ?_
      refine J_iload (M := mL_follow) dL_follow_22 rfl ?_
      refine L_iald (M := mL_follow) (kf := 36) (N := 8) dL_follow_24 (by decide) rfl (by decide) (by omega) (by omega) ?_
      refine Z_iast (M := mL_follow) dL_follow_25 Gh_at (by decide) (by omega) (by omega) ?_
      refine Z_h (M := mL_follow) Gh_up ?_
      refine Z_iinc (M := mL_follow) dL_follow_26 rfl (by decide) ?_
      refine J_goto (M := mL_follow) (tgt := 9) dL_follow_29 (by decide) ?_
      exact J_sub kk2 (And.intro rfl (And.intro rfl (And.intro rfl (And.intro rfl (And.intro rfl (And.intro rfl (And.intro rfl (And.intro rfl trivial))))))))

set_option maxRecDepth 100000 in
set_option maxHeartbeats 4000000 in
theorem follow_s {X : GX} {g : LH} {k0 : Int} {σ ρ : TS} {π : Int → Int64} {k n : Nat} {Q : LO → LH → Prop} {i : Int} {hd : Int → Int} (W : WL σ) (h1 : rg (σ 37 1)) (h7 : 0 < σ 37 7 ∧ σ 37 7 ≤ 4) (Bh : ∀ z, -1 ≤ hd z ∧ hd z ≤ 3) (hi : 1 ≤ i ∧ i ≤ 3) (kk : J X mL_follow 35 [some (vR (some (30, 0))), some (vR (some (31, 0))), some (vR (some (32, 0))), some (vR (some (33, 0))), some (vR (some (36, 0))), some (vR (some (37, 0))), some (vR (some (38, k0))), some (vI (iI (i - 1))), none, none] [] (HW (Gh g k0 hd) (lfs hd π σ i) π ρ) k n Q) : J X mL_follow 35 [some (vR (some (30, 0))), some (vR (some (31, 0))), some (vR (some (32, 0))), some (vR (some (33, 0))), some (vR (some (36, 0))), some (vR (some (37, 0))), some (vR (some (38, k0))), some (vI (iI i)), none, none] [] (HW (Gh g k0 hd) σ π ρ) k n Q := by
  have a1 := Bh (2 * i)
  have a2 := Bh (2 * i + 1)
  have a3 := wl36 W (2 * i)
  have a4 := wl36 W (2 * i + 1)
  have a5 := wl32 W (5 + i)
  unfold rg at h1
  have hj188 : ∀ s1 : TS, s1 = lfd hd σ i → J X mL_follow 188 [some (vR (some (30, 0))), some (vR (some (31, 0))), some (vR (some (32, 0))), some (vR (some (33, 0))), some (vR (some (36, 0))), some (vR (some (37, 0))), some (vR (some (38, k0))), some (vI (iI i)), none, some (vI (iI (5 + i)))] [] (HW (Gh g k0 hd) s1 π ρ) k n Q := by
    intro s1 hs1
    have W1 : WL s1 := by rw [hs1]; exact WL_lfd W
    have c1 := wl36 W1 (2 * i)
    have c2 := wl36 W1 (2 * i + 1)
    have kk3 : J X mL_follow 35 [some (vR (some (30, 0))), some (vR (some (31, 0))), some (vR (some (32, 0))), some (vR (some (33, 0))), some (vR (some (36, 0))), some (vR (some (37, 0))), some (vR (some (38, k0))), some (vI (iI (i - 1))), none, none] [] (HW (Gh g k0 hd) (ts s1 36 i (lnw s1 π i)) π ρ) k n Q := by rw [hs1]; exact kk
    refine J_aload (M := mL_follow) dL_follow_188 rfl ?_
    refine J_iload (M := mL_follow) dL_follow_190 rfl ?_
    refine Z_ij (M := mL_follow) (pcB := 228) (lnw s1 π i) (fun hj_228 => ?_) ?_
    · refine J_aload (M := mL_follow) dL_follow_192 rfl ?_
      refine Z_iconst (M := mL_follow) dL_follow_194 ?_
      refine J_iload (M := mL_follow) dL_follow_195 rfl ?_
      refine Z_imul (M := mL_follow) dL_follow_197 ?_
      refine L_iald (M := mL_follow) (kf := 36) (N := 8) dL_follow_198 (by decide) rfl (by decide) (by omega) (by omega) ?_
      refine Z_if_lt (M := mL_follow) (tgt := 214) (by first | assumption | exact pI_rg _ | (unfold rg; omega)) dL_follow_199 (by decide) (fun c_199 => ?_) (fun c_199 => ?_)
      · refine Z_iconst (M := mL_follow) dL_follow_214 ?_
        refine J_goto (M := mL_follow) (tgt := 228) dL_follow_215 (by decide) ?_
        exact hj_228 _ (by unfold lnw; first | rw [if_pos (by omega)] | rw [if_neg (by omega)])
      · refine J_aload (M := mL_follow) dL_follow_202 rfl ?_
        refine Z_iconst (M := mL_follow) dL_follow_204 ?_
        refine J_iload (M := mL_follow) dL_follow_205 rfl ?_
        refine Z_imul (M := mL_follow) dL_follow_207 ?_
        refine Z_iconst (M := mL_follow) dL_follow_208 ?_
        refine Z_iadd (M := mL_follow) dL_follow_209 ?_
        refine L_iald (M := mL_follow) (kf := 36) (N := 8) dL_follow_210 (by decide) rfl (by decide) (by omega) (by omega) ?_
        refine Z_if_ge (M := mL_follow) (tgt := 218) (by first | assumption | exact pI_rg _ | (unfold rg; omega)) dL_follow_211 (by decide) (fun c_211 => ?_) (fun c_211 => ?_)
        · refine J_aload_n (M := mL_follow) dL_follow_218 rfl rfl ?_
          refine J_aload_n (M := mL_follow) dL_follow_219 rfl rfl ?_
          refine J_aload_n (M := mL_follow) dL_follow_220 rfl rfl ?_
          refine J_aload (M := mL_follow) dL_follow_221 rfl ?_
          refine J_iload (M := mL_follow) dL_follow_223 rfl ?_
          refine M_callS (M := mL_follow) (as := [_, _, _, _, _]) dL_follow_225 ca_L_31 ⟨by decide, by decide⟩ rfl (Nat.le_of_ble_eq_true rfl) rfl rfl (rL_winner lw30 lw31 lw32 (wl30 W1) (wl32 W1) (by omega) lw36) ?_
          exact hj_228 _ (by unfold lnw; first | rw [if_pos (by omega)] | rw [if_neg (by omega)])
        · refine Z_iconst (M := mL_follow) dL_follow_214 ?_
          refine J_goto (M := mL_follow) (tgt := 228) dL_follow_215 (by decide) ?_
          exact hj_228 _ (by unfold lnw; first | rw [if_pos (by omega)] | rw [if_neg (by omega)])
    refine L_iast (M := mL_follow) (kf := 36) (N := 8) dL_follow_228 (by decide) rfl (by decide) (by omega) (by omega) ?_
    refine Z_iinc (M := mL_follow) dL_follow_229 rfl (by decide) ?_
    refine J_goto (M := mL_follow) (tgt := 35) dL_follow_232 (by decide) ?_
    exact J_sub kk3 (And.intro rfl (And.intro rfl (And.intro rfl (And.intro rfl (And.intro rfl (And.intro rfl (And.intro rfl (And.intro rfl trivial))))))))
  refine J_iload (M := mL_follow) dL_follow_35 rfl ?_
  refine Z_if_le (M := mL_follow) (tgt := 235) (by first | assumption | exact pI_rg _ | (unfold rg; omega)) dL_follow_37 (by decide) (fun c_37 => ?_) (fun c_37 => ?_)
  · omega
  · refine J_aload (M := mL_follow) dL_follow_40 rfl ?_
    refine Z_bipush (M := mL_follow) dL_follow_42 rfl ?_
    refine L_iald (M := mL_follow) (kf := 37) (N := 10) dL_follow_44 (by decide) rfl (by decide) (by omega) (by omega) ?_
    refine Z_if_le (M := mL_follow) (tgt := 235) (by first | assumption | exact pI_rg _ | (unfold rg; omega)) dL_follow_45 (by decide) (fun c_45 => ?_) (fun c_45 => ?_)
    · omega
    · refine Z_bj (M := mL_follow) (pcB := 113) (lgo hd (σ 36) i) (fun hj_113 => ?_) ?_
      · refine J_aload (M := mL_follow) dL_follow_48 rfl ?_
        refine Z_iconst (M := mL_follow) dL_follow_50 ?_
        refine J_iload (M := mL_follow) dL_follow_51 rfl ?_
        refine Z_imul (M := mL_follow) dL_follow_53 ?_
        refine Z_iald (M := mL_follow) dL_follow_54 Gh_at (by decide) (by omega) (by omega) ?_
        refine Z_if_lt (M := mL_follow) (tgt := 75) (by first | assumption | exact pI_rg _ | (unfold rg; omega)) dL_follow_55 (by decide) (fun c_55 => ?_) (fun c_55 => ?_)
        · refine J_aload (M := mL_follow) dL_follow_75 rfl ?_
          refine Z_iconst (M := mL_follow) dL_follow_77 ?_
          refine J_iload (M := mL_follow) dL_follow_78 rfl ?_
          refine Z_imul (M := mL_follow) dL_follow_80 ?_
          refine Z_iconst (M := mL_follow) dL_follow_81 ?_
          refine Z_iadd (M := mL_follow) dL_follow_82 ?_
          refine Z_iald (M := mL_follow) dL_follow_83 Gh_at (by decide) (by omega) (by omega) ?_
          refine Z_if_lt (M := mL_follow) (tgt := 112) (by first | assumption | exact pI_rg _ | (unfold rg; omega)) dL_follow_84 (by decide) (fun c_84 => ?_) (fun c_84 => ?_)
          · refine Z_iconst (M := mL_follow) dL_follow_112 ?_
            exact hj_113 _ (pI_f (by unfold lgo; omega)).symm
          · refine J_aload (M := mL_follow) dL_follow_87 rfl ?_
            refine Z_iconst (M := mL_follow) dL_follow_89 ?_
            refine J_iload (M := mL_follow) dL_follow_90 rfl ?_
            refine Z_imul (M := mL_follow) dL_follow_92 ?_
            refine Z_iconst (M := mL_follow) dL_follow_93 ?_
            refine Z_iadd (M := mL_follow) dL_follow_94 ?_
            refine Z_iald (M := mL_follow) dL_follow_95 Gh_at (by decide) (by omega) (by omega) ?_
            refine J_aload (M := mL_follow) dL_follow_96 rfl ?_
            refine Z_iconst (M := mL_follow) dL_follow_98 ?_
            refine J_iload (M := mL_follow) dL_follow_99 rfl ?_
            refine Z_imul (M := mL_follow) dL_follow_101 ?_
            refine Z_iconst (M := mL_follow) dL_follow_102 ?_
            refine Z_iadd (M := mL_follow) dL_follow_103 ?_
            refine L_iald (M := mL_follow) (kf := 36) (N := 8) dL_follow_104 (by decide) rfl (by decide) (by omega) (by omega) ?_
            refine Z_ic_eq (M := mL_follow) (tgt := 112) (by first | assumption | exact pI_rg _ | (unfold rg; omega)) (by first | assumption | exact pI_rg _ | (unfold rg; omega)) dL_follow_105 (by decide) (fun c_105 => ?_) (fun c_105 => ?_)
            · refine Z_iconst (M := mL_follow) dL_follow_112 ?_
              exact hj_113 _ (pI_f (by unfold lgo; omega)).symm
            · refine Z_iconst (M := mL_follow) dL_follow_108 ?_
              refine J_goto (M := mL_follow) (tgt := 113) dL_follow_109 (by decide) ?_
              exact hj_113 _ (pI_t (by unfold lgo; omega)).symm
        · refine J_aload (M := mL_follow) dL_follow_58 rfl ?_
          refine Z_iconst (M := mL_follow) dL_follow_60 ?_
          refine J_iload (M := mL_follow) dL_follow_61 rfl ?_
          refine Z_imul (M := mL_follow) dL_follow_63 ?_
          refine Z_iald (M := mL_follow) dL_follow_64 Gh_at (by decide) (by omega) (by omega) ?_
          refine J_aload (M := mL_follow) dL_follow_65 rfl ?_
          refine Z_iconst (M := mL_follow) dL_follow_67 ?_
          refine J_iload (M := mL_follow) dL_follow_68 rfl ?_
          refine Z_imul (M := mL_follow) dL_follow_70 ?_
          refine L_iald (M := mL_follow) (kf := 36) (N := 8) dL_follow_71 (by decide) rfl (by decide) (by omega) (by omega) ?_
          refine Z_ic_ne (M := mL_follow) (tgt := 108) (by first | assumption | exact pI_rg _ | (unfold rg; omega)) (by first | assumption | exact pI_rg _ | (unfold rg; omega)) dL_follow_72 (by decide) (fun c_72 => ?_) (fun c_72 => ?_)
          · refine Z_iconst (M := mL_follow) dL_follow_108 ?_
            refine J_goto (M := mL_follow) (tgt := 113) dL_follow_109 (by decide) ?_
            exact hj_113 _ (pI_t (by unfold lgo; omega)).symm
          · refine J_aload (M := mL_follow) dL_follow_75 rfl ?_
            refine Z_iconst (M := mL_follow) dL_follow_77 ?_
            refine J_iload (M := mL_follow) dL_follow_78 rfl ?_
            refine Z_imul (M := mL_follow) dL_follow_80 ?_
            refine Z_iconst (M := mL_follow) dL_follow_81 ?_
            refine Z_iadd (M := mL_follow) dL_follow_82 ?_
            refine Z_iald (M := mL_follow) dL_follow_83 Gh_at (by decide) (by omega) (by omega) ?_
            refine Z_if_lt (M := mL_follow) (tgt := 112) (by first | assumption | exact pI_rg _ | (unfold rg; omega)) dL_follow_84 (by decide) (fun c_84 => ?_) (fun c_84 => ?_)
            · refine Z_iconst (M := mL_follow) dL_follow_112 ?_
              exact hj_113 _ (pI_f (by unfold lgo; omega)).symm
            · refine J_aload (M := mL_follow) dL_follow_87 rfl ?_
              refine Z_iconst (M := mL_follow) dL_follow_89 ?_
              refine J_iload (M := mL_follow) dL_follow_90 rfl ?_
              refine Z_imul (M := mL_follow) dL_follow_92 ?_
              refine Z_iconst (M := mL_follow) dL_follow_93 ?_
              refine Z_iadd (M := mL_follow) dL_follow_94 ?_
              refine Z_iald (M := mL_follow) dL_follow_95 Gh_at (by decide) (by omega) (by omega) ?_
              refine J_aload (M := mL_follow) dL_follow_96 rfl ?_
              refine Z_iconst (M := mL_follow) dL_follow_98 ?_
              refine J_iload (M := mL_follow) dL_follow_99 rfl ?_
              refine Z_imul (M := mL_follow) dL_follow_101 ?_
              refine Z_iconst (M := mL_follow) dL_follow_102 ?_
              refine Z_iadd (M := mL_follow) dL_follow_103 ?_
              refine L_iald (M := mL_follow) (kf := 36) (N := 8) dL_follow_104 (by decide) rfl (by decide) (by omega) (by omega) ?_
              refine Z_ic_eq (M := mL_follow) (tgt := 112) (by first | assumption | exact pI_rg _ | (unfold rg; omega)) (by first | assumption | exact pI_rg _ | (unfold rg; omega)) dL_follow_105 (by decide) (fun c_105 => ?_) (fun c_105 => ?_)
              · refine Z_iconst (M := mL_follow) dL_follow_112 ?_
                exact hj_113 _ (pI_f (by unfold lgo; omega)).symm
              · refine Z_iconst (M := mL_follow) dL_follow_108 ?_
                refine J_goto (M := mL_follow) (tgt := 113) dL_follow_109 (by decide) ?_
                exact hj_113 _ (pI_t (by unfold lgo; omega)).symm
      refine J_istore (M := mL_follow) dL_follow_113 (by decide) ?_
      refine Z_iconst (M := mL_follow) dL_follow_115 ?_
      refine J_iload (M := mL_follow) dL_follow_116 rfl ?_
      refine Z_iadd (M := mL_follow) dL_follow_118 ?_
      refine J_istore (M := mL_follow) dL_follow_119 (by decide) ?_
      refine J_iload (M := mL_follow) dL_follow_121 rfl ?_
      first
        | refine Z_pf (M := mL_follow) (tgt := 188) dL_follow_123 (by decide) (fun c_123 => ?_) (fun c_123 => ?_)
        | refine Z_if_eq (M := mL_follow) (tgt := 188) (by first | assumption | exact pI_rg _ | (unfold rg; omega)) dL_follow_123 (by decide) (fun c_123 => ?_) (fun c_123 => ?_)
      · first
          | exact J_sub (hj188 _ (if_pos c_123).symm) (And.intro rfl (And.intro rfl (And.intro rfl (And.intro rfl (And.intro rfl (And.intro rfl (And.intro rfl (And.intro rfl (And.intro rfl trivial)))))))))
          | exact J_sub (hj188 _ (if_neg c_123).symm) (And.intro rfl (And.intro rfl (And.intro rfl (And.intro rfl (And.intro rfl (And.intro rfl (And.intro rfl (And.intro rfl (And.intro rfl trivial)))))))))
      · refine J_aload (M := mL_follow) dL_follow_126 rfl ?_
        refine Z_bipush (M := mL_follow) dL_follow_128 rfl ?_
        refine J_dup2 (M := mL_follow) dL_follow_130 rfl rfl ?_
        refine L_iald (M := mL_follow) (kf := 37) (N := 10) dL_follow_131 (by decide) rfl (by decide) (by omega) (by omega) ?_
        refine Z_ij (M := mL_follow) (pcB := 144) (if 0 < σ 32 (5 + i) then 1 else 0) (fun hj_144 => ?_) ?_
        · refine J_aload_n (M := mL_follow) dL_follow_132 rfl rfl ?_
          refine J_iload (M := mL_follow) dL_follow_133 rfl ?_
          refine L_iald (M := mL_follow) (kf := 32) (N := 9) dL_follow_135 (by decide) rfl (by decide) (by omega) (by omega) ?_
          refine Z_if_le (M := mL_follow) (tgt := 143) (by first | assumption | exact pI_rg _ | (unfold rg; omega)) dL_follow_136 (by decide) (fun c_136 => ?_) (fun c_136 => ?_)
          · refine Z_iconst (M := mL_follow) dL_follow_143 ?_
            exact hj_144 _ (by first | rw [if_pos (by omega)] | rw [if_neg (by omega)])
          · refine Z_iconst (M := mL_follow) dL_follow_139 ?_
            refine J_goto (M := mL_follow) (tgt := 144) dL_follow_140 (by decide) ?_
            exact hj_144 _ (by first | rw [if_pos (by omega)] | rw [if_neg (by omega)])
        refine Z_iadd (M := mL_follow) dL_follow_144 ?_
        refine L_iast (M := mL_follow) (kf := 37) (N := 10) dL_follow_145 (by decide) rfl (by decide) (by omega) (by omega) ?_
        refine J_aload_n (M := mL_follow) dL_follow_146 rfl rfl ?_
        refine J_iload (M := mL_follow) dL_follow_147 rfl ?_
        refine Z_iconst (M := mL_follow) dL_follow_149 ?_
        refine L_iast (M := mL_follow) (kf := 32) (N := 9) dL_follow_150 (by decide) rfl (by decide) (by omega) (by omega) ?_
        refine J_aload_n (M := mL_follow) dL_follow_151 rfl rfl ?_
        refine Z_iconst (M := mL_follow) dL_follow_152 ?_
        refine J_iload (M := mL_follow) dL_follow_153 rfl ?_
        refine Z_imul (M := mL_follow) dL_follow_155 ?_
        refine Z_iconst (M := mL_follow) dL_follow_156 ?_
        refine L_iast (M := mL_follow) (kf := 33) (N := 18) dL_follow_157 (by decide) rfl (by decide) (by omega) (by omega) ?_
        refine J_aload_n (M := mL_follow) dL_follow_158 rfl rfl ?_
        refine Z_iconst (M := mL_follow) dL_follow_159 ?_
        refine J_iload (M := mL_follow) dL_follow_160 rfl ?_
        refine Z_imul (M := mL_follow) dL_follow_162 ?_
        refine Z_iconst (M := mL_follow) dL_follow_163 ?_
        refine Z_iadd (M := mL_follow) dL_follow_164 ?_
        refine Z_iconst (M := mL_follow) dL_follow_165 ?_
        refine L_iast (M := mL_follow) (kf := 33) (N := 18) dL_follow_166 (by decide) rfl (by decide) (by omega) (by omega) ?_
        refine J_aload (M := mL_follow) dL_follow_167 rfl ?_
        refine Z_iconst (M := mL_follow) dL_follow_169 ?_
        refine Z_ij (M := mL_follow) (pcB := 187) (if σ 37 1 = 5 + i then -1 else σ 37 1) (fun hj_187 => ?_) ?_
        · refine J_aload (M := mL_follow) dL_follow_170 rfl ?_
          refine Z_iconst (M := mL_follow) dL_follow_172 ?_
          refine L_iald (M := mL_follow) (kf := 37) (N := 10) dL_follow_173 (by decide) rfl (by decide) (by omega) (by omega) ?_
          refine Z_eq (M := mL_follow) (b := σ 37 1) rfl ?_
          refine J_iload (M := mL_follow) dL_follow_174 rfl ?_
          refine Z_ic_ne (M := mL_follow) (tgt := 183) (by first | assumption | exact pI_rg _ | (unfold rg; omega)) (by first | assumption | exact pI_rg _ | (unfold rg; omega)) dL_follow_176 (by decide) (fun c_176 => ?_) (fun c_176 => ?_)
          · refine J_aload (M := mL_follow) dL_follow_183 rfl ?_
            refine Z_iconst (M := mL_follow) dL_follow_185 ?_
            refine L_iald (M := mL_follow) (kf := 37) (N := 10) dL_follow_186 (by decide) rfl (by decide) (by omega) (by omega) ?_
            refine Z_eq (M := mL_follow) (b := σ 37 1) rfl ?_
            exact hj_187 _ (by first | rw [if_pos (by omega)] | rw [if_neg (by omega)])
          · refine Z_iconst (M := mL_follow) dL_follow_179 ?_
            refine J_goto (M := mL_follow) (tgt := 187) dL_follow_180 (by decide) ?_
            exact hj_187 _ (by first | rw [if_pos (by omega)] | rw [if_neg (by omega)])
        refine L_iast (M := mL_follow) (kf := 37) (N := 10) dL_follow_187 (by decide) rfl (by decide) (by omega) (by omega) ?_
        first
          | exact J_sub (hj188 _ (if_pos c_123).symm) (And.intro rfl (And.intro rfl (And.intro rfl (And.intro rfl (And.intro rfl (And.intro rfl (And.intro rfl (And.intro rfl (And.intro rfl trivial)))))))))
          | exact J_sub (hj188 _ (if_neg c_123).symm) (And.intro rfl (And.intro rfl (And.intro rfl (And.intro rfl (And.intro rfl (And.intro rfl (And.intro rfl (And.intro rfl (And.intro rfl trivial)))))))))

set_option maxRecDepth 100000 in
set_option maxHeartbeats 4000000 in
theorem rL_follow {X : GX} {g : LH} {σ ρ : TS} {π : Int → Int64} (G : GF g) (W : WL σ) (M : LM σ) : CT X mL_follow [vR (some (30, 0)), vR (some (31, 0)), vR (some (32, 0)), vR (some (33, 0)), vR (some (36, 0)), vR (some (37, 0))] (HW g σ π ρ) (rQ (fun v h' => v = none ∧ ∃ g', GF g' ∧ h' = HW g' (lfol π σ) π ρ)) := by
  obtain ⟨k0, hk0⟩ := G
  have GG : ∀ c, GF (Gh g k0 c) := fun c => GF_Gh hk0
  obtain ⟨m0, m1, m2, m3, m4, m6, m7, m9⟩ := M
  refine CT_of (by decide +kernel) rfl (Nat.le_of_ble_eq_true rfl) ?_
  refine J_le (k' := 0 + 1) (n' := 0 + 8) (by decide) (by decide) ?_
  refine Z_bipush (M := mL_follow) dL_follow_0 rfl ?_
  refine J_newI (M := mL_follow) (t := (38, k0)) dL_follow_2 (by rw [iI_nI]; rfl) (by decide) aw_int (HW_38.trans (hk0 k0 (Int.le_refl _))) (fun e => absurd (congrArg Prod.fst e) (show ¬ (38 : Nat) = 0 by decide)) ?_
  rw [arr_0, HW_up38, ← cpy_1 (x := σ 36)]
  refine J_astore (M := mL_follow) dL_follow_4 (by decide) ?_
  refine Z_iconst (M := mL_follow) dL_follow_6 ?_
  refine J_istore (M := mL_follow) dL_follow_7 (by decide) ?_
  refine J_sub (M := mL_follow) (follow_c (g := g) (k0 := k0) 7 1 rfl (by decide) ?_) (And.intro rfl (And.intro rfl (And.intro rfl (And.intro rfl (And.intro rfl (And.intro rfl (And.intro rfl (And.intro rfl trivial))))))))
  refine Z_iconst (M := mL_follow) dL_follow_32 ?_
  refine J_istore (M := mL_follow) dL_follow_33 (by decide) ?_
  have B8 : ∀ z, -1 ≤ cpy (σ 36) 8 z ∧ cpy (σ 36) 8 z ≤ 3 := fun z => by
    have := wl36 W z
    unfold cpy
    split <;> omega
  by_cases h7 : 0 < σ 37 7
  · have e1 : ∀ (s : TS) (i : Int), 1 ≤ i → i ≤ 3 → lfs (cpy (σ 36) 8) π s i = lfs (σ 36) π s i := fun s i a b => lfs_cg (if_pos ⟨by omega, by omega⟩) (if_pos ⟨by omega, by omega⟩)
    have d : ∀ (s : TS) (i : Int), rg (s 37 1) → rg (lfs (cpy (σ 36) 8) π s i 37 1) ∧ lfs (cpy (σ 36) 8) π s i 37 7 = s 37 7 := by
      intro s i hs
      have e37 : lfs (cpy (σ 36) 8) π s i 37 = lfd (cpy (σ 36) 8) s i 37 := ts_n (by decide)
      rw [e37]
      unfold lfd
      split
      · rw [ldr_1, ldr_37 (by decide)]
        refine ⟨?_, rfl⟩
        split
        · unfold rg; omega
        · exact hs
      · exact ⟨hs, rfl⟩
    have r1 : rg (σ 37 1) := by unfold rg; omega
    obtain ⟨r3, t3⟩ := d σ 3 r1
    obtain ⟨r2, t2⟩ := d _ 2 r3
    obtain ⟨r0, t0⟩ := d _ 1 r2
    refine J_sub (M := mL_follow) (follow_s (i := 3) W r1 ⟨h7, by omega⟩ B8 (by decide) (follow_s (i := 2) (WL_lfs W (by decide)) r3 (by omega) B8 (by decide) (follow_s (i := 1) (WL_lfs (WL_lfs W (by decide)) (by decide)) r2 (by omega) B8 (by decide) ?_))) (And.intro rfl (And.intro rfl (And.intro rfl (And.intro rfl (And.intro rfl (And.intro rfl (And.intro rfl (And.intro rfl trivial))))))))
    rw [e1 _ _ (by decide) (by decide), e1 _ _ (by decide) (by decide), e1 _ _ (by decide) (by decide)]
    have ef : lfol π σ = lfs (σ 36) π (lfs (σ 36) π (lfs (σ 36) π σ 3) 2) 1 := if_pos h7
    rw [← ef]
    refine J_iload (M := mL_follow) dL_follow_35 rfl ?_
    refine Z_if_le (M := mL_follow) (tgt := 235) (by first | assumption | exact pI_rg _ | (unfold rg; omega)) dL_follow_37 (by decide) (fun c_37 => ?_) (fun c_37 => ?_)
    · refine J_vret (M := mL_follow) dL_follow_235 rfl ?_
      exact ⟨rfl, _, GG _, rfl⟩
    · omega
  · have ef : lfol π σ = σ := if_neg h7
    refine J_iload (M := mL_follow) dL_follow_35 rfl ?_
    refine Z_if_le (M := mL_follow) (tgt := 235) (by first | assumption | exact pI_rg _ | (unfold rg; omega)) dL_follow_37 (by decide) (fun c_37 => ?_) (fun c_37 => ?_)
    · omega
    · refine J_aload (M := mL_follow) dL_follow_40 rfl ?_
      refine Z_bipush (M := mL_follow) dL_follow_42 rfl ?_
      refine L_iald (M := mL_follow) (kf := 37) (N := 10) dL_follow_44 (by decide) rfl (by decide) (by omega) (by omega) ?_
      refine Z_if_le (M := mL_follow) (tgt := 235) (by first | assumption | exact pI_rg _ | (unfold rg; omega)) dL_follow_45 (by decide) (fun c_45 => ?_) (fun c_45 => ?_)
      · refine J_vret (M := mL_follow) dL_follow_235 rfl ?_
        exact ⟨rfl, _, GG _, by rw [ef]⟩
      · omega
  
  

