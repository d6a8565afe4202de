/-! THE LAW: sums and ranks are the hall's -/
theorem lfen_ne {x : Int → Int} {i : Int} (h0 : 0 ≤ i) (h1 : i < 6) : ¬ lfen x i 0 = lfen x i 1 := by
  unfold lfen
  rw [if_neg (show ¬ 5 < i by omega), if_neg (show ¬ 5 < i by omega), if_pos rfl, if_neg (show ¬ (1 : Int) = 0 by decide)]
  by_cases q : i < 3
  · rw [if_pos q, if_pos q]; omega
  · rw [if_neg q, if_neg q]
    by_cases q2 : i < 5
    · rw [if_pos q2, if_pos q2]; omega
    · rw [if_neg q2, if_neg q2]; omega
/-- the law's sum of the first bouts, by the hall's -/
def SMR (w : Int → Int) (π : Int → Int64) (e x : Int → Int) (f : Int) (i : Nat) (u : TS) : Prop := lsm w π e x f 0 i = 100 + 10000 * u 29 f + 1000 * u 30 f + u 31 f - u 32 f ∧ lsm w π e x f 1 i = u 31 f ∧ (0 ≤ u 29 f ∧ u 29 f ≤ i) ∧ (0 ≤ u 30 f ∧ u 30 f ≤ i) ∧ (0 ≤ u 31 f ∧ u 31 f ≤ 5 * i) ∧ (0 ≤ u 32 f ∧ u 32 f ≤ 5 * i)
theorem smr {σ : TS} {π : Int → Int64} {τ : TS} (L : LW σ π τ) (W : WF τ) {f : Int} (hf : 0 ≤ f ∧ f ≤ 3) : ∀ i : Nat, i ≤ 6 → SMR (σ 30) π (σ 32) (σ 36) f i (smF τ i)
  | 0, _ => by
    have z : ∀ k, (29 ≤ k ∧ k ≤ 32) → zr τ 12 k f = 0 := fun k hk => by
      unfold zr
      rw [if_pos hk]
      exact if_pos (by omega)
    have e : smF τ 0 = zr τ 12 := rfl
    unfold SMR
    rw [e, z 29 (by decide), z 30 (by decide), z 31 (by decide), z 32 (by decide)]
    exact ⟨rfl, rfl, by decide, by decide, by decide, by decide⟩
  | i + 1, h => by
    obtain ⟨h1, h2, h3, h4, h5, h6⟩ := smr L W hf i (by omega)
    have hp := L.2.1 (σ 36) i (by omega) (by omega)
    have hne := lfen_ne (x := σ 36) (i := i) (by omega) (by omega)
    have ht := lte_te L W (b := i) (by omega) (by omega)
    have es : slb (i : Int) = i := if_pos (by omega)
    rw [es] at ht
    have tr := lte_rg (w := σ 30) (π := π) (e := σ 32) (b := i)
    have e0 : lsm (σ 30) π (σ 32) (σ 36) f 0 (i + 1) = lsm (σ 30) π (σ 32) (σ 36) f 0 i + lad 0 (lte (σ 30) π (σ 32) i) (lsd (σ 36) f i) := rfl
    have e1 : lsm (σ 30) π (σ 32) (σ 36) f 1 (i + 1) = lsm (σ 30) π (σ 32) (σ 36) f 1 i + lad 1 (lte (σ 30) π (σ 32) i) (lsd (σ 36) f i) := rfl
    have e2 : smF τ (i + 1) = sm1 τ (smF τ i) i := rfl
    unfold SMR
    rw [e0, e1, e2, h1, h2]
    unfold sm1
    rw [← ht]
    generalize lte (σ 30) π (σ 32) (i : Int) = z at tr
    generalize smF τ i = u at h3 h4 h5 h6
    have T : ∀ k, (k = 29 ∨ k = 30 ∨ k = 31 ∨ k = 32) → t3 u z k f = u k f := by
      intro k hk; rcases hk with rfl | rfl | rfl | rfl <;> rfl
    have ei : ((i + 1 : Nat) : Int) = (i : Int) + 1 := by push_cast; rfl
    rw [ei]
    by_cases c : z.2.2 = -1
    · rw [if_pos c, T 29 (by decide), T 30 (by decide), T 31 (by decide), T 32 (by decide)]
      have l0 : ∀ g, lad g z (lsd (σ 36) f i) = 0 := fun g => if_pos (Or.inl c)
      rw [l0, l0]
      refine ⟨by omega, by omega, by omega, by omega, by omega, by omega⟩
    · rw [if_neg c]
      obtain ⟨p1, p2⟩ := hp
      rw [p1, p2] at hne
      obtain ⟨a1, a2, a3, a4⟩ := ad_at (τ := adF (t3 u z) (τ 6 i) z.1 z.2.1 (pI (z.2.2 = 0))) (f := τ 7 i) (x := z.2.1) (y := z.1) (b := pI (z.2.2 = 1)) (j := f)
      obtain ⟨b1, b2, b3, b4⟩ := ad_at (τ := t3 u z) (f := τ 6 i) (x := z.1) (y := z.2.1) (b := pI (z.2.2 = 0)) (j := f)
      obtain ⟨c1, c2, c3, c4⟩ := ad_at (τ := t3 u z) (f := τ 6 i) (x := z.1) (y := z.2.1) (b := pI (z.2.2 = 0)) (j := τ 7 i)
      rw [T 29 (by decide)] at b1
      rw [T 30 (by decide)] at b2
      rw [T 31 (by decide)] at b3
      rw [T 32 (by decide)] at b4
      rw [a1, a2, a3, a4]
      by_cases q0 : f = τ 6 i
      · have s0 : lsd (σ 36) f i = 0 := if_pos (by rw [p1, q0])
        have q1 : ¬ f = τ 7 i := fun y => hne (by rw [← q0, ← y])
        rw [if_neg q1, if_neg q1, if_neg q1, if_neg q1, b1, b2, b3, b4, if_pos q0, if_pos q0, if_pos q0, if_pos q0, s0, ← q0, T 29 (by decide), T 30 (by decide), T 31 (by decide), T 32 (by decide)]
        have l0 : lad 0 z 0 = 10000 + (if z.2.2 = 0 then 1000 else 0) + z.1 - z.2.1 := by
          unfold lad lown loth
          rw [if_neg (by omega), if_pos rfl, if_pos rfl, if_pos rfl]
        have l1 : lad 1 z 0 = z.1 := by
          unfold lad lown loth
          rw [if_neg (by omega), if_neg (by decide), if_pos rfl]
        have hpi : pI (z.2.2 = 0) = (if z.2.2 = 0 then 1 else 0) := by
          by_cases y : z.2.2 = 0
          · rw [if_pos y, pI_t y]
          · rw [if_neg y, pI_f y]
        rw [l0, l1, hpi]
        by_cases y : z.2.2 = 0
        · rw [if_pos y, if_pos y]
          refine ⟨by omega, by omega, by omega, by omega, by omega, by omega⟩
        · rw [if_neg y, if_neg y]
          refine ⟨by omega, by omega, by omega, by omega, by omega, by omega⟩
      · by_cases q1 : f = τ 7 i
        · have s1 : lsd (σ 36) f i = 1 := by
            unfold lsd
            rw [if_neg (fun y => q0 (by rw [← p1, y])), if_pos (by rw [p2, q1])]
          have q2 : ¬ τ 7 i = τ 6 i := fun y => hne y.symm
          rw [if_pos q1, if_pos q1, if_pos q1, if_pos q1, c1, c2, c3, c4, if_neg q2, if_neg q2, if_neg q2, if_neg q2, s1, ← q1, T 29 (by decide), T 30 (by decide), T 31 (by decide), T 32 (by decide)]
          have l0 : lad 0 z 1 = 10000 + (if z.2.2 = 1 then 1000 else 0) + z.2.1 - z.1 := by
            unfold lad lown loth
            rw [if_neg (by omega), if_pos rfl, if_neg (show ¬ (1 : Int) = 0 by decide), if_neg (show ¬ (1 : Int) = 0 by decide)]
          have l1 : lad 1 z 1 = z.2.1 := by
            unfold lad lown loth
            rw [if_neg (by omega), if_neg (show ¬ (1 : Int) = 0 by decide), if_neg (show ¬ (1 : Int) = 0 by decide)]
          have hpi : pI (z.2.2 = 1) = (if z.2.2 = 1 then 1 else 0) := by
            by_cases y : z.2.2 = 1
            · rw [if_pos y, pI_t y]
            · rw [if_neg y, pI_f y]
          rw [l0, l1, hpi]
          by_cases y : z.2.2 = 1
          · rw [if_pos y, if_pos y]
            refine ⟨by omega, by omega, by omega, by omega, by omega, by omega⟩
          · rw [if_neg y, if_neg y]
            refine ⟨by omega, by omega, by omega, by omega, by omega, by omega⟩
        · have s2 : lsd (σ 36) f i = 2 := by
            unfold lsd
            rw [if_neg (fun y => q0 (by rw [← p1, y])), if_neg (fun y => q1 (by rw [← p2, y]))]
          have l0 : ∀ g, lad g z 2 = 0 := fun g => if_pos (Or.inr rfl)
          rw [if_neg q1, if_neg q1, if_neg q1, if_neg q1, b1, b2, b3, b4, if_neg q0, if_neg q0, if_neg q0, if_neg q0, s2, l0, l0]
          refine ⟨by omega, by omega, by omega, by omega, by omega, by omega⟩
theorem smr6 {σ : TS} {π : Int → Int64} {τ : TS} (L : LW σ π τ) (W : WF τ) {f : Int} (hf : 0 ≤ f ∧ f ≤ 3) : SMR (σ 30) π (σ 32) (σ 36) f 6 (sm τ) := by
  have h := smr L W hf 6 (Nat.le_refl _)
  unfold sm
  rw [L.1.1.2.2.2.2]
  exact h
theorem lah_ahP {σ : TS} {π : Int → Int64} {τ : TS} (L : LW σ π τ) (W : WF τ) {a b : Int} (ha : 0 ≤ a ∧ a ≤ 3) (hb : 0 ≤ b ∧ b ≤ 3) : lah (σ 30) π (σ 32) (σ 36) a b ↔ ahP (sm τ) a b := by
  obtain ⟨h1, h2, h3, h4, h5, h6⟩ := smr6 L W ha
  obtain ⟨g1, g2, g3, g4, g5, g6⟩ := smr6 L W hb
  generalize sm τ = u at h1 h2 h3 h4 h5 h6 g1 g2 g3 g4 g5 g6
  unfold lah ahP
  rw [h1, h2, g1, g2]
  have ea : lO (100 + 10000 * u 29 a + 1000 * u 30 a + u 31 a - u 32 a) (100 + 10000 * u 29 b + 1000 * u 30 b + u 31 b - u 32 b) = u 30 a * mx1 (u 29 b) := by
    unfold lO
    rw [show (100 + 10000 * u 29 a + 1000 * u 30 a + u 31 a - u 32 a) / 1000 % 10 = u 30 a by omega, show (100 + 10000 * u 29 b + 1000 * u 30 b + u 31 b - u 32 b) / 10000 = u 29 b by omega]
  have eb : lO (100 + 10000 * u 29 b + 1000 * u 30 b + u 31 b - u 32 b) (100 + 10000 * u 29 a + 1000 * u 30 a + u 31 a - u 32 a) = u 30 b * mx1 (u 29 a) := by
    unfold lO
    rw [show (100 + 10000 * u 29 b + 1000 * u 30 b + u 31 b - u 32 b) / 1000 % 10 = u 30 b by omega, show (100 + 10000 * u 29 a + 1000 * u 30 a + u 31 a - u 32 a) / 10000 = u 29 a by omega]
  have e : lD2 (100 + 10000 * u 29 a + 1000 * u 30 a + u 31 a - u 32 a) (100 + 10000 * u 29 b + 1000 * u 30 b + u 31 b - u 32 b) (u 31 a) (u 31 b) = ahd u a b := by
    unfold lD2 lD1 ahd
    rw [ea, eb]
    dsimp only
    generalize u 30 a * mx1 (u 29 b) = p
    generalize u 30 b * mx1 (u 29 a) = q
    by_cases c : p = q
    · rw [if_pos c, if_pos (show p - q = 0 by omega)]
      rw [show (100 + 10000 * u 29 a + 1000 * u 30 a + u 31 a - u 32 a) % 1000 - (100 + 10000 * u 29 b + 1000 * u 30 b + u 31 b - u 32 b) % 1000 = u 31 a - u 32 a - u 31 b + u 32 b by omega]
    · have c' : ¬ p - q = 0 := by omega
      rw [if_neg c, if_neg c', if_neg c', if_neg c']
  rw [e]
theorem lcn_cnA {σ : TS} {π : Int → Int64} {τ : TS} (L : LW σ π τ) (W : WF τ) {i : Int} (hi : 0 ≤ i ∧ i ≤ 3) : ∀ m : Nat, m ≤ 4 → lcn (σ 30) π (σ 32) (σ 36) i m = cnA (sm τ) i m
  | 0, _ => rfl
  | m + 1, h => by
    have ih := lcn_cnA L W hi m (by omega)
    have hp := lah_ahP L W (a := m) (b := i) (by omega) hi
    show lcn (σ 30) π (σ 32) (σ 36) i m + pI (¬ i = (m : Int) ∧ lah (σ 30) π (σ 32) (σ 36) m i) = cnA (sm τ) i m + pI (¬ (m : Int) = i ∧ ahP (sm τ) m i)
    rw [ih]
    congr 1
    apply pI_c
    rw [hp]
    constructor
    · rintro ⟨a, b⟩
      exact ⟨fun y => a y.symm, b⟩
    · rintro ⟨a, b⟩
      exact ⟨fun y => a y.symm, b⟩
theorem lrk_rkF {σ : TS} {π : Int → Int64} {τ : TS} (L : LW σ π τ) (W : WF τ) {p : Int} : ∀ m : Nat, m ≤ 4 → (∃ i : Nat, i < m ∧ cnA (sm τ) i 4 = p) → lrk (σ 30) π (σ 32) (σ 36) p m = rkF (sm τ) p 4 m
  | 0, _, h => by
    obtain ⟨i, h1, -⟩ := h
    exact absurd h1 (by omega)
  | m + 1, h4, h => by
    have hc := lcn_cnA L W (i := m) (by omega) 4 (Nat.le_refl _)
    show (if lcn (σ 30) π (σ 32) (σ 36) m 4 = p then (m : Int) else lrk (σ 30) π (σ 32) (σ 36) p m) = (if cnA (sm τ) m (4 : Int).toNat = p then (m : Int) else rkF (sm τ) p 4 m)
    rw [hc, show (4 : Int).toNat = 4 from rfl]
    by_cases q : cnA (sm τ) m 4 = p
    · rw [if_pos q, if_pos q]
    · rw [if_neg q, if_neg q]
      obtain ⟨i, h1, h2⟩ := h
      refine lrk_rkF L W m (by omega) ⟨i, ?_, h2⟩
      by_cases y : i = m
      · subst y; exact absurd h2 q
      · omega
theorem rank_i {σ : TS} {π : Int → Int64} {τ : TS} (L : LW σ π τ) (W : WF τ) {p : Int} (hp : 0 ≤ p ∧ p ≤ 3) : rkF (sm τ) p (τ 1 0) (τ 1 0).toNat = lrk (σ 30) π (σ 32) (σ 36) p 4 := by
  have hu : ∀ i, 0 ≤ sm τ 29 i := fun i => (wf29 (WF_sm W) i).1
  obtain ⟨i, hi, hc⟩ := rk_ex hu (n := 4) (p := p) hp.1 (by omega)
  rw [L.1.1.2.1]
  exact (lrk_rkF L W 4 (Nat.le_refl _) ⟨i.toNat, by omega, by rw [show ((i.toNat : Nat) : Int) = i by omega]; exact hc⟩).symm
