/-! THE REFERENCE: the pools' sums -/
theorem tch_SQ {u t : TS} (e : SQ u t) : tch u = tch t := by
  funext s n
  unfold tch jd stk
  rw [e 0 (by decide), e 3 (by decide), e 4 (by decide), e 12 (by decide), e 13 (by decide), e 14 (by decide), e 15 (by decide), e 16 (by decide)]
theorem te_SQ {u t : TS} (e : SQ u t) : te u = te t := by
  funext s
  unfold te
  rw [tch_SQ e, e 10 (by decide)]
def adF (τ : TS) (f x y b : Int) : TS := ts (ts (ts (ts τ 29 f (τ 29 f + 1)) 30 f (τ 30 f + b)) 31 f (τ 31 f + x)) 32 f (τ 32 f + y)
/-- the fields that the sums are written in, emptied up to i -/
def zr (τ : TS) (i : Int) : TS := fun k => if 29 ≤ k ∧ k ≤ 32 then (fun z => if 0 ≤ z ∧ z < i then 0 else τ k z) else τ k
theorem zr_0 {τ : TS} : zr τ 0 = τ := by
  funext k
  unfold zr
  split
  · funext z; rw [if_neg (by omega)]
  · rfl
theorem zr_s {τ : TS} {i : Int} (h0 : 0 ≤ i) : ts (ts (ts (ts (zr τ i) 29 i 0) 30 i 0) 31 i 0) 32 i 0 = zr τ (i + 1) := by
  funext k
  have H : ∀ k, upZ (zr τ i k) i 0 = fun z => if z = i then 0 else zr τ i k z := fun k => rfl
  have G : ∀ k, 29 ≤ k ∧ k ≤ 32 → upZ (zr τ i k) i 0 = zr τ (i + 1) k := by
    intro k hk
    rw [H]
    funext z
    unfold zr
    rw [if_pos hk, if_pos hk]
    by_cases e : z = i
    · rw [if_pos e]; show (0 : Int) = if 0 ≤ z ∧ z < i + 1 then 0 else τ k z; rw [if_pos (by omega)]
    · rw [if_neg e]
      by_cases e2 : 0 ≤ z ∧ z < i
      · show (if 0 ≤ z ∧ z < i then (0 : Int) else τ k z) = if 0 ≤ z ∧ z < i + 1 then 0 else τ k z; rw [if_pos e2, if_pos (by omega)]
      · show (if 0 ≤ z ∧ z < i then (0 : Int) else τ k z) = if 0 ≤ z ∧ z < i + 1 then 0 else τ k z; rw [if_neg e2, if_neg (by omega)]
  by_cases a32 : k = 32
  · subst a32; rw [ts_s, ts_n (by decide), ts_n (by decide), ts_n (by decide)]; exact G 32 (by decide)
  rw [ts_n a32]
  by_cases a31 : k = 31
  · subst a31; rw [ts_s, ts_n (by decide), ts_n (by decide)]; exact G 31 (by decide)
  rw [ts_n a31]
  by_cases a30 : k = 30
  · subst a30; rw [ts_s, ts_n (by decide)]; exact G 30 (by decide)
  rw [ts_n a30]
  by_cases a29 : k = 29
  · subst a29; rw [ts_s]; exact G 29 (by decide)
  rw [ts_n a29]
  unfold zr
  rw [if_neg (by omega), if_neg (by omega)]
theorem SQ_zr {τ : TS} {i : Int} : SQ (zr τ i) τ := fun k h => by unfold zr; rw [if_neg (by omega)]
theorem WF_zr {τ : TS} (W : WF τ) (i : Int) : WF (zr τ i) := by
  intro k z h1 h2
  unfold zr
  split
  · rename_i h
    have := W k z h1 h2
    have e : k = 29 ∨ k = 30 ∨ k = 31 ∨ k = 32 := by omega
    show (bnd k).1 ≤ (if 0 ≤ z ∧ z < i then 0 else τ k z) ∧ (if 0 ≤ z ∧ z < i then 0 else τ k z) ≤ (bnd k).2
    split
    · rcases e with rfl | rfl | rfl | rfl <;> decide
    · exact this
  · exact W k z h1 h2
noncomputable def sm1 (τ u : TS) (i : Int) : TS := if (te τ i).2.2 = -1 then t3 u (te τ i) else adF (adF (t3 u (te τ i)) (τ 6 i) (te τ i).1 (te τ i).2.1 (pI ((te τ i).2.2 = 0))) (τ 7 i) (te τ i).2.1 (te τ i).1 (pI ((te τ i).2.2 = 1))
noncomputable def smF (τ : TS) : Nat → TS
  | 0 => zr τ 12
  | i + 1 => sm1 τ (smF τ i) i
theorem SQ_adF {u t : TS} {f x y b : Int} (e : SQ u t) : SQ (adF u f x y b) t := SQ_l (by decide) (SQ_l (by decide) (SQ_l (by decide) (SQ_l (by decide) e)))
theorem SQ_sm1 {u τ t : TS} {i : Int} (e : SQ u t) : SQ (sm1 τ u i) t := by
  unfold sm1
  split
  · exact SQ_t3 e
  · exact SQ_adF (SQ_adF (SQ_t3 e))
theorem SQ_smF {τ : TS} : ∀ i, SQ (smF τ i) τ
  | 0 => SQ_zr
  | i + 1 => SQ_sm1 (SQ_smF i)
/-- the sums of fewer than so many bouts -/
def SB (u : TS) (n : Int) : Prop := ∀ j : Int, 0 ≤ j → j < 12 → u 29 j ≤ n ∧ u 30 j ≤ n ∧ u 31 j ≤ 12 * n ∧ u 32 j ≤ 12 * n
theorem ad_at {τ : TS} {f x y b j : Int} : adF τ f x y b 29 j = (if j = f then τ 29 f + 1 else τ 29 j) ∧ adF τ f x y b 30 j = (if j = f then τ 30 f + b else τ 30 j) ∧ adF τ f x y b 31 j = (if j = f then τ 31 f + x else τ 31 j) ∧ adF τ f x y b 32 j = (if j = f then τ 32 f + y else τ 32 j) := ⟨rfl, rfl, rfl, rfl⟩
theorem SB_ad {τ : TS} {f x y b n : Int} (h : SB τ n) (hf : 0 ≤ f ∧ f < 12) (hx : x ≤ 12) (hy : y ≤ 12) (hb : b ≤ 1) : SB (adF τ f x y b) (n + 1) := by
  intro j h0 h1
  obtain ⟨e1, e2, e3, e4⟩ := ad_at (τ := τ) (f := f) (x := x) (y := y) (b := b) (j := j)
  have q := h j h0 h1
  have q' := h f hf.1 hf.2
  rw [e1, e2, e3, e4]
  split <;> omega
theorem WF_ad {τ : TS} {f x y b n : Int} (W : WF τ) (h : SB τ n) (hn : n ≤ 160) (hf : 0 ≤ f ∧ f < 12) (hx : 0 ≤ x ∧ x ≤ 12) (hy : 0 ≤ y ∧ y ≤ 12) (hb : 0 ≤ b ∧ b ≤ 1) : WF (adF τ f x y b) := by
  have q' := h f hf.1 hf.2
  have a1 := wf29 W f
  have a2 := wf30 W f
  have a3 := wf31 W f
  have a4 := wf32 W f
  refine WF_ts (WF_ts (WF_ts (WF_ts W ?_) ?_) ?_) ?_
  · show (0 : Int) ≤ _ ∧ _ ≤ (2000 : Int); omega
  · show (0 : Int) ≤ _ ∧ _ ≤ (2000 : Int); omega
  · show (0 : Int) ≤ _ ∧ _ ≤ (2000 : Int); omega
  · show (0 : Int) ≤ _ ∧ _ ≤ (2000 : Int); omega
theorem SB_mono {u : TS} {n m : Int} (h : SB u n) (hm : n ≤ m) : SB u m := fun j a b => by have := h j a b; omega
theorem SB_t3 {u : TS} {n : Int} {z : Int × Int × Int} (h : SB u n) : SB (t3 u z) n := h
theorem smF_B {τ : TS} (W : WF τ) : ∀ i : Nat, i ≤ 66 → WF (smF τ i) ∧ SB (smF τ i) (2 * i)
  | 0, _ => And.intro (WF_zr W 12) (fun j a b => by
      have e : ∀ k, 29 ≤ k ∧ k ≤ 32 → zr τ 12 k j = 0 := fun k hk => by unfold zr; rw [if_pos hk]; exact if_pos (by omega)
      show zr τ 12 29 j ≤ _ ∧ zr τ 12 30 j ≤ _ ∧ zr τ 12 31 j ≤ _ ∧ zr τ 12 32 j ≤ _
      rw [e 29 (by decide), e 30 (by decide), e 31 (by decide), e 32 (by decide)]
      omega)
  | i + 1, h => by
      obtain ⟨w, s⟩ := smF_B W i (by omega)
      have bt := te_rg W i
      have b6 := wf6 W i
      have b7 := wf7 W i
      have p0 := pI_01 ((te τ i).2.2 = 0)
      have p1 := pI_01 ((te τ i).2.2 = 1)
      have w1 := WF_t3 w bt
      show WF (sm1 τ (smF τ i) i) ∧ SB (sm1 τ (smF τ i) i) _
      unfold sm1
      split
      · exact And.intro w1 (SB_mono (SB_t3 s) (by omega))
      · have s1 := SB_ad (f := τ 6 i) (x := (te τ i).1) (y := (te τ i).2.1) (b := pI ((te τ i).2.2 = 0)) (SB_t3 (z := te τ i) s) (by omega) (by omega) (by omega) (by omega)
        have w2 := WF_ad (f := τ 6 i) (x := (te τ i).1) (y := (te τ i).2.1) (b := pI ((te τ i).2.2 = 0)) w1 (SB_t3 (z := te τ i) s) (by omega) (by omega) (by omega) (by omega) (by omega)
        exact And.intro (WF_ad w2 s1 (by omega) (by omega) (by omega) (by omega) (by omega)) (SB_mono (SB_ad s1 (by omega) (by omega) (by omega) (by omega)) (by omega))
