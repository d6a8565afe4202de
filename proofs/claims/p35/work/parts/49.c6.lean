/-! THE CLASS: how winners settle -/
def LVb (τ : TS) (b : Int) : Prop := (0 ≤ b ∧ b < τ 9 0) ∨ (66 < b ∧ b < 66 + τ 21 0)
def VB (τ : TS) (b : Int) : Prop := (0 ≤ b ∧ b < τ 9 0) ∨ (100 < b ∧ b < 100 + τ 21 0)
/-- a bout with all that it keeps -/
def BB (ρ τ : TS) (b : Int) : Prop := BR ρ τ b ∧ TL ρ τ b ∧ ρ 21 b = 2 - τ 11 (2 * b) ∧ ρ 22 b = 2 - τ 11 (2 * b + 1)
/-- the piste, no phrase being on -/
def PO (ρ τ : TS) : Prop := ρ 41 0 = -1 ∧ ρ 37 0 = τ 17 0 ∧ (τ 17 0 = -1 → ρ 38 0 = -1 ∧ ρ 39 0 = -1 ∧ ρ 40 0 = -1) ∧ (¬ τ 17 0 = -1 → VB τ (τ 17 0) ∧ ρ 38 0 = slo (τ 17 0) ∧ ρ 39 0 = τ 18 0 ∧ ρ 40 0 = τ 18 1 ∧ τ 18 0 < ρ 47 1 ∧ τ 18 1 < ρ 47 1 ∧ ρ 42 0 = τ 20 0 ∧ (¬ τ 20 0 = 0 → 1 ≤ τ 10 (slo (τ 17 0))))
/-- what settles, the nodes above n being settled; x: a bout that is still to be dropped -/
def SR (ρ τ : TS) (n x : Int) : Prop := WF τ ∧ WK ρ ∧ (ρ 43 0 = τ 21 0 ∧ ρ 44 0 = τ 24 0 ∧ τ 21 0 % 2 = 0) ∧
  (∀ k, 1 ≤ k → k < τ 21 0 → ρ 7 k = 66 + k) ∧
  (∀ b, LVb τ b → BB ρ τ b) ∧
  (∀ k, 1 ≤ k → k < 2 * τ 21 0 → ρ 46 k = mx (τ 22 k)) ∧
  (∀ k, n < k → 1 ≤ k → k < τ 21 0 → (ρ 18 (66 + k) = mx (τ 22 (2 * k)) ∧ ρ 19 (66 + k) = mx (τ 22 (2 * k + 1))) ∧ τ 22 k = fwin τ k) ∧
  (∀ k, 1 ≤ k → k < τ 21 0 → ¬ τ 22 k = -2) ∧
  (∀ k, τ 21 0 ≤ 2 * k → k < τ 21 0 → ¬ τ 22 (2 * k) = -1 ∧ ¬ τ 22 (2 * k + 1) = -1 ∧ ¬ (τ 22 (2 * k) = -2 ∧ τ 22 (2 * k + 1) = -2)) ∧
  (∀ k, 1 ≤ k → k < τ 21 0 → ¬ k = x → (τ 22 (2 * k) < 0 ∨ τ 22 (2 * k + 1) < 0) → τ 10 (66 + k) = 0) ∧
  (∀ k, 1 ≤ k → k < τ 21 0 → ¬ k = x → τ 17 0 = 100 + k → 0 ≤ τ 22 (2 * k) ∧ 0 ≤ τ 22 (2 * k + 1)) ∧
  PO ρ τ ∧ WR ρ τ
def cdr (τ : TS) (j : Int) : TS := ts (ts (ts (ts (ts τ 24 0 (τ 24 0 + (if 0 < τ 10 (66 + j) then 1 else 0))) 10 (66 + j) 0) 11 (2 * (66 + j)) 0) 11 (2 * (66 + j) + 1) 0) 17 0 (if τ 17 0 = 100 + j then -1 else τ 17 0)
def cst (τ : TS) (k : Int) : TS := if 2 ≤ k ∧ 0 ≤ τ 22 k ∧ ¬ τ 22 k = fwin τ k then cdr (ts τ 22 k (fwin τ k)) (k / 2) else ts τ 22 k (fwin τ k)
def cfd : Nat → TS → TS
  | 0, τ => τ
  | n + 1, τ => cfd n (cst τ ((n + 1 : Nat) : Int))
theorem te_0 {τ : TS} {b : Int} (h : τ 10 b = 0) : te τ b = (0, 0, -1) := by
  unfold te
  rw [h]
  rfl
theorem te_eq {τ τ' : TS} {b : Int} (h1 : tch τ' = tch τ) (h2 : τ' 10 b = τ 10 b) : te τ' b = te τ b := by
  unfold te
  rw [h1, h2]
theorem mx_r {z : Int} : (z < 0 → mx z = -1) ∧ (0 ≤ z → mx z = z) := by
  unfold mx
  split <;> omega
theorem wnv_p {S n L R t l r F : Int} (hl : (L < 0 → l = -1) ∧ (0 ≤ L → l = L)) (hr : (R < 0 → r = -1) ∧ (0 ≤ R → r = R)) (hL : -2 ≤ L) (hR : -2 ≤ R) (hleaf : S ≤ 2 * n → ¬ L = -1 ∧ ¬ R = -1 ∧ ¬ (L = -2 ∧ R = -2)) (hin : ¬ S ≤ 2 * n → ¬ L = -2 ∧ ¬ R = -2) (hend : L < 0 ∨ R < 0 → t = -1) (hF : F = fnow L R t) :
    ¬ F = -2 ∧ (if S ≤ 2 * n ∧ l = -1 then r else if S ≤ 2 * n ∧ r = -1 then l else if t = -1 then -1 else if t = 0 then l else r) = mx F := by
  have hm := mx_r (z := F)
  unfold fnow at hF
  by_cases c1 : 0 ≤ L ∧ 0 ≤ R
  · rw [if_pos c1] at hF
    rw [if_neg (by omega), if_neg (by omega)]
    by_cases c2 : t = -1
    · rw [if_pos c2] at hF ⊢
      omega
    · rw [if_neg c2] at hF ⊢
      by_cases c3 : t = 0
      · rw [if_pos c3] at hF ⊢
        omega
      · rw [if_neg c3] at hF ⊢
        omega
  · rw [if_neg c1] at hF
    by_cases c4 : S ≤ 2 * n
    · have := hleaf c4
      by_cases c5 : L = -2
      · rw [if_pos c5] at hF
        rw [if_pos (by omega)]
        omega
      · rw [if_neg c5, if_pos (by omega)] at hF
        rw [if_neg (by omega), if_pos (by omega)]
        omega
    · have := hin c4
      rw [if_neg this.1, if_neg this.2] at hF
      rw [if_neg (by omega), if_neg (by omega), if_pos (hend (by omega))]
      omega
/-- winners, without more -/
theorem SR_win {ρ τ : TS} {n x m : Int} (S : SR ρ τ n x) (h1 : 1 ≤ m) (h2 : m < τ 21 0) (hx : ¬ m = x) {l r : Int} (hl : l = mx (τ 22 (2 * m))) (hr : r = mx (τ 22 (2 * m + 1))) :
    ¬ fwin τ m = -2 ∧ (if τ 21 0 ≤ 2 * m ∧ l = -1 then r else if τ 21 0 ≤ 2 * m ∧ r = -1 then l else if (te τ (66 + m)).2.2 = -1 then -1 else if (te τ (66 + m)).2.2 = 0 then l else r) = mx (fwin τ m) := by
  obtain ⟨W, V, s3, s4, s5, s6, s7, s8, s9, s10, s11, s12, s13⟩ := S
  subst hl
  subst hr
  refine wnv_p mx_r mx_r (wf22 W _).1 (wf22 W _).1 (fun q => s9 m q h2) (fun q => ⟨s8 (2 * m) (by omega) (by omega), s8 (2 * m + 1) (by omega) (by omega)⟩) (fun q => ?_) rfl
  rw [te_0 (s10 m h1 h2 hx q)]
def stA (ρ τ : TS) (n : Int) : TS := ts (ts (ts ρ 18 (66 + n) (mx (τ 22 (2 * n)))) 19 (66 + n) (mx (τ 22 (2 * n + 1)))) 46 n (mx (fwin τ n))
theorem mx_b {z : Int} (h : -2 ≤ z ∧ z ≤ 11) : -1 ≤ mx z ∧ mx z ≤ 11 := by
  unfold mx
  split <;> omega
theorem SR_A {ρ τ : TS} {n : Int} (S : SR ρ τ n 0) (h1 : 1 ≤ n) (h2 : n < τ 21 0) : SR (stA ρ τ n) (ts τ 22 n (fwin τ n)) (n - 1) (if 0 ≤ τ 22 n ∧ ¬ τ 22 n = fwin τ n then n / 2 else 0) := by
  have hw := (SR_win S h1 h2 (by omega) rfl rfl).1
  obtain ⟨W, V, s3, s4, s5, s6, s7, s8, s9, s10, s11, s12, s13⟩ := S
  have bL := wf22 W (2 * n)
  have bR := wf22 W (2 * n + 1)
  have bF := fnow_rg (w := (te τ (66 + n)).2.2) bL bR
  have e22 : ∀ k, ¬ k = n → ts τ 22 n (fwin τ n) 22 k = τ 22 k := fun k hk => ts_else hk
  have e22n : ts τ 22 n (fwin τ n) 22 n = fwin τ n := ts_self
  have eF : ∀ k, ¬ 2 * k = n → ¬ 2 * k + 1 = n → fwin (ts τ 22 n (fwin τ n)) k = fwin τ k := fun k q1 q2 => by
    show fnow (ts τ 22 n (fwin τ n) 22 (2 * k)) (ts τ 22 n (fwin τ n) 22 (2 * k + 1)) (te τ (66 + k)).2.2 = _
    rw [e22 _ q1, e22 _ q2]
    rfl
  refine ⟨WF_ts W bF, WK_ts (WK_ts (WK_ts V (mx_b bL)) (mx_b bR)) (mx_b bF), s3, s4, s5, fun k q1 q2 => ?_, fun k q1 q2 q3 => ?_, fun k q1 q2 => ?_, fun k q1 q2 => ?_, fun k q1 q2 q3 q4 => ?_, fun k q1 q2 q3 q4 => ?_, s12, s13⟩
  · by_cases e : k = n
    · rw [e, e22n]
      exact ts_self
    · rw [e22 k e]
      show ts (ts (ts ρ 18 (66 + n) (mx (τ 22 (2 * n)))) 19 (66 + n) (mx (τ 22 (2 * n + 1)))) 46 n (mx (fwin τ n)) 46 k = _
      rw [ts_else e]
      exact s6 k q1 q2
  · rw [e22 (2 * k) (by omega), e22 (2 * k + 1) (by omega), eF k (by omega) (by omega)]
    show (ts ρ 18 (66 + n) (mx (τ 22 (2 * n))) 18 (66 + k) = _ ∧ ts (ts ρ 18 (66 + n) (mx (τ 22 (2 * n)))) 19 (66 + n) (mx (τ 22 (2 * n + 1))) 19 (66 + k) = _) ∧ _
    by_cases e : k = n
    · rw [e, e22n]
      exact ⟨⟨ts_self, ts_self⟩, rfl⟩
    · obtain ⟨⟨a1, a2⟩, a3⟩ := s7 k (by omega) q2 q3
      rw [e22 k e, ts_else (show ¬ 66 + k = 66 + n by omega), ts_else (show ¬ 66 + k = 66 + n by omega)]
      exact ⟨⟨a1, a2⟩, a3⟩
  · by_cases e : k = n
    · rw [e, e22n]; exact hw
    · rw [e22 k e]; exact s8 k q1 q2
  · have q1' : τ 21 0 ≤ 2 * k := q1
    have q2' : k < τ 21 0 := q2
    rw [e22 (2 * k) (by omega), e22 (2 * k + 1) (by omega)]
    exact s9 k q1 q2
  · have s := s10 k q1 q2 (by omega)
    by_cases c : 0 ≤ τ 22 n ∧ ¬ τ 22 n = fwin τ n
    · rw [if_pos c] at q3
      rw [e22 (2 * k) (by omega), e22 (2 * k + 1) (by omega)] at q4
      exact s q4
    · rw [if_neg c] at q3
      by_cases c1 : 2 * k = n
      · rw [e22 (2 * k + 1) (by omega), c1, e22n] at q4
        refine s ?_
        rw [c1]
        omega
      · by_cases c2 : 2 * k + 1 = n
        · rw [e22 (2 * k) (by omega), c2, e22n] at q4
          refine s ?_
          rw [c2]
          omega
        · rw [e22 _ c1, e22 _ c2] at q4
          exact s q4
  · have s := s11 k q1 q2 (by omega) q4
    by_cases c : 0 ≤ τ 22 n ∧ ¬ τ 22 n = fwin τ n
    · rw [if_pos c] at q3
      rw [e22 (2 * k) (by omega), e22 (2 * k + 1) (by omega)]
      exact s
    · by_cases c1 : 2 * k = n
      · rw [e22 (2 * k + 1) (by omega), c1, e22n]
        rw [c1] at s
        omega
      · by_cases c2 : 2 * k + 1 = n
        · rw [e22 (2 * k) (by omega), c2, e22n]
          rw [c2] at s
          omega
        · rw [e22 _ c1, e22 _ c2]
          exact s
theorem WK_fs {ρ : TS} {k : Nat} {g : Int → Int} (V : WK ρ) (h : ∀ i, (bK k).1 ≤ g i ∧ g i ≤ (bK k).2) : WK (fs ρ k g) := by
  intro k' i h1 h2
  by_cases e : k' = k
  · subst e; rw [fs_s]; exact h i
  · rw [fs_n e]; exact V k' i h1 h2
theorem WK_fgt {ρ : TS} (V : WK ρ) {b : Int} : WK (fgt ρ b) := by
  refine WK_ts (WK_ts (WK_ts (WK_ts (WK_ts (WK_fs V (fun i => ?_)) ?_) ?_) ?_) ?_) ?_
  · show (-1 : Int) ≤ rw0 (ρ 23) b 12 i ∧ rw0 (ρ 23) b 12 i ≤ 100000
    have := wk23 V i
    unfold rw0
    split <;> omega
  all_goals decide
theorem WK_pst {ρ : TS} (V : WK ρ) : WK (pst ρ (-1) (-1) (-1) (-1)) := by
  refine WK_ts (WK_ts (WK_ts (WK_ts (WK_ts (WK_ts V ?_) ?_) ?_) ?_) ?_) ?_ <;> decide
/-- a bout forgotten: what there is at it, and elsewhere -/
theorem fgt_20 {ρ : TS} {b : Int} : fgt ρ b 20 = upZ (ρ 20) b 0 := by
  unfold fgt
  rw [ts_n (by decide), ts_n (by decide), ts_n (by decide), ts_n (by decide), ts_s, fs_n (by decide)]
theorem fgt_21 {ρ : TS} {b : Int} : fgt ρ b 21 = upZ (ρ 21) b 2 := by
  unfold fgt
  rw [ts_n (by decide), ts_n (by decide), ts_n (by decide), ts_s, ts_n (by decide), fs_n (by decide)]
theorem fgt_22 {ρ : TS} {b : Int} : fgt ρ b 22 = upZ (ρ 22) b 2 := by
  unfold fgt
  rw [ts_n (by decide), ts_n (by decide), ts_s, ts_n (by decide), ts_n (by decide), fs_n (by decide)]
theorem fgt_25 {ρ : TS} {b : Int} : fgt ρ b 25 = upZ (ρ 25) b 0 := by
  unfold fgt
  rw [ts_n (by decide), ts_s, ts_n (by decide), ts_n (by decide), ts_n (by decide), fs_n (by decide)]
theorem fgt_26 {ρ : TS} {b : Int} : fgt ρ b 26 = upZ (ρ 26) b 0 := by
  unfold fgt
  rw [ts_s, ts_n (by decide), ts_n (by decide), ts_n (by decide), ts_n (by decide), fs_n (by decide)]
theorem pst_k {ρ : TS} {x b v w : Int} {k : Nat} (h : k < 37 ∨ 42 < k) : pst ρ x b v w k = ρ k := by
  unfold pst
  rw [ts_n (by omega), ts_n (by omega), ts_n (by omega), ts_n (by omega), ts_n (by omega), ts_n (by omega)]
theorem drp_f {ρ : TS} {b : Int} {k : Nat} (h : k < 37) : drp ρ b k = fgt (ts ρ 44 0 (ρ 44 0 + (if 0 < ρ 20 b then 1 else 0))) b k := by
  unfold drp
  try dsimp only
  split
  · exact pst_k (Or.inl h)
  · rfl
theorem drp_at {ρ : TS} {b : Int} : drp ρ b 20 b = 0 ∧ drp ρ b 21 b = 2 ∧ drp ρ b 22 b = 2 ∧ drp ρ b 25 b = 0 ∧ drp ρ b 26 b = 0 := by
  rw [drp_f (by decide), drp_f (by decide), drp_f (by decide), drp_f (by decide), drp_f (by decide), fgt_20, fgt_21, fgt_22, fgt_25, fgt_26]
  exact ⟨if_pos rfl, if_pos rfl, if_pos rfl, if_pos rfl, if_pos rfl⟩
theorem drp_ot {ρ : TS} {b c : Int} (h : ¬ c = b) : drp ρ b 20 c = ρ 20 c ∧ drp ρ b 21 c = ρ 21 c ∧ drp ρ b 22 c = ρ 22 c ∧ drp ρ b 25 c = ρ 25 c ∧ drp ρ b 26 c = ρ 26 c := by
  rw [drp_f (by decide), drp_f (by decide), drp_f (by decide), drp_f (by decide), drp_f (by decide), fgt_20, fgt_21, fgt_22, fgt_25, fgt_26]
  exact ⟨if_neg h, if_neg h, if_neg h, if_neg h, if_neg h⟩
theorem drp_23 {ρ : TS} {b z : Int} (h : z < 12 * b ∨ 12 * b + 12 ≤ z) : drp ρ b 23 z = ρ 23 z := by
  have e : rw0 (ρ 23) b 12 z = ρ 23 z := by unfold rw0; rw [if_neg (by omega)]
  unfold drp
  try dsimp only
  split <;> exact e
theorem drp_k {ρ : TS} {b : Int} {k : Nat} (h : ¬ (20 ≤ k ∧ k ≤ 23) ∧ ¬ (k = 25 ∨ k = 26) ∧ ¬ (37 ≤ k ∧ k ≤ 42) ∧ ¬ k = 44) : drp ρ b k = ρ k := by
  unfold drp
  try dsimp only
  have e : fgt (ts ρ 44 0 (ρ 44 0 + (if 0 < ρ 20 b then 1 else 0))) b k = ρ k := by
    unfold fgt
    rw [ts_n (by omega), ts_n (by omega), ts_n (by omega), ts_n (by omega), ts_n (by omega), fs_n (by omega), ts_n (by omega)]
  split
  · unfold pst
    rw [ts_n (by omega), ts_n (by omega), ts_n (by omega), ts_n (by omega), ts_n (by omega), ts_n (by omega)]
    exact e
  · exact e
theorem drp_44 {ρ : TS} {b : Int} : drp ρ b 44 0 = ρ 44 0 + (if 0 < ρ 20 b then 1 else 0) := by
  unfold drp
  try dsimp only
  split <;> rfl
theorem drp_p {ρ : TS} {b : Int} (h : ρ 38 0 = b) : drp ρ b 37 0 = -1 ∧ drp ρ b 38 0 = -1 ∧ drp ρ b 39 0 = -1 ∧ drp ρ b 40 0 = -1 ∧ drp ρ b 41 0 = -1 := by
  unfold drp
  try dsimp only
  rw [if_pos h]
  exact ⟨rfl, rfl, rfl, rfl, rfl⟩
theorem drp_q {ρ : TS} {b : Int} (h : ¬ ρ 38 0 = b) {k : Nat} (hk : 37 ≤ k ∧ k ≤ 42) : drp ρ b k = ρ k := by
  unfold drp
  try dsimp only
  rw [if_neg h]
  unfold fgt
  rw [ts_n (by omega), ts_n (by omega), ts_n (by omega), ts_n (by omega), ts_n (by omega), fs_n (by omega), ts_n (by omega)]
theorem PH_k {ρ ρ' τ τ' : TS} {p f : Int} (P : PH ρ τ p f) (h1 : ρ' 47 = ρ 47) (h2 : ∀ k, 27 ≤ k ∧ k ≤ 36 → ρ' k = ρ k) (h3 : ρ' 49 = ρ 49) (h4 : τ' 0 = τ 0) (h5 : ∀ k, 12 ≤ k ∧ k ≤ 16 → τ' k = τ k) : PH ρ' τ' p f := by
  unfold PH
  rw [h1, h2 27 (by decide), h3, h2 28 (by decide), h2 29 (by decide), h2 33 (by decide), h2 34 (by decide), h2 35 (by decide), h2 30 (by decide), h2 31 (by decide), h2 32 (by decide), h4, h5 13 (by decide), h5 12 (by decide), h5 14 (by decide), h5 15 (by decide), h5 16 (by decide)]
  exact P
theorem jd_k2 {τ τ' : TS} (h4 : τ' 0 = τ 0) (h5 : ∀ k, 12 ≤ k ∧ k ≤ 16 → τ' k = τ k) : jd τ' = jd τ := by
  funext f
  unfold jd
  rw [h4, h5 12 (by decide), h5 14 (by decide), h5 15 (by decide), h5 16 (by decide)]
theorem cdr_k {τ : TS} {j : Int} {k : Nat} (h : ¬ (k = 24 ∨ k = 10 ∨ k = 11 ∨ k = 17)) : cdr τ j k = τ k := by
  unfold cdr
  rw [ts_n (by omega), ts_n (by omega), ts_n (by omega), ts_n (by omega), ts_n (by omega)]
theorem cdr_10 {τ : TS} {j b : Int} (h : ¬ b = 66 + j) : cdr τ j 10 b = τ 10 b := by
  unfold cdr
  rw [tsN (by decide), tsN (by decide), tsN (by decide), ts_else h, tsN (by decide)]
theorem cdr_10s {τ : TS} {j : Int} : cdr τ j 10 (66 + j) = 0 := by
  unfold cdr
  rw [tsN (by decide), tsN (by decide), tsN (by decide), ts_self]
theorem cdr_11 {τ : TS} {j b : Int} (h : ¬ b = 66 + j) : cdr τ j 11 (2 * b) = τ 11 (2 * b) ∧ cdr τ j 11 (2 * b + 1) = τ 11 (2 * b + 1) := by
  unfold cdr
  rw [tsN (by decide), ts_else (by omega), ts_else (by omega), tsN (by decide), tsN (by decide), tsN (by decide), ts_else (by omega), ts_else (by omega), tsN (by decide), tsN (by decide)]
  exact ⟨rfl, rfl⟩
theorem cdr_11s {τ : TS} {j : Int} : cdr τ j 11 (2 * (66 + j)) = 0 ∧ cdr τ j 11 (2 * (66 + j) + 1) = 0 := by
  unfold cdr
  rw [tsN (by decide), ts_else (by omega), ts_self, tsN (by decide), ts_self]
  exact ⟨rfl, rfl⟩
theorem cdr_17 {τ : TS} {j : Int} : cdr τ j 17 0 = if τ 17 0 = 100 + j then -1 else τ 17 0 := ts_self
theorem cdr_24 {τ : TS} {j : Int} : cdr τ j 24 0 = τ 24 0 + (if 0 < τ 10 (66 + j) then 1 else 0) := rfl
theorem WF_cdr {τ : TS} (W : WF τ) {j : Int} : WF (cdr τ j) := by
  have b := wf17 W 0
  refine WF_ts (WF_ts (WF_ts (WF_ts (WF_24 W) ?_) ?_) ?_) ?_
  · decide
  · decide
  · decide
  · show (-1 : Int) ≤ _ ∧ _ ≤ (115 : Int)
    split <;> omega
theorem tch_k {τ τ' : TS} (h4 : τ' 0 = τ 0) (h5 : ∀ k, 12 ≤ k ∧ k ≤ 16 → τ' k = τ k) (h6 : τ' 3 = τ 3) (h7 : τ' 4 = τ 4) : tch τ' = tch τ := by
  funext s n
  unfold tch stk
  rw [jd_k2 h4 h5, h6, h7, h5 13 (by decide)]
theorem VB_slo {τ : TS} (W : WF τ) {b : Int} (h : VB τ b) : LVb τ (slo b) ∧ (b < 100 → slo b = b ∧ slo b < 66) ∧ (100 ≤ b → slo b = b - 34) := by
  have := wf9 W 0
  have := wf21 W 0
  unfold VB at h
  unfold LVb slo
  split <;> omega
theorem SR_B {ρ u : TS} {m j : Int} (S : SR ρ u m j) (h1 : 1 ≤ j) (h2 : j < u 21 0) (h3 : j ≤ m) : SR (drp ρ (66 + j)) (cdr u j) m 0 := by
  obtain ⟨W, V, s3, s4, s5, s6, s7, s8, s9, s10, s11, s12, s13⟩ := S
  have c22 : cdr u j 22 = u 22 := cdr_k (by decide)
  have c21 : cdr u j 21 = u 21 := cdr_k (by decide)
  have c9 : cdr u j 9 = u 9 := cdr_k (by decide)
  have c5 : ∀ k, 12 ≤ k ∧ k ≤ 16 → cdr u j k = u k := fun k hk => cdr_k (by omega)
  have c0 : cdr u j 0 = u 0 := cdr_k (by decide)
  have ct : tch (cdr u j) = tch u := tch_k c0 c5 (cdr_k (by decide)) (cdr_k (by decide))
  have hL : ∀ b, LVb (cdr u j) b ↔ LVb u b := fun b => by unfold LVb; rw [c9, c21]
  have b0 := s5 (66 + j) (Or.inr (by omega))
  have d43 : drp ρ (66 + j) 43 = ρ 43 := drp_k (by decide)
  have d47 : drp ρ (66 + j) 47 = ρ 47 := drp_k (by decide)
  have eP : ∀ p f, PH ρ u p f → PH (drp ρ (66 + j)) (cdr u j) p f := fun p f P => PH_k P d47 (fun k hk => drp_k (by omega)) (drp_k (by decide)) c0 c5
  have b21 := wf21 W 0
  refine ⟨WF_cdr W, ?_, ⟨?_, ?_, ?_⟩, fun k q1 q2 => ?_, fun b hb => ?_, fun k q1 q2 => ?_, fun k q1 q2 q3 => ?_, fun k q1 q2 => ?_, fun k q1 q2 => ?_, fun k q1 q2 q3 q4 => ?_, fun k q1 q2 q3 q4 => ?_, ?_, ?_⟩
  · unfold drp
    try dsimp only
    split
    · exact WK_pst (WK_fgt (WK_44 V))
    · exact WK_fgt (WK_44 V)
  · rw [d43, c21]; exact s3.1
  · rw [drp_44, cdr_24, s3.2.1, b0.1.2.2.2.2.1]
  · rw [c21]; exact s3.2.2
  · rw [c21] at q2
    rw [show drp ρ (66 + j) 7 = ρ 7 from drp_k (by decide)]
    exact s4 k q1 q2
  · have hb' := (hL b).mp hb
    by_cases e : b = 66 + j
    · subst e
      obtain ⟨a1, a2, a3, a4, a5⟩ := drp_at (ρ := ρ) (b := 66 + j)
      obtain ⟨⟨g1, g2, g3, g4, g5, g6⟩, -⟩ := b0
      refine ⟨⟨g1, ?_, ?_, ?_, ?_, fun i i0 i1 => ?_⟩, ⟨?_, ?_⟩, ?_, ?_⟩
      · rw [show drp ρ (66 + j) 48 = ρ 48 from drp_k (by decide)]; exact g2
      · rw [show drp ρ (66 + j) 17 = ρ 17 from drp_k (by decide)]; exact g3
      · rw [show drp ρ (66 + j) 24 = ρ 24 from drp_k (by decide)]; exact g4
      · rw [a1, cdr_10s]
      · rw [cdr_10s] at i1
        omega
      · rw [a4, te_0 cdr_10s]
      · rw [a5, te_0 cdr_10s]
      · rw [a2, cdr_11s.1]; rfl
      · rw [a3, cdr_11s.2]; rfl
    · obtain ⟨a1, a2, a3, a4, a5⟩ := drp_ot (ρ := ρ) e
      obtain ⟨⟨g1, g2, g3, g4, g5, g6⟩, ⟨t1, t2⟩, t3, t4⟩ := s5 b hb'
      have b10 := wf10 W b
      have et : te (cdr u j) b = te u b := te_eq ct (cdr_10 e)
      refine ⟨⟨g1, ?_, ?_, ?_, ?_, fun i i0 i1 => ?_⟩, ⟨?_, ?_⟩, ?_, ?_⟩
      · rw [show drp ρ (66 + j) 48 = ρ 48 from drp_k (by decide)]; exact g2
      · rw [show drp ρ (66 + j) 17 = ρ 17 from drp_k (by decide)]; exact g3
      · rw [show drp ρ (66 + j) 24 = ρ 24 from drp_k (by decide)]; exact g4
      · rw [a1, cdr_10 e]; exact g5
      · rw [cdr_10 e] at i1
        rw [drp_23 (by omega), show drp ρ (66 + j) 36 = ρ 36 from drp_k (by decide), jd_k2 c0 c5]
        exact ⟨eP _ _ (g6 i i0 i1).1, (g6 i i0 i1).2⟩
      · rw [a4, et]; exact t1
      · rw [a5, et]; exact t2
      · rw [a2, (cdr_11 e).1]; exact t3
      · rw [a3, (cdr_11 e).2]; exact t4
  · rw [c21] at q2
    rw [c22, show drp ρ (66 + j) 46 = ρ 46 from drp_k (by decide)]
    exact s6 k q1 q2
  · rw [c21] at q3
    have ef : fwin (cdr u j) k = fwin u k := by unfold fwin; rw [c22, te_eq ct (cdr_10 (by omega))]
    rw [c22, ef, show drp ρ (66 + j) 18 = ρ 18 from drp_k (by decide), show drp ρ (66 + j) 19 = ρ 19 from drp_k (by decide)]
    exact s7 k q1 q2 q3
  · rw [c21] at q2
    rw [c22]
    exact s8 k q1 q2
  · rw [c21] at q1 q2
    rw [c22]
    exact s9 k q1 q2
  · rw [c21] at q2
    rw [c22] at q4
    by_cases e : k = j
    · rw [e]; exact cdr_10s
    · rw [cdr_10 (by omega)]
      exact s10 k q1 q2 e q4
  · rw [c21] at q2
    rw [c22]
    rw [cdr_17] at q4
    by_cases c : u 17 0 = 100 + j
    · rw [if_pos c] at q4; omega
    · rw [if_neg c] at q4
      exact s11 k q1 q2 (by omega) q4
  · obtain ⟨p1, p2, p3, p4⟩ := s12
    by_cases c : u 17 0 = 100 + j
    · have e17 : cdr u j 17 0 = -1 := by rw [cdr_17, if_pos c]
      have p5 := (p4 (by omega)).2.1
      have e38 : ρ 38 0 = 66 + j := by rw [p5, c]; unfold slo; rw [if_pos (by omega)]; omega
      obtain ⟨a1, a2, a3, a4, a5⟩ := drp_p e38
      exact ⟨a5, by rw [a1, e17], fun _ => ⟨a2, a3, a4⟩, fun q => absurd e17 q⟩
    · have e17 : cdr u j 17 0 = u 17 0 := by rw [cdr_17, if_neg c]
      have hne : ¬ ρ 38 0 = 66 + j := by
        intro q
        by_cases c2 : u 17 0 = -1
        · have := (p3 c2).1; omega
        · obtain ⟨v1, v2, -⟩ := p4 c2
          have vs := VB_slo W v1
          by_cases c3 : u 17 0 < 100
          · have := vs.2.1 c3; omega
          · have := vs.2.2 (by omega); omega
      unfold PO
      rw [e17, drp_q hne (k := 41) (by decide), drp_q hne (k := 37) (by decide), drp_q hne (k := 38) (by decide), drp_q hne (k := 39) (by decide), drp_q hne (k := 40) (by decide), drp_q hne (k := 42) (by decide), d47, cdr_k (k := 18) (by decide), cdr_k (k := 20) (by decide)]
      refine ⟨p1, p2, p3, fun q => ?_⟩
      obtain ⟨v1, v2, v3, v4, v5, v6, v7, v8⟩ := p4 q
      refine ⟨?_, v2, v3, v4, v5, v6, v7, ?_⟩
      · unfold VB
        rw [c9, c21]
        exact v1
      · rw [cdr_10 (by omega)]
        exact v8
  · intro w w0 w1
    rw [d47] at w1
    rw [show drp ρ (66 + j) 15 = ρ 15 from drp_k (by decide), show drp ρ (66 + j) 16 = ρ 16 from drp_k (by decide), cdr_k (k := 3) (by decide), cdr_k (k := 4) (by decide)]
    exact s13 w w0 w1
/-- what settling leaves alone -/
def FrS (ρ r : TS) : Prop := (∀ k, (k < 18 ∨ k = 24 ∨ (27 ≤ k ∧ k ≤ 36) ∨ k = 43 ∨ k = 45 ∨ 47 ≤ k) → r k = ρ k) ∧ ∀ b, b < 67 → r 18 b = ρ 18 b ∧ r 19 b = ρ 19 b
theorem FrS_A {ρ0 ρ τ : TS} {n : Int} (F : FrS ρ0 ρ) (h : 1 ≤ n) : FrS ρ0 (stA ρ τ n) := by
  refine ⟨fun k hk => ?_, fun b hb => ?_⟩
  · unfold stA
    rw [ts_n (by omega), ts_n (by omega), ts_n (by omega)]
    exact F.1 k hk
  · show ts ρ 18 (66 + n) (mx (τ 22 (2 * n))) 18 b = _ ∧ ts (ts ρ 18 (66 + n) (mx (τ 22 (2 * n)))) 19 (66 + n) (mx (τ 22 (2 * n + 1))) 19 b = _
    rw [ts_else (by omega), ts_else (by omega)]
    exact F.2 b hb
theorem FrS_B {ρ0 ρ : TS} {b : Int} (F : FrS ρ0 ρ) : FrS ρ0 (drp ρ b) := by
  refine ⟨fun k hk => ?_, fun c hc => ?_⟩
  · rw [drp_k (by omega)]; exact F.1 k hk
  · rw [drp_k (k := 18) (by decide), drp_k (k := 19) (by decide)]; exact F.2 c hc
