/-! THE CLASS AND THE REFERENCE: their states tied -/
/-- what stands for itself -/
def B1 (ρ τ : TS) (c : Int) : Prop := (ρ 0 0 = τ 0 0 ∧ ρ 1 0 = τ 1 0 ∧ ρ 47 0 = τ 1 0 ∧ ρ 2 0 = τ 5 0 ∧ ρ 47 1 = τ 5 0 ∧ ρ 3 0 = τ 9 0 ∧ 0 ≤ ρ 47 2 ∧ ρ 47 2 ≤ c) ∧
  (∀ i, 0 ≤ i → i < τ 1 0 → ρ 4 i = i ∧ ρ 8 i = i) ∧
  (∀ i, 0 ≤ i → i < τ 5 0 → ρ 5 i = i ∧ ρ 13 i = i ∧ ρ 14 i = τ 2 i) ∧
  (∀ i, τ 5 0 ≤ i → τ 4 i = 0) ∧
  (∀ s, 0 ≤ s → s < τ 9 0 → ρ 6 s = s ∧ ρ 18 s = τ 6 s ∧ ρ 19 s = τ 7 s ∧ τ 6 s < τ 1 0 ∧ τ 7 s < τ 1 0) ∧
  (τ 8 0 = 0 ↔ τ 9 0 = 0) ∧ (0 < τ 21 0 → ¬ τ 9 0 = 0)
/-- nodes and bouts, settled -/
def SN (ρ τ : TS) : Prop := (ρ 43 0 = τ 21 0 ∧ ρ 44 0 = τ 24 0 ∧ τ 21 0 % 2 = 0) ∧
  (∀ k, 1 ≤ k → k < τ 21 0 → ρ 7 k = 66 + k) ∧
  (∀ b, LVb τ b → BB ρ τ b) ∧
  (∀ k, 1 ≤ k → k < 2 * τ 21 0 → ρ 46 k = mx (τ 22 k)) ∧
  (∀ k, 1 ≤ k → k < τ 21 0 → (ρ 18 (66 + k) = mx (τ 22 (2 * k)) ∧ ρ 19 (66 + k) = mx (τ 22 (2 * k + 1))) ∧ τ 22 k = fwin τ k) ∧
  (∀ k, 1 ≤ k → k < τ 21 0 → ¬ τ 22 k = -2) ∧
  (∀ k, τ 21 0 ≤ 2 * k → k < τ 21 0 → ¬ τ 22 (2 * k) = -1 ∧ ¬ τ 22 (2 * k + 1) = -1 ∧ ¬ (τ 22 (2 * k) = -2 ∧ τ 22 (2 * k + 1) = -2)) ∧
  (∀ k, 1 ≤ k → k < τ 21 0 → (τ 22 (2 * k) < 0 ∨ τ 22 (2 * k + 1) < 0) → τ 10 (66 + k) = 0) ∧
  (∀ k, 1 ≤ k → k < τ 21 0 → τ 17 0 = 100 + k → 0 ≤ τ 22 (2 * k) ∧ 0 ≤ τ 22 (2 * k + 1)) ∧ WR ρ τ
/-- the piste, a phrase being on -/
def PN (ρ τ : TS) : Prop := ¬ τ 17 0 = -1 ∧ VB τ (τ 17 0) ∧ ρ 37 0 = τ 17 0 ∧ ρ 38 0 = slo (τ 17 0) ∧ (ρ 39 0 = τ 18 0 ∧ ρ 40 0 = τ 18 1 ∧ τ 18 0 < ρ 47 1 ∧ τ 18 1 < ρ 47 1) ∧ PH ρ τ (ρ 41 0) (la τ) ∧ τ 10 (slo (τ 17 0)) < 12
/-- what isn't there yet -/
def FRE (ρ τ : TS) : Prop := ∀ b, 0 ≤ b → b < 82 → ¬ LVb τ b → τ 10 b = 0 ∧ τ 11 (2 * b) = 0 ∧ τ 11 (2 * b + 1) = 0 ∧ ¬ ρ 48 b = 1
def RR (ρ τ : TS) (c : Int) : Prop := WF τ ∧ WK ρ ∧ B1 ρ τ c ∧ SN ρ τ ∧ ((τ 19 0 = 0 → PO ρ τ) ∧ (¬ τ 19 0 = 0 → PN ρ τ)) ∧ FRE ρ τ
theorem RR_mono {ρ τ : TS} {c c' : Int} (h : c ≤ c') (R : RR ρ τ c) : RR ρ τ c' := by
  obtain ⟨W, V, ⟨⟨a1, a2, a3, a4, a5, a6, a7, a8⟩, b⟩, q⟩ := R
  exact ⟨W, V, ⟨⟨a1, a2, a3, a4, a5, a6, a7, by omega⟩, b⟩, q⟩
theorem fwin_SQ {u t : TS} (e : SQ u t) : fwin u = fwin t := by
  funext k
  unfold fwin
  rw [te_SQ e, e 22 (by decide)]
theorem PH_SQ {ρ u t : TS} (e : SQ u t) {p f : Int} (P : PH ρ t p f) : PH ρ u p f := PH_k P rfl (fun _ _ => rfl) rfl (e 0 (by decide)) (fun k hk => e k (by omega))
theorem la_SQ {u t : TS} (e : SQ u t) : la u = la t := by
  unfold la
  rw [e 17 (by decide), e 10 (by decide)]
theorem WR_SQ {ρ u t : TS} (e : SQ u t) (R : WR ρ t) : WR ρ u := by
  unfold WR
  rw [e 3 (by decide), e 4 (by decide)]
  exact R
theorem BB_SQ {ρ u t : TS} (e : SQ u t) {b : Int} (B : BB ρ t b) : BB ρ u b := by
  obtain ⟨⟨g1, g2, g3, g4, g5, g6⟩, t1, t2, t3⟩ := B
  refine ⟨⟨g1, g2, g3, g4, by rw [e 10 (by decide)]; exact g5, fun j j0 j1 => ?_⟩, ?_, by rw [e 11 (by decide)]; exact t2, by rw [e 11 (by decide)]; exact t3⟩
  · rw [e 10 (by decide)] at j1
    rw [jd_k2 (e 0 (by decide)) (fun k hk => e k (by omega))]
    exact ⟨PH_SQ e (g6 j j0 j1).1, (g6 j j0 j1).2⟩
  · unfold TL
    rw [te_SQ e]
    exact t1
theorem PO_SQ {ρ u t : TS} (e : SQ u t) (Q : PO ρ t) : PO ρ u := by
  unfold PO VB at *
  rw [e 17 (by decide), e 18 (by decide), e 20 (by decide), e 10 (by decide), e 9 (by decide), e 21 (by decide)]
  exact Q
theorem SN_SQ {ρ u t : TS} (e : SQ u t) (S : SN ρ t) : SN ρ u := by
  obtain ⟨s3, s4, s5, s6, s7, s8, s9, s10, s11, s13⟩ := S
  unfold SN
  rw [e 21 (by decide), e 24 (by decide), e 22 (by decide), e 17 (by decide), e 10 (by decide), fwin_SQ e]
  refine ⟨s3, s4, fun b hb => BB_SQ e (s5 b ?_), s6, s7, s8, s9, s10, s11, WR_SQ e s13⟩
  unfold LVb at *
  rw [e 9 (by decide), e 21 (by decide)] at hb
  exact hb
theorem RR_SQ {ρ u t : TS} {c : Int} (e : SQ u t) (Wu : WF u) (R : RR ρ t c) : RR ρ u c := by
  obtain ⟨W, V, b, s, ⟨p1, p2⟩, f⟩ := R
  refine ⟨Wu, V, ?_, SN_SQ e s, ⟨fun q => PO_SQ e (p1 (by rw [← e 19 (by decide)]; exact q)), fun q => ?_⟩, ?_⟩
  · unfold B1
    rw [e 0 (by decide), e 1 (by decide), e 2 (by decide), e 4 (by decide), e 5 (by decide), e 6 (by decide), e 7 (by decide), e 8 (by decide), e 9 (by decide), e 21 (by decide)]
    exact b
  · obtain ⟨q1, q2, q3, q4, q5, q6, q7⟩ := p2 (by rw [← e 19 (by decide)]; exact q)
    unfold PN VB at *
    rw [la_SQ e, e 17 (by decide), e 18 (by decide), e 10 (by decide), e 9 (by decide), e 21 (by decide)]
    exact ⟨q1, q2, q3, q4, q5, PH_SQ e q6, q7⟩
  · unfold FRE LVb at *
    rw [e 9 (by decide), e 21 (by decide), e 10 (by decide), e 11 (by decide)]
    exact f
theorem RR_33 {ρ τ : TS} {c : Int} (R : RR ρ τ c) {x : Int} (hx : 0 ≤ x ∧ x ≤ 3) : RR ρ (ts τ 33 0 x) c := RR_SQ SQ_33 (WF_ts R.1 hx) R
theorem cst_k {τ : TS} {n : Int} {k : Nat} (h : ¬ (k = 10 ∨ k = 11 ∨ k = 17 ∨ k = 22 ∨ k = 24)) : cst τ n k = τ k := by
  unfold cst
  split
  · rw [cdr_k (by omega), ts_n (by omega)]
  · exact ts_n (by omega)
theorem cfd_k {k : Nat} (h : ¬ (k = 10 ∨ k = 11 ∨ k = 17 ∨ k = 22 ∨ k = 24)) : ∀ (m : Nat) (τ : TS), cfd m τ k = τ k
  | 0, _ => rfl
  | m + 1, τ => by
    unfold cfd
    rw [cfd_k h m, cst_k h]
theorem cfd_SQ : ∀ (m : Nat) (u t : TS), SQ u t → SQ (cfd m u) (cfd m t)
  | 0, _, _, e => e
  | m + 1, u, t, e => cfd_SQ m _ _ (cst_SQ e _)
theorem cst_fr {τ : TS} {n b : Int} (h1 : 1 ≤ n) (hb : b < 67 ∨ 66 + n ≤ b) : cst τ n 10 b = τ 10 b ∧ cst τ n 11 (2 * b) = τ 11 (2 * b) ∧ cst τ n 11 (2 * b + 1) = τ 11 (2 * b + 1) := by
  unfold cst
  split
  · rename_i q
    have hne : ¬ b = 66 + n / 2 := by omega
    rw [cdr_10 hne, (cdr_11 hne).1, (cdr_11 hne).2]
    exact ⟨rfl, rfl, rfl⟩
  · exact ⟨rfl, rfl, rfl⟩
theorem cfd_fr {b : Int} : ∀ (m : Nat) (τ : TS), (b < 67 ∨ 66 + (m : Int) ≤ b) → cfd m τ 10 b = τ 10 b ∧ cfd m τ 11 (2 * b) = τ 11 (2 * b) ∧ cfd m τ 11 (2 * b + 1) = τ 11 (2 * b + 1)
  | 0, _, _ => ⟨rfl, rfl, rfl⟩
  | m + 1, τ, h => by
    have e := cfd_fr (b := b) m (cst τ ((m + 1 : Nat) : Int)) (by omega)
    have e2 := cst_fr (τ := τ) (n := ((m + 1 : Nat) : Int)) (b := b) (by omega) (by omega)
    unfold cfd
    rw [e.1, e.2.1, e.2.2]
    exact e2
theorem RR_asm {ρ r τ : TS} {c : Int} (hB : B1 ρ τ c) (hF : FRE ρ τ) (hoff : τ 19 0 = 0) (S : SR r (cfd (τ 21 0 - 1).toNat τ) 0 0) (F : FrS ρ r) : RR r (cfd (τ 21 0 - 1).toNat τ) c := by
  obtain ⟨W, V, s3, s4, s5, s6, s7, s8, s9, s10, s11, s12, s13⟩ := S
  have ck : ∀ k, ¬ (k = 10 ∨ k = 11 ∨ k = 17 ∨ k = 22 ∨ k = 24) → cfd (τ 21 0 - 1).toNat τ k = τ k := fun k hk => cfd_k hk _ _
  refine ⟨W, V, ?_, ⟨s3, s4, s5, s6, fun k a b => s7 k (by omega) a b, s8, s9, fun k a b => s10 k a b (by omega), fun k a b => s11 k a b (by omega), s13⟩, ⟨fun _ => s12, fun q => ?_⟩, ?_⟩
  · obtain ⟨⟨a1, a2, a3, a4, a5, a6, a7, a8⟩, b1, b2, b3, b4, b5, b6⟩ := hB
    unfold B1
    rw [ck 0 (by decide), ck 1 (by decide), ck 2 (by decide), ck 4 (by decide), ck 5 (by decide), ck 6 (by decide), ck 7 (by decide), ck 8 (by decide), ck 9 (by decide), ck 21 (by decide)]
    rw [F.1 0 (by decide), F.1 1 (by decide), F.1 2 (by decide), F.1 3 (by decide), F.1 4 (by decide), F.1 5 (by decide), F.1 6 (by decide), F.1 8 (by decide), F.1 13 (by decide), F.1 14 (by decide), F.1 47 (by decide)]
    have w9 := wf9 W 0
    rw [ck 9 (by decide)] at w9
    refine ⟨⟨a1, a2, a3, a4, a5, a6, a7, a8⟩, b1, b2, b3, fun s s0 s1 => ?_, b5, b6⟩
    rw [(F.2 s (by omega)).1, (F.2 s (by omega)).2]
    exact b4 s s0 s1
  · rw [ck 19 (by decide)] at q
    exact absurd hoff q
  · intro b b0 b1 hb
    unfold LVb at hb
    rw [ck 9 (by decide), ck 21 (by decide)] at hb
    have e := cfd_fr (b := b) (τ 21 0 - 1).toNat τ (by omega)
    rw [e.1, e.2.1, e.2.2, F.1 48 (by decide)]
    exact hF b b0 b1 hb
theorem RR_fol {ρ r τ : TS} {c : Int} (hB : B1 ρ τ c) (hF : FRE ρ τ) (hoff : τ 19 0 = 0) (W : WF τ) (S : SR r (cfd (τ 21 0 - 1).toNat τ) 0 0) (F : FrS ρ r) : RR r (fol τ) c := RR_SQ (SQ_symm (fol_cfd W)) (WF_fol W) (RR_asm hB hF hoff S F)
/-- what is settled follows from itself -/
theorem cst_id {τ : TS} {n : Int} (h : τ 22 n = fwin τ n) : cst τ n = τ := by
  unfold cst
  rw [if_neg (fun z => z.2.2 h), ← h]
  exact ts_id
theorem cfd_id {τ : TS} : ∀ (m : Nat), (∀ k : Int, 1 ≤ k → k ≤ m → τ 22 k = fwin τ k) → cfd m τ = τ
  | 0, _ => rfl
  | m + 1, h => by
    unfold cfd
    rw [cst_id (h ((m + 1 : Nat) : Int) (by omega) (by omega))]
    exact cfd_id m (fun k a b => h k a (by omega))
theorem fol_id {ρ τ : TS} {c : Int} (R : RR ρ τ c) : SQ (fol τ) τ := by
  obtain ⟨W, V, b, ⟨s3, s4, s5, s6, s7, s8, s9, s10, s11, s13⟩, p, f⟩ := R
  have b21 := wf21 W 0
  have e := fol_cfd W
  rw [cfd_id _ (fun k a b => (s7 k a (by omega)).2)] at e
  exact SQ_symm e
