/-! WHAT THE CLASS SETTLES IS WHAT FOLLOWS IN THE REFERENCE -/
theorem cdr_f10 {τ : TS} {j : Int} : cdr τ j 10 = upZ (τ 10) (66 + j) 0 := by
  unfold cdr
  rw [ts_n (by decide), ts_n (by decide), ts_n (by decide), ts_s, ts_n (by decide)]
theorem cdr_f11 {τ : TS} {j : Int} : cdr τ j 11 = upZ (upZ (τ 11) (2 * (66 + j)) 0) (2 * (66 + j) + 1) 0 := by
  unfold cdr
  rw [ts_n (by decide), ts_s, ts_s, ts_n (by decide), ts_n (by decide)]
theorem cdr_f17 {τ : TS} {j : Int} : cdr τ j 17 = upZ (τ 17) 0 (if τ 17 0 = 100 + j then -1 else τ 17 0) := by
  unfold cdr
  rw [ts_s, ts_n (by decide), ts_n (by decide), ts_n (by decide), ts_n (by decide)]
theorem cdr_f24 {τ : TS} {j : Int} : cdr τ j 24 = upZ (τ 24) 0 (τ 24 0 + (if 0 < τ 10 (66 + j) then 1 else 0)) := by
  unfold cdr
  rw [ts_n (by decide), ts_n (by decide), ts_n (by decide), ts_n (by decide), ts_s]
theorem cdr_SQ {u t : TS} (e : SQ u t) (j : Int) : SQ (cdr u j) (cdr t j) := by
  intro k hk
  by_cases c1 : k = 24
  · subst c1; rw [cdr_f24, cdr_f24, e 24 (by decide), e 10 (by decide)]
  by_cases c2 : k = 10
  · subst c2; rw [cdr_f10, cdr_f10, e 10 (by decide)]
  by_cases c3 : k = 11
  · subst c3; rw [cdr_f11, cdr_f11, e 11 (by decide)]
  by_cases c4 : k = 17
  · subst c4; rw [cdr_f17, cdr_f17, e 17 (by decide)]
  rw [cdr_k (by omega), cdr_k (by omega)]
  exact e k hk
theorem upZ_cm {g : Int → Int} {a b x y : Int} (h : ¬ a = b) : upZ (upZ g a x) b y = upZ (upZ g b y) a x := by
  funext z
  unfold upZ
  by_cases e1 : z = a
  · rw [if_neg (by omega), if_pos e1, if_pos e1]
  · rw [if_neg e1]
    by_cases e2 : z = b
    · rw [if_pos e2, if_neg e1]
    · rw [if_neg e2, if_neg e1]
theorem upZ_2 {g : Int → Int} {a x y : Int} : upZ (upZ g a x) a y = upZ g a y := upZ_upZ
theorem upZ_at {g : Int → Int} {a x : Int} : upZ g a x a = x := if_pos rfl
theorem upZ_ne {g : Int → Int} {a b x : Int} (h : ¬ b = a) : upZ g a x b = g b := if_neg h
theorem cdr_cm {u : TS} {i j : Int} (h : ¬ i = j) (hi : 1 ≤ i) (hj : 1 ≤ j) : SQ (cdr (cdr u i) j) (cdr (cdr u j) i) := by
  intro k hk
  by_cases c1 : k = 24
  · subst c1
    have a1 : upZ (u 10) (66 + i) 0 (66 + j) = u 10 (66 + j) := upZ_ne (by omega)
    have a2 : upZ (u 10) (66 + j) 0 (66 + i) = u 10 (66 + i) := upZ_ne (by omega)
    rw [cdr_f24, cdr_f24, cdr_f24, cdr_f24, cdr_f10, cdr_f10, a1, a2, upZ_at, upZ_at, upZ_2, upZ_2]
    congr 1
    omega
  by_cases c2 : k = 10
  · subst c2
    rw [cdr_f10, cdr_f10, cdr_f10, cdr_f10]
    exact upZ_cm (by omega)
  by_cases c3 : k = 11
  · subst c3
    rw [cdr_f11, cdr_f11, cdr_f11, cdr_f11]
    rw [upZ_cm (a := 2 * (66 + i) + 1) (b := 2 * (66 + j)) (by omega), upZ_cm (a := 2 * (66 + i)) (b := 2 * (66 + j)) (by omega), upZ_cm (a := 2 * (66 + i) + 1) (b := 2 * (66 + j) + 1) (by omega), upZ_cm (a := 2 * (66 + i)) (b := 2 * (66 + j) + 1) (by omega)]
  by_cases c4 : k = 17
  · subst c4
    rw [cdr_f17, cdr_f17, cdr_f17, cdr_f17, upZ_at, upZ_at, upZ_2, upZ_2]
    congr 1
    by_cases e1 : u 17 0 = 100 + i
    · rw [if_pos e1, if_neg (show ¬ (-1 : Int) = 100 + j by omega), if_neg (show ¬ u 17 0 = 100 + j by omega), if_pos e1]
    · rw [if_neg e1]
      by_cases e2 : u 17 0 = 100 + j
      · rw [if_pos e2, if_neg (show ¬ (-1 : Int) = 100 + i by omega)]
      · rw [if_neg e2, if_neg e1]
  rw [cdr_k (by omega), cdr_k (by omega), cdr_k (by omega), cdr_k (by omega)]
theorem cdr_2 {u : TS} {j : Int} (hj : 1 ≤ j) : SQ (cdr (cdr u j) j) (cdr u j) := by
  intro k hk
  by_cases c1 : k = 24
  · subst c1
    have a1 : upZ (u 10) (66 + j) 0 (66 + j) = 0 := upZ_at
    rw [cdr_f24, cdr_f24, cdr_f10, a1, upZ_at, upZ_2, if_neg (show ¬ (0 : Int) < 0 by omega), Int.add_zero]
  by_cases c2 : k = 10
  · subst c2
    rw [cdr_f10, cdr_f10, upZ_2]
  by_cases c3 : k = 11
  · subst c3
    rw [cdr_f11, cdr_f11, upZ_cm (a := 2 * (66 + j) + 1) (b := 2 * (66 + j)) (by omega), upZ_2, upZ_2]
  by_cases c4 : k = 17
  · subst c4
    rw [cdr_f17, cdr_f17, upZ_at, upZ_2]
    congr 1
    by_cases e1 : u 17 0 = 100 + j
    · rw [if_pos e1, if_neg (by omega)]
    · rw [if_neg e1, if_neg e1]
  rw [cdr_k (by omega), cdr_k (by omega)]
theorem cdr_22 {u : TS} {j n w : Int} : cdr (ts u 22 n w) j = ts (cdr u j) 22 n w := by
  unfold cdr
  rw [ts_cm (k := 17) (j := 22) (by decide), ts_cm (k := 11) (j := 22) (by decide), ts_cm (k := 11) (j := 22) (by decide), ts_cm (k := 10) (j := 22) (by decide), ts_cm (k := 24) (j := 22) (by decide)]
  rfl
/-- what is still to be dropped, from n on down -/
noncomputable def dP (c : Int → Prop) : Nat → TS → TS
  | 0, u => u
  | n + 1, u => dP c n (@ite TS (c ((n + 1 : Nat) : Int)) (Classical.propDecidable _) (cdr u ((n + 1 : Nat) : Int)) u)
theorem dP_SQ {c : Int → Prop} : ∀ (n : Nat) (u t : TS), SQ u t → SQ (dP c n u) (dP c n t)
  | 0, _, _, e => e
  | n + 1, u, t, e => by
    unfold dP
    refine dP_SQ n _ _ ?_
    by_cases q : c ((n + 1 : Nat) : Int)
    · rw [if_pos q, if_pos q]; exact cdr_SQ e _
    · rw [if_neg q, if_neg q]; exact e
theorem dP_c {c c' : Int → Prop} : ∀ (n : Nat) (u : TS), (∀ j : Int, 1 ≤ j → j ≤ n → (c j ↔ c' j)) → dP c n u = dP c' n u
  | 0, _, _ => rfl
  | n + 1, u, h => by
    unfold dP
    have e := h ((n + 1 : Nat) : Int) (by omega) (by omega)
    by_cases q : c ((n + 1 : Nat) : Int)
    · rw [if_pos q, if_pos (e.mp q)]; exact dP_c n _ (fun j a b => h j a (by omega))
    · rw [if_neg q, if_neg (fun z => q (e.mpr z))]; exact dP_c n _ (fun j a b => h j a (by omega))
theorem dP_22 {c : Int → Prop} {i w : Int} : ∀ (n : Nat) (u : TS), dP c n (ts u 22 i w) = ts (dP c n u) 22 i w
  | 0, _ => rfl
  | n + 1, u => by
    unfold dP
    by_cases q : c ((n + 1 : Nat) : Int)
    · rw [if_pos q, if_pos q, cdr_22]; exact dP_22 n _
    · rw [if_neg q, if_neg q]; exact dP_22 n _
theorem dP_k {c : Int → Prop} {k : Nat} (h : ¬ (k = 24 ∨ k = 10 ∨ k = 11 ∨ k = 17)) : ∀ (n : Nat) (u : TS), dP c n u k = u k
  | 0, _ => rfl
  | n + 1, u => by
    unfold dP
    rw [dP_k h n]
    split
    · exact cdr_k h
    · rfl
theorem dP_10 {c : Int → Prop} {b : Int} : ∀ (n : Nat) (u : TS), 66 + (n : Int) < b → dP c n u 10 b = u 10 b
  | 0, _, _ => rfl
  | n + 1, u, h => by
    unfold dP
    rw [dP_10 n _ (by omega)]
    split
    · exact cdr_10 (by omega)
    · rfl
theorem dP_no {c : Int → Prop} : ∀ (n : Nat) (u : TS), (∀ j : Int, 1 ≤ j → j ≤ n → ¬ c j) → dP c n u = u
  | 0, _, _ => rfl
  | n + 1, u, h => by
    unfold dP
    rw [if_neg (h ((n + 1 : Nat) : Int) (by omega) (by omega))]
    exact dP_no n u (fun j a b => h j a (by omega))
theorem dP_cm {c : Int → Prop} {j : Int} : ∀ (n : Nat) (u : TS), (n : Int) < j → SQ (cdr (dP c n u) j) (dP c n (cdr u j))
  | 0, _, _ => SQ_rfl
  | n + 1, u, h => by
    unfold dP
    by_cases q : c ((n + 1 : Nat) : Int)
    · rw [if_pos q, if_pos q]
      refine SQ_trans (dP_cm n _ (by omega)) (dP_SQ n _ _ (cdr_cm (by omega) (by omega) (by omega)))
    · rw [if_neg q, if_neg q]
      exact dP_cm n _ (by omega)
theorem SQ_symm {u t : TS} (e : SQ u t) : SQ t u := fun k h => (e k h).symm
theorem dP_add {c c' : Int → Prop} {j : Int} (h1 : 1 ≤ j) : ∀ (n : Nat) (u : TS), j ≤ n → (∀ i : Int, 1 ≤ i → i ≤ n → (c' i ↔ (c i ∨ i = j))) → SQ (dP c' n u) (cdr (dP c n u) j)
  | 0, _, h, _ => by omega
  | n + 1, u, h, hc => by
    have e := hc ((n + 1 : Nat) : Int) (by omega) (by omega)
    by_cases q : j = ((n + 1 : Nat) : Int)
    · have hcc : ∀ v, dP c' n v = dP c n v := fun v => dP_c n v (fun i a b => by have := hc i a (by omega); constructor <;> intro z <;> first | exact (this.mp z).elim id (fun y => by omega) | exact this.mpr (Or.inl z))
      unfold dP
      rw [if_pos (e.mpr (Or.inr q.symm)), hcc, ← q]
      by_cases q2 : c j
      · rw [if_pos q2]
        exact SQ_trans (dP_SQ n _ _ (SQ_symm (cdr_2 h1))) (SQ_symm (dP_cm n _ (by omega)))
      · rw [if_neg q2]
        exact SQ_symm (dP_cm n _ (by omega))
    · unfold dP
      by_cases q2 : c ((n + 1 : Nat) : Int)
      · rw [if_pos q2, if_pos (e.mpr (Or.inl q2))]
        exact dP_add h1 n _ (by omega) (fun i a b => hc i a (by omega))
      · rw [if_neg q2, if_neg (fun z => (e.mp z).elim q2 (fun y => q y.symm))]
        exact dP_add h1 n _ (by omega) (fun i a b => hc i a (by omega))
def fld : Nat → TS → TS
  | 0, u => u
  | n + 1, u => fld n (fstep u ((n + 1 : Nat) : Int))
theorem fld_G {A : TS} {sz : Int} : ∀ (m i : Nat), sz - 1 - i = m → fld m (folG A sz i) = folG A sz (i + m)
  | 0, _, _ => rfl
  | m + 1, i, h => by
    have e := fld_G (A := A) (sz := sz) m (i + 1) (by omega)
    show fld m (fstep (folG A sz i) ((m + 1 : Nat) : Int)) = _
    rw [show ((m + 1 : Nat) : Int) = sz - 1 - i by omega, show i + (m + 1) = i + 1 + m by omega]
    exact e
def cflg (u : TS) (j : Int) : Prop := ¬ u 23 (2 * j) = 0 ∨ ¬ u 23 (2 * j + 1) = 0
theorem frst_c {u : TS} {k : Int} : (cflg u k → frst u k = cdr u k) ∧ (¬ cflg u k → frst u k = u) := ⟨fun q => if_pos q, fun q => if_neg q⟩
theorem SQ_ftel {u : TS} {k : Int} : SQ (ftel u k) u := by
  unfold ftel
  split
  · exact SQ_t3 SQ_rfl
  · exact SQ_rfl
theorem frst_23 {u : TS} {k : Int} : frst u k 23 = u 23 := by unfold frst; split <;> rfl
theorem ftel_23 {u : TS} {k : Int} : ftel u k 23 = u 23 := by unfold ftel; split <;> rfl
theorem fstep_23 {u : TS} {k : Int} : fstep u k 23 = upZ (u 23) k (if 0 ≤ u 22 k ∧ ¬ u 22 k = fwin (frst u k) k then 1 else 0) := by
  unfold fstep
  rw [ts_n (by decide), ts_s, ftel_23, frst_23]
theorem cst_SQ {u t : TS} (e : SQ u t) (k : Int) : SQ (cst u k) (cst t k) := by
  have ef : fwin u k = fwin t k := by unfold fwin; rw [te_SQ e, e 22 (by decide)]
  unfold cst
  rw [ef, e 22 (by decide)]
  split
  · exact cdr_SQ (SQ_c e) _
  · exact SQ_c e
/-- the main row -/
theorem fol_m : ∀ (m : Nat) (B A : TS), m ≤ 15 → (∀ k : Int, 1 ≤ k → k ≤ m → A 23 k = 0) → SQ B (dP (cflg A) m A) → SQ (cfd m B) (fld m A)
  | 0, _, _, _, _, e => e
  | m + 1, B, A, h, hz, e => by
    unfold cfd fld
    have hn : ((m + 1 : Nat) : Int) = (m : Int) + 1 := by omega
    rw [hn]
    have e' : SQ B (dP (cflg A) m (frst A ((m : Int) + 1))) := by
      unfold dP at e
      rw [hn] at e
      by_cases q : cflg A ((m : Int) + 1)
      · rw [if_pos q] at e
        rw [frst_c.1 q]; exact e
      · rw [if_neg q] at e
        rw [frst_c.2 q]; exact e
    have h23 : fstep A ((m : Int) + 1) 23 = upZ (A 23) ((m : Int) + 1) _ := fstep_23
    refine fol_m m _ _ (by omega) (fun k a b => ?_) ?_
    · rw [h23, upZ_ne (by omega)]
      exact hz k a (by omega)
    · have hw : fwin B ((m : Int) + 1) = fwin (frst A ((m : Int) + 1)) ((m : Int) + 1) := by
        have e2 : te (dP (cflg A) m (frst A ((m : Int) + 1))) (66 + ((m : Int) + 1)) = te (frst A ((m : Int) + 1)) (66 + ((m : Int) + 1)) := te_eq (tch_k (dP_k (by decide) _ _) (fun k hk => dP_k (by omega) _ _) (dP_k (by decide) _ _) (dP_k (by decide) _ _)) (dP_10 m _ (by omega))
        unfold fwin
        rw [te_SQ e', e2, e' 22 (by decide), dP_k (by decide)]
      have h22 : B 22 = A 22 := by rw [e' 22 (by decide), dP_k (by decide), frst_22]
      have hA : SQ (fstep A ((m : Int) + 1)) (ts (frst A ((m : Int) + 1)) 22 ((m : Int) + 1) (fwin B ((m : Int) + 1))) := by
        unfold fstep
        rw [hw]
        exact SQ_c (SQ_l (by decide) SQ_ftel)
      have hB : SQ (ts B 22 ((m : Int) + 1) (fwin B ((m : Int) + 1))) (dP (cflg A) m (fstep A ((m : Int) + 1))) := by
        refine SQ_trans (SQ_c e') ?_
        rw [← dP_22]
        exact dP_SQ m _ _ (SQ_symm hA)
      by_cases q : 2 ≤ (m : Int) + 1 ∧ 0 ≤ B 22 ((m : Int) + 1) ∧ ¬ B 22 ((m : Int) + 1) = fwin B ((m : Int) + 1)
      · rw [show cst B ((m : Int) + 1) = cdr (ts B 22 ((m : Int) + 1) (fwin B ((m : Int) + 1))) (((m : Int) + 1) / 2) from if_pos q]
        refine SQ_trans (cdr_SQ hB _) (SQ_symm (dP_add (by omega) m _ (by omega) (fun i a b => ?_)))
        have hf : upZ (A 23) ((m : Int) + 1) (if 0 ≤ A 22 ((m : Int) + 1) ∧ ¬ A 22 ((m : Int) + 1) = fwin (frst A ((m : Int) + 1)) ((m : Int) + 1) then 1 else 0) = upZ (A 23) ((m : Int) + 1) 1 := by
          rw [h22, hw] at q
          rw [if_pos q.2]
        unfold cflg
        rw [h23, hf]
        have z0 := hz ((m : Int) + 1) (by omega) (by omega)
        by_cases c1 : 2 * i = (m : Int) + 1
        · rw [c1, upZ_at]
          constructor
          · intro _; right; omega
          · intro _; left; decide
        · by_cases c2 : 2 * i + 1 = (m : Int) + 1
          · rw [c2, upZ_at]
            constructor
            · intro _; right; omega
            · intro _; right; decide
          · rw [upZ_ne c1, upZ_ne c2]
            constructor
            · intro z; left; exact z
            · intro z
              rcases z with z | z
              · exact z
              · omega
      · rw [show cst B ((m : Int) + 1) = ts B 22 ((m : Int) + 1) (fwin B ((m : Int) + 1)) from if_neg q]
        refine SQ_trans hB ?_
        rw [dP_c (c := cflg A) (c' := cflg (fstep A ((m : Int) + 1))) m _ (fun i a b => ?_)]
        · exact SQ_rfl
        · have hf : upZ (A 23) ((m : Int) + 1) (if 0 ≤ A 22 ((m : Int) + 1) ∧ ¬ A 22 ((m : Int) + 1) = fwin (frst A ((m : Int) + 1)) ((m : Int) + 1) then 1 else 0) = upZ (A 23) ((m : Int) + 1) 0 := by
            rw [h22, hw] at q
            rw [if_neg (fun z => q ⟨by omega, z⟩)]
          unfold cflg
          rw [h23, hf]
          have z0 := hz ((m : Int) + 1) (by omega) (by omega)
          have ez : upZ (A 23) ((m : Int) + 1) 0 = A 23 := by
            funext z
            unfold upZ
            split
            · rename_i y; rw [y, z0]
            · rfl
          rw [ez]
theorem SQ_clr {τ : TS} {i : Int} : SQ (clr τ i) τ := fun k h => by unfold clr; rw [if_neg (by omega)]
theorem fol_cfd {τ : TS} (W : WF τ) : SQ (cfd (τ 21 0 - 1).toNat τ) (fol τ) := by
  have b21 := wf21 W 0
  have hz : ∀ k : Int, 1 ≤ k → k < 32 → clr τ 32 23 k = 0 := fun k a b => by
    unfold clr
    rw [if_pos rfl]
    exact if_pos ⟨a, b⟩
  by_cases q : 1 ≤ τ 21 0
  · have e := fol_m (τ 21 0 - 1).toNat τ (clr τ 32) (by omega) (fun k a b => hz k a (by omega)) (by
      rw [dP_no]
      · exact SQ_symm SQ_clr
      · intro j a b z
        rcases z with z | z
        · exact z (hz _ (by omega) (by omega))
        · exact z (hz _ (by omega) (by omega)))
    have e2 := fld_G (A := clr τ 32) (sz := τ 21 0) (τ 21 0 - 1).toNat 0 (by omega)
    rw [Nat.zero_add] at e2
    unfold fol
    rw [← e2]
    exact e
  · have e0 : (τ 21 0 - 1).toNat = 0 := by omega
    unfold fol
    rw [e0]
    exact SQ_symm SQ_clr
