/-! THE CLASS: appeal -/
def au (ρ : TS) (b s k : Int) : TS := if s = 0 then ts ρ 21 b (ρ 21 b - k) else ts ρ 22 b (ρ 22 b - k)
theorem au_0 {ρ : TS} {b s : Int} : au ρ b s 0 = ρ := by
  unfold au
  rw [Int.sub_zero, Int.sub_zero, ts_id, ts_id]
  split <;> rfl
theorem au_k {ρ : TS} {b s k : Int} {j : Nat} (h : ¬ j = 21 ∧ ¬ j = 22) : au ρ b s k j = ρ j := by
  unfold au
  split
  · exact ts_n (by omega)
  · exact ts_n (by omega)
theorem au_21 {ρ : TS} {b s k c : Int} : au ρ b s k 21 c = if c = b ∧ s = 0 then ρ 21 b - k else ρ 21 c := by
  unfold au
  by_cases z : s = 0
  · rw [if_pos z, ts_s]
    unfold upZ
    by_cases y : c = b
    · rw [if_pos y, if_pos ⟨y, z⟩]
    · rw [if_neg y, if_neg (fun q => y q.1)]
  · rw [if_neg z, if_neg (fun q => z q.2), tsN (by decide)]
theorem au_22 {ρ : TS} {b s k c : Int} : au ρ b s k 22 c = if c = b ∧ ¬ s = 0 then ρ 22 b - k else ρ 22 c := by
  unfold au
  by_cases z : s = 0
  · rw [if_pos z, if_neg (fun q => q.2 z), tsN (by decide)]
  · rw [if_neg z, ts_s]
    unfold upZ
    by_cases y : c = b
    · rw [if_pos y, if_pos ⟨y, z⟩]
    · rw [if_neg y, if_neg (fun q => y q.1)]
theorem WK_au {ρ : TS} (V : WK ρ) {b s k : Int} (h1 : s = 0 → 0 ≤ ρ 21 b - k ∧ ρ 21 b - k ≤ 2) (h2 : ¬ s = 0 → 0 ≤ ρ 22 b - k ∧ ρ 22 b - k ≤ 2) : WK (au ρ b s k) := by
  unfold au
  by_cases z : s = 0
  · rw [if_pos z]; exact WK_ts V (h1 z)
  · rw [if_neg z]; exact WK_ts V (h2 z)
theorem SR_appeal {ρ τ : TS} {c s d : Int} (R : RR ρ τ c) (hp : ¬ τ 17 0 = -1) (hoff : τ 19 0 = 0) (hn : 1 ≤ τ 10 (slo (τ 17 0))) (hs : 0 ≤ s ∧ s ≤ 1) (hd : -1 ≤ d ∧ d ≤ 1) (h11 : τ 11 (2 * slo (τ 17 0) + s) < 2) :
    WF (ts τ 14 (12 * slo (τ 17 0) + (τ 10 (slo (τ 17 0)) - 1)) d) ∧ WK (ts (ts (ts ρ 34 (ρ 23 (12 * slo (τ 17 0) + (τ 10 (slo (τ 17 0)) - 1))) 1) 35 (ρ 23 (12 * slo (τ 17 0) + (τ 10 (slo (τ 17 0)) - 1))) d) 36 (ρ 23 (12 * slo (τ 17 0) + (τ 10 (slo (τ 17 0)) - 1))) (jd (ts τ 14 (12 * slo (τ 17 0) + (τ 10 (slo (τ 17 0)) - 1)) d) (12 * slo (τ 17 0) + (τ 10 (slo (τ 17 0)) - 1)))) ∧ WR (ts (ts (ts ρ 34 (ρ 23 (12 * slo (τ 17 0) + (τ 10 (slo (τ 17 0)) - 1))) 1) 35 (ρ 23 (12 * slo (τ 17 0) + (τ 10 (slo (τ 17 0)) - 1))) d) 36 (ρ 23 (12 * slo (τ 17 0) + (τ 10 (slo (τ 17 0)) - 1))) (jd (ts τ 14 (12 * slo (τ 17 0) + (τ 10 (slo (τ 17 0)) - 1)) d) (12 * slo (τ 17 0) + (τ 10 (slo (τ 17 0)) - 1)))) (ts τ 14 (12 * slo (τ 17 0) + (τ 10 (slo (τ 17 0)) - 1)) d) ∧ PH (ts (ts (ts ρ 34 (ρ 23 (12 * slo (τ 17 0) + (τ 10 (slo (τ 17 0)) - 1))) 1) 35 (ρ 23 (12 * slo (τ 17 0) + (τ 10 (slo (τ 17 0)) - 1))) d) 36 (ρ 23 (12 * slo (τ 17 0) + (τ 10 (slo (τ 17 0)) - 1))) (jd (ts τ 14 (12 * slo (τ 17 0) + (τ 10 (slo (τ 17 0)) - 1)) d) (12 * slo (τ 17 0) + (τ 10 (slo (τ 17 0)) - 1)))) (ts τ 14 (12 * slo (τ 17 0) + (τ 10 (slo (τ 17 0)) - 1)) d) (ρ 23 (12 * slo (τ 17 0) + (τ 10 (slo (τ 17 0)) - 1))) (12 * slo (τ 17 0) + (τ 10 (slo (τ 17 0)) - 1)) ∧ (ts (ts (ts ρ 34 (ρ 23 (12 * slo (τ 17 0) + (τ 10 (slo (τ 17 0)) - 1))) 1) 35 (ρ 23 (12 * slo (τ 17 0) + (τ 10 (slo (τ 17 0)) - 1))) d) 36 (ρ 23 (12 * slo (τ 17 0) + (τ 10 (slo (τ 17 0)) - 1))) (jd (ts τ 14 (12 * slo (τ 17 0) + (τ 10 (slo (τ 17 0)) - 1)) d) (12 * slo (τ 17 0) + (τ 10 (slo (τ 17 0)) - 1)))) 36 (ρ 23 (12 * slo (τ 17 0) + (τ 10 (slo (τ 17 0)) - 1))) = jd (ts τ 14 (12 * slo (τ 17 0) + (τ 10 (slo (τ 17 0)) - 1)) d) (12 * slo (τ 17 0) + (τ 10 (slo (τ 17 0)) - 1)) ∧
    WF (ts (ts τ 14 (12 * slo (τ 17 0) + (τ 10 (slo (τ 17 0)) - 1)) d) 11 (2 * slo (τ 17 0) + s) (τ 11 (2 * slo (τ 17 0) + s) + (pI (tch (ts τ 14 (12 * slo (τ 17 0) + (τ 10 (slo (τ 17 0)) - 1)) d) (slo (τ 17 0)) (τ 10 (slo (τ 17 0)) - 1) = tch τ (slo (τ 17 0)) (τ 10 (slo (τ 17 0)) - 1))))) ∧ WK (au (ts (ts (ts ρ 34 (ρ 23 (12 * slo (τ 17 0) + (τ 10 (slo (τ 17 0)) - 1))) 1) 35 (ρ 23 (12 * slo (τ 17 0) + (τ 10 (slo (τ 17 0)) - 1))) d) 36 (ρ 23 (12 * slo (τ 17 0) + (τ 10 (slo (τ 17 0)) - 1))) (jd (ts τ 14 (12 * slo (τ 17 0) + (τ 10 (slo (τ 17 0)) - 1)) d) (12 * slo (τ 17 0) + (τ 10 (slo (τ 17 0)) - 1)))) (slo (τ 17 0)) s (pI (tch (ts τ 14 (12 * slo (τ 17 0) + (τ 10 (slo (τ 17 0)) - 1)) d) (slo (τ 17 0)) (τ 10 (slo (τ 17 0)) - 1) = tch τ (slo (τ 17 0)) (τ 10 (slo (τ 17 0)) - 1)))) ∧ WR (au (ts (ts (ts ρ 34 (ρ 23 (12 * slo (τ 17 0) + (τ 10 (slo (τ 17 0)) - 1))) 1) 35 (ρ 23 (12 * slo (τ 17 0) + (τ 10 (slo (τ 17 0)) - 1))) d) 36 (ρ 23 (12 * slo (τ 17 0) + (τ 10 (slo (τ 17 0)) - 1))) (jd (ts τ 14 (12 * slo (τ 17 0) + (τ 10 (slo (τ 17 0)) - 1)) d) (12 * slo (τ 17 0) + (τ 10 (slo (τ 17 0)) - 1)))) (slo (τ 17 0)) s (pI (tch (ts τ 14 (12 * slo (τ 17 0) + (τ 10 (slo (τ 17 0)) - 1)) d) (slo (τ 17 0)) (τ 10 (slo (τ 17 0)) - 1) = tch τ (slo (τ 17 0)) (τ 10 (slo (τ 17 0)) - 1)))) (ts (ts τ 14 (12 * slo (τ 17 0) + (τ 10 (slo (τ 17 0)) - 1)) d) 11 (2 * slo (τ 17 0) + s) (τ 11 (2 * slo (τ 17 0) + s) + (pI (tch (ts τ 14 (12 * slo (τ 17 0) + (τ 10 (slo (τ 17 0)) - 1)) d) (slo (τ 17 0)) (τ 10 (slo (τ 17 0)) - 1) = tch τ (slo (τ 17 0)) (τ 10 (slo (τ 17 0)) - 1))))) ∧ BR (au (ts (ts (ts ρ 34 (ρ 23 (12 * slo (τ 17 0) + (τ 10 (slo (τ 17 0)) - 1))) 1) 35 (ρ 23 (12 * slo (τ 17 0) + (τ 10 (slo (τ 17 0)) - 1))) d) 36 (ρ 23 (12 * slo (τ 17 0) + (τ 10 (slo (τ 17 0)) - 1))) (jd (ts τ 14 (12 * slo (τ 17 0) + (τ 10 (slo (τ 17 0)) - 1)) d) (12 * slo (τ 17 0) + (τ 10 (slo (τ 17 0)) - 1)))) (slo (τ 17 0)) s (pI (tch (ts τ 14 (12 * slo (τ 17 0) + (τ 10 (slo (τ 17 0)) - 1)) d) (slo (τ 17 0)) (τ 10 (slo (τ 17 0)) - 1) = tch τ (slo (τ 17 0)) (τ 10 (slo (τ 17 0)) - 1)))) (ts (ts τ 14 (12 * slo (τ 17 0) + (τ 10 (slo (τ 17 0)) - 1)) d) 11 (2 * slo (τ 17 0) + s) (τ 11 (2 * slo (τ 17 0) + s) + (pI (tch (ts τ 14 (12 * slo (τ 17 0) + (τ 10 (slo (τ 17 0)) - 1)) d) (slo (τ 17 0)) (τ 10 (slo (τ 17 0)) - 1) = tch τ (slo (τ 17 0)) (τ 10 (slo (τ 17 0)) - 1))))) (slo (τ 17 0)) ∧ B1 (ts (ts (au (ts (ts (ts ρ 34 (ρ 23 (12 * slo (τ 17 0) + (τ 10 (slo (τ 17 0)) - 1))) 1) 35 (ρ 23 (12 * slo (τ 17 0) + (τ 10 (slo (τ 17 0)) - 1))) d) 36 (ρ 23 (12 * slo (τ 17 0) + (τ 10 (slo (τ 17 0)) - 1))) (jd (ts τ 14 (12 * slo (τ 17 0) + (τ 10 (slo (τ 17 0)) - 1)) d) (12 * slo (τ 17 0) + (τ 10 (slo (τ 17 0)) - 1)))) (slo (τ 17 0)) s (pI (tch (ts τ 14 (12 * slo (τ 17 0) + (τ 10 (slo (τ 17 0)) - 1)) d) (slo (τ 17 0)) (τ 10 (slo (τ 17 0)) - 1) = tch τ (slo (τ 17 0)) (τ 10 (slo (τ 17 0)) - 1)))) 25 (slo (τ 17 0)) (te (ts (ts τ 14 (12 * slo (τ 17 0) + (τ 10 (slo (τ 17 0)) - 1)) d) 11 (2 * slo (τ 17 0) + s) (τ 11 (2 * slo (τ 17 0) + s) + (pI (tch (ts τ 14 (12 * slo (τ 17 0) + (τ 10 (slo (τ 17 0)) - 1)) d) (slo (τ 17 0)) (τ 10 (slo (τ 17 0)) - 1) = tch τ (slo (τ 17 0)) (τ 10 (slo (τ 17 0)) - 1))))) (slo (τ 17 0))).1) 26 (slo (τ 17 0)) (te (ts (ts τ 14 (12 * slo (τ 17 0) + (τ 10 (slo (τ 17 0)) - 1)) d) 11 (2 * slo (τ 17 0) + s) (τ 11 (2 * slo (τ 17 0) + s) + (pI (tch (ts τ 14 (12 * slo (τ 17 0) + (τ 10 (slo (τ 17 0)) - 1)) d) (slo (τ 17 0)) (τ 10 (slo (τ 17 0)) - 1) = tch τ (slo (τ 17 0)) (τ 10 (slo (τ 17 0)) - 1))))) (slo (τ 17 0))).2.1) (ts (ts τ 14 (12 * slo (τ 17 0) + (τ 10 (slo (τ 17 0)) - 1)) d) 11 (2 * slo (τ 17 0) + s) (τ 11 (2 * slo (τ 17 0) + s) + (pI (tch (ts τ 14 (12 * slo (τ 17 0) + (τ 10 (slo (τ 17 0)) - 1)) d) (slo (τ 17 0)) (τ 10 (slo (τ 17 0)) - 1) = tch τ (slo (τ 17 0)) (τ 10 (slo (τ 17 0)) - 1))))) c ∧ FRE (ts (ts (au (ts (ts (ts ρ 34 (ρ 23 (12 * slo (τ 17 0) + (τ 10 (slo (τ 17 0)) - 1))) 1) 35 (ρ 23 (12 * slo (τ 17 0) + (τ 10 (slo (τ 17 0)) - 1))) d) 36 (ρ 23 (12 * slo (τ 17 0) + (τ 10 (slo (τ 17 0)) - 1))) (jd (ts τ 14 (12 * slo (τ 17 0) + (τ 10 (slo (τ 17 0)) - 1)) d) (12 * slo (τ 17 0) + (τ 10 (slo (τ 17 0)) - 1)))) (slo (τ 17 0)) s (pI (tch (ts τ 14 (12 * slo (τ 17 0) + (τ 10 (slo (τ 17 0)) - 1)) d) (slo (τ 17 0)) (τ 10 (slo (τ 17 0)) - 1) = tch τ (slo (τ 17 0)) (τ 10 (slo (τ 17 0)) - 1)))) 25 (slo (τ 17 0)) (te (ts (ts τ 14 (12 * slo (τ 17 0) + (τ 10 (slo (τ 17 0)) - 1)) d) 11 (2 * slo (τ 17 0) + s) (τ 11 (2 * slo (τ 17 0) + s) + (pI (tch (ts τ 14 (12 * slo (τ 17 0) + (τ 10 (slo (τ 17 0)) - 1)) d) (slo (τ 17 0)) (τ 10 (slo (τ 17 0)) - 1) = tch τ (slo (τ 17 0)) (τ 10 (slo (τ 17 0)) - 1))))) (slo (τ 17 0))).1) 26 (slo (τ 17 0)) (te (ts (ts τ 14 (12 * slo (τ 17 0) + (τ 10 (slo (τ 17 0)) - 1)) d) 11 (2 * slo (τ 17 0) + s) (τ 11 (2 * slo (τ 17 0) + s) + (pI (tch (ts τ 14 (12 * slo (τ 17 0) + (τ 10 (slo (τ 17 0)) - 1)) d) (slo (τ 17 0)) (τ 10 (slo (τ 17 0)) - 1) = tch τ (slo (τ 17 0)) (τ 10 (slo (τ 17 0)) - 1))))) (slo (τ 17 0))).2.1) (ts (ts τ 14 (12 * slo (τ 17 0) + (τ 10 (slo (τ 17 0)) - 1)) d) 11 (2 * slo (τ 17 0) + s) (τ 11 (2 * slo (τ 17 0) + s) + (pI (tch (ts τ 14 (12 * slo (τ 17 0) + (τ 10 (slo (τ 17 0)) - 1)) d) (slo (τ 17 0)) (τ 10 (slo (τ 17 0)) - 1) = tch τ (slo (τ 17 0)) (τ 10 (slo (τ 17 0)) - 1))))) ∧ SR (ts (ts (au (ts (ts (ts ρ 34 (ρ 23 (12 * slo (τ 17 0) + (τ 10 (slo (τ 17 0)) - 1))) 1) 35 (ρ 23 (12 * slo (τ 17 0) + (τ 10 (slo (τ 17 0)) - 1))) d) 36 (ρ 23 (12 * slo (τ 17 0) + (τ 10 (slo (τ 17 0)) - 1))) (jd (ts τ 14 (12 * slo (τ 17 0) + (τ 10 (slo (τ 17 0)) - 1)) d) (12 * slo (τ 17 0) + (τ 10 (slo (τ 17 0)) - 1)))) (slo (τ 17 0)) s (pI (tch (ts τ 14 (12 * slo (τ 17 0) + (τ 10 (slo (τ 17 0)) - 1)) d) (slo (τ 17 0)) (τ 10 (slo (τ 17 0)) - 1) = tch τ (slo (τ 17 0)) (τ 10 (slo (τ 17 0)) - 1)))) 25 (slo (τ 17 0)) (te (ts (ts τ 14 (12 * slo (τ 17 0) + (τ 10 (slo (τ 17 0)) - 1)) d) 11 (2 * slo (τ 17 0) + s) (τ 11 (2 * slo (τ 17 0) + s) + (pI (tch (ts τ 14 (12 * slo (τ 17 0) + (τ 10 (slo (τ 17 0)) - 1)) d) (slo (τ 17 0)) (τ 10 (slo (τ 17 0)) - 1) = tch τ (slo (τ 17 0)) (τ 10 (slo (τ 17 0)) - 1))))) (slo (τ 17 0))).1) 26 (slo (τ 17 0)) (te (ts (ts τ 14 (12 * slo (τ 17 0) + (τ 10 (slo (τ 17 0)) - 1)) d) 11 (2 * slo (τ 17 0) + s) (τ 11 (2 * slo (τ 17 0) + s) + (pI (tch (ts τ 14 (12 * slo (τ 17 0) + (τ 10 (slo (τ 17 0)) - 1)) d) (slo (τ 17 0)) (τ 10 (slo (τ 17 0)) - 1) = tch τ (slo (τ 17 0)) (τ 10 (slo (τ 17 0)) - 1))))) (slo (τ 17 0))).2.1) (ts (ts τ 14 (12 * slo (τ 17 0) + (τ 10 (slo (τ 17 0)) - 1)) d) 11 (2 * slo (τ 17 0) + s) (τ 11 (2 * slo (τ 17 0) + s) + (pI (tch (ts τ 14 (12 * slo (τ 17 0) + (τ 10 (slo (τ 17 0)) - 1)) d) (slo (τ 17 0)) (τ 10 (slo (τ 17 0)) - 1) = tch τ (slo (τ 17 0)) (τ 10 (slo (τ 17 0)) - 1))))) (τ 21 0 - 1) 0 := by
  have hid := ((pst_c R).resolve_left (fun z => hp z.1)).resolve_right (fun z => z.2.1 hoff)
  obtain ⟨i1, -, i3, i4, i5, i6, i7, i8, i9, i10⟩ := hid
  obtain ⟨W, V, ⟨⟨a1, a2, a3, a4, a5, a6, a7, a8⟩, b1, b2, b3, b4, b5, b6⟩, S, Q, F⟩ := R
  have hQ := Q.1 hoff
  obtain ⟨s3, s4, s5, s6, s7, s8, s9, s10, s11, s13⟩ := S
  have hS := SN_live W i3
  have w10 := wf10 W (slo (τ 17 0))
  have w21 := wf21 W 0
  have w9 := wf9 W 0
  have w11 := wf11 W (2 * slo (τ 17 0) + s)
  obtain ⟨P, hg⟩ := i6.1.2.2.2.2.2 (τ 10 (slo (τ 17 0)) - 1) (by omega) (by omega)
  have hx3 := i6.2.2.1
  have hx4 := i6.2.2.2
  have hf0 : 0 ≤ (12 * slo (τ 17 0) + (τ 10 (slo (τ 17 0)) - 1)) := by omega
  obtain ⟨f, hf⟩ : ∃ f, f = (12 * slo (τ 17 0) + (τ 10 (slo (τ 17 0)) - 1)) := ⟨_, rfl⟩
  rw [← hf] at P hg hf0 ⊢
  obtain ⟨p, hpp⟩ : ∃ p, p = ρ 23 f := ⟨_, rfl⟩
  rw [← hpp] at P hg ⊢
  obtain ⟨t, ht⟩ : ∃ t, t = ts τ 14 f d := ⟨_, rfl⟩
  rw [← ht]
  have W1 : WF t := by rw [ht]; exact WF_ts W (show (-2 : Int) ≤ _ ∧ _ ≤ (1 : Int) by omega)
  obtain ⟨u, hu⟩ : ∃ u, u = ts (ts (ts ρ 34 p 1) 35 p d) 36 p (jd t f) := ⟨_, rfl⟩
  rw [← hu]
  have hjr := jd_rg W1 hf0
  have V1 : WK u := by rw [hu]; exact WK_ts (WK_ts (WK_ts V (by decide)) (show (-1 : Int) ≤ _ ∧ _ ≤ (1 : Int) by omega)) hjr
  have et : ∀ k, ¬ k = 14 → t k = τ k := fun k hk => by rw [ht, ts_n hk]
  have ek : ∀ k, ¬ k = 34 ∧ ¬ k = 35 ∧ ¬ k = 36 → u k = ρ k := fun k hk => by rw [hu, ts_n (by omega), ts_n (by omega), ts_n (by omega)]
  have E : EQP t τ f := by
    refine ⟨et 0 (by decide), et 3 (by decide), et 4 (by decide), fun x hx => ⟨by rw [et 12 (by decide)], by rw [ht, ts_else hx]⟩, fun z _ => by rw [et 13 (by decide)], fun z _ => ⟨by rw [et 15 (by decide)], by rw [et 16 (by decide)]⟩⟩
  have D : EQR u ρ p := by
    refine ⟨by rw [ek 47 (by decide)]; omega, by rw [ek 47 (by decide)]; omega, fun q hq => ⟨by rw [ek 27 (by decide)], by rw [ek 28 (by decide)], by rw [ek 29 (by decide)], by rw [ek 33 (by decide)], ?_, ?_, ?_, by rw [ek 49 (by decide)]⟩, fun z _ => ⟨by rw [ek 30 (by decide)], by rw [ek 31 (by decide)], by rw [ek 32 (by decide)]⟩⟩
    · rw [hu, tsN (by decide), tsN (by decide), ts_else hq]
    · rw [hu, tsN (by decide), ts_else hq, tsN (by decide)]
    · rw [hu, ts_else hq, tsN (by decide), tsN (by decide)]
  have hP1 : PH u t p f := by
    have z := PH_tell hd P
    rw [ht]
    exact PH_same z (fun k hk => by rw [hu, ts_n (by omega)]) (by rw [hu]; exact Int.le_refl _) (by rw [hu]; exact Int.le_refl _) (fun _ _ => rfl)
  have h36 : u 36 p = jd t f := by rw [hu]; exact ts_self
  have hWR1 : WR u t := by
    unfold WR
    rw [ek 47 (by decide), ek 15 (by decide), ek 16 (by decide), et 3 (by decide), et 4 (by decide)]
    exact s13
  have hne : ∀ b, LVb τ b → ∀ j, 0 ≤ j → j < τ 10 b → ¬ 12 * b + j = f → ¬ ρ 23 (12 * b + j) = p := fun b hb j j0 j1 hq z => hq (by
    have y := ((s5 b hb).1.2.2.2.2.2 j j0 j1).1.2.1.2
    rw [z] at y
    rw [← y]
    exact P.2.1.2)
  have hBR1 : ∀ b, LVb τ b → BR u t b := fun b hb => by
    obtain ⟨⟨g1, g2, g3, g4, g5, g6⟩, -⟩ := s5 b hb
    refine ⟨g1, by rw [ek 48 (by decide)]; exact g2, by rw [ek 17 (by decide)]; exact g3, by rw [ek 24 (by decide)]; exact g4, by rw [ek 20 (by decide), et 10 (by decide)]; exact g5, fun j j0 j1 => ?_⟩
    rw [et 10 (by decide)] at j1
    rw [ek 23 (by decide)]
    by_cases z : 12 * b + j = f
    · rw [z, ← hpp]
      exact ⟨hP1, h36⟩
    · have y := hne b hb j j0 j1 z
      refine ⟨PH_E E D W y z (g6 j j0 j1).1, ?_⟩
      rw [(D.2.2.1 _ y).2.2.2.2.2.2.1, jd_E E W (by omega) z]
      exact (g6 j j0 j1).2
  obtain ⟨e, he⟩ : ∃ e, e = pI (tch t (slo (τ 17 0)) (τ 10 (slo (τ 17 0)) - 1) = tch τ (slo (τ 17 0)) (τ 10 (slo (τ 17 0)) - 1)) := ⟨_, rfl⟩
  have e01 : e = 0 ∨ e = 1 := by rw [he]; exact pI_01 _
  rw [← he]
  obtain ⟨t2, ht2⟩ : ∃ t2, t2 = ts t 11 (2 * slo (τ 17 0) + s) (τ 11 (2 * slo (τ 17 0) + s) + e) := ⟨_, rfl⟩
  rw [← ht2]
  have W2 : WF t2 := by rw [ht2]; exact WF_ts W1 (show (0 : Int) ≤ _ ∧ _ ≤ (2 : Int) by omega)
  have et2 : ∀ k, ¬ k = 11 → t2 k = t k := fun k hk => by rw [ht2, ts_n hk]
  have et3 : ∀ k, ¬ k = 11 ∧ ¬ k = 14 → t2 k = τ k := fun k hk => (et2 k hk.1).trans (et k hk.2)
  have t11 : ∀ z, t2 11 z = if z = 2 * slo (τ 17 0) + s then τ 11 (2 * slo (τ 17 0) + s) + e else τ 11 z := fun z => by rw [ht2, ts_s, et 11 (by decide)]; rfl
  have hu21 : u 21 = ρ 21 := ek 21 (by decide)
  have hu22 : u 22 = ρ 22 := ek 22 (by decide)
  have V2 : WK (au u (slo (τ 17 0)) s e) := by
    refine WK_au V1 (fun z => ?_) (fun z => ?_)
    · rw [hu21]
      rw [z, Int.add_zero] at h11 w11
      omega
    · rw [hu22]
      rw [show s = 1 by omega] at h11 w11
      omega
  have hWR2 : WR (au u (slo (τ 17 0)) s e) t2 := by
    unfold WR
    rw [au_k (by decide), au_k (by decide), au_k (by decide), et2 3 (by decide), et2 4 (by decide)]
    exact hWR1
  have hj2 : jd t2 = jd t := jd_k2 (et2 0 (by decide)) (fun k hk => et2 k (by omega))
  have hBR2 : ∀ b, LVb τ b → BR (au u (slo (τ 17 0)) s e) t2 b := fun b hb => by
    obtain ⟨g1, g2, g3, g4, g5, g6⟩ := hBR1 b hb
    unfold BR
    rw [hj2, et2 10 (by decide), au_k (j := 48) (by decide), au_k (j := 17) (by decide), au_k (j := 24) (by decide), au_k (j := 20) (by decide), au_k (j := 23) (by decide), au_k (j := 36) (by decide)]
    exact ⟨g1, g2, g3, g4, g5, fun j j0 j1 => ⟨PH_k (g6 j j0 j1).1 (au_k (by decide)) (fun k hk => au_k (by omega)) (au_k (by decide)) (et2 0 (by decide)) (fun k hk => et2 k (by omega)), (g6 j j0 j1).2⟩⟩
  have hte : ∀ b, LVb τ b → ¬ b = (slo (τ 17 0)) → te t2 b = te τ b := fun b hb hq => by
    have y1 : te t2 b = te t b := te_eq (tch_k (et2 0 (by decide)) (fun k hk => et2 k (by omega)) (et2 3 (by decide)) (et2 4 (by decide))) (by rw [et2 10 (by decide)])
    rw [y1]
    have g1 := (s5 b hb).1.1
    have w10b := wf10 W b
    refine te_E E W g1.1 (by rw [et 10 (by decide)]) (fun j j0 j1 => ?_)
    omega
  obtain ⟨r, hr⟩ : ∃ r, r = ts (ts (au u (slo (τ 17 0)) s e) 25 (slo (τ 17 0)) (te t2 (slo (τ 17 0))).1) 26 (slo (τ 17 0)) (te t2 (slo (τ 17 0))).2.1 := ⟨_, rfl⟩
  rw [← hr]
  have rk : ∀ k, ¬ k = 21 ∧ ¬ k = 22 ∧ ¬ k = 25 ∧ ¬ k = 26 → r k = u k := fun k hk => by rw [hr, ts_n (by omega), ts_n (by omega), au_k (by omega)]
  have rk2 : ∀ k, ¬ k = 21 ∧ ¬ k = 22 ∧ ¬ k = 25 ∧ ¬ k = 26 ∧ ¬ k = 34 ∧ ¬ k = 35 ∧ ¬ k = 36 → r k = ρ k := fun k hk => (rk k (by omega)).trans (ek k (by omega))
  have r21 : ∀ b, r 21 b = if b = (slo (τ 17 0)) ∧ s = 0 then ρ 21 (slo (τ 17 0)) - e else ρ 21 b := fun b => by rw [hr, tsN (by decide), tsN (by decide), au_21, hu21]
  have r22 : ∀ b, r 22 b = if b = (slo (τ 17 0)) ∧ ¬ s = 0 then ρ 22 (slo (τ 17 0)) - e else ρ 22 b := fun b => by rw [hr, tsN (by decide), tsN (by decide), au_22, hu22]
  have r25 : ∀ b, r 25 b = if b = (slo (τ 17 0)) then (te t2 (slo (τ 17 0))).1 else ρ 25 b := fun b => by
    rw [hr, tsN (by decide), ts_s, au_k (by decide), ek 25 (by decide)]; rfl
  have r26 : ∀ b, r 26 b = if b = (slo (τ 17 0)) then (te t2 (slo (τ 17 0))).2.1 else ρ 26 b := fun b => by
    rw [hr, ts_s, ts_n (by decide), au_k (by decide), ek 26 (by decide)]; rfl
  have hteR := te_rg W2 (slo (τ 17 0))
  have Vr : WK r := by
    rw [hr]
    exact WK_ts (WK_ts V2 ⟨hteR.1, hteR.2.1⟩) ⟨hteR.2.2.1, hteR.2.2.2.1⟩
  refine ⟨W1, V1, hWR1, hP1, h36, W2, V2, hWR2, hBR2 _ hS.1, ?_, ?_, ?_⟩
  · unfold B1
    rw [rk2 0 (by decide), rk2 1 (by decide), rk2 2 (by decide), rk2 3 (by decide), rk2 4 (by decide), rk2 5 (by decide), rk2 6 (by decide), rk2 8 (by decide), rk2 13 (by decide), rk2 14 (by decide), rk2 18 (by decide), rk2 19 (by decide), rk2 47 (by decide), et3 0 (by decide), et3 1 (by decide), et3 2 (by decide), et3 4 (by decide), et3 5 (by decide), et3 6 (by decide), et3 7 (by decide), et3 8 (by decide), et3 9 (by decide), et3 21 (by decide)]
    exact ⟨⟨a1, a2, a3, a4, a5, a6, a7, a8⟩, b1, b2, b3, b4, b5, b6⟩
  · intro b x0 x1 hb
    unfold LVb at hb
    rw [et3 9 (by decide), et3 21 (by decide)] at hb
    have y := F b x0 x1 hb
    have hbn : ¬ b = (slo (τ 17 0)) := fun z => hb (by rw [z]; exact hS.1)
    rw [rk2 48 (by decide), et3 10 (by decide), t11, t11, if_neg (by omega), if_neg (by omega)]
    exact y
  · unfold SR LVb
    rw [rk2 43 (by decide), rk2 44 (by decide), rk2 7 (by decide), rk2 46 (by decide), rk2 18 (by decide), rk2 19 (by decide), et3 9 (by decide), et3 21 (by decide), et3 22 (by decide), et3 24 (by decide), et3 17 (by decide), et3 10 (by decide)]
    refine ⟨W2, Vr, s3, s4, fun b hb => ?_, s6, fun k k1 k2 k3 => by omega, s8, s9, fun k k1 k2 _ => s10 k k1 k2, fun k k1 k2 _ => s11 k k1 k2, ?_, ?_⟩
    · obtain ⟨⟨g1, -⟩, ⟨y1, y2⟩, x3, x4⟩ := s5 b hb
      refine ⟨?_, ⟨?_, ?_⟩, ?_, ?_⟩
      · obtain ⟨g1, g2, g3, g4, g5, g6⟩ := hBR2 b hb
        unfold BR
        have rr : ∀ k, ¬ k = 25 ∧ ¬ k = 26 → r k = au u (slo (τ 17 0)) s e k := fun k hk => by rw [hr, ts_n (by omega), ts_n (by omega)]
        rw [rr 48 (by decide), rr 17 (by decide), rr 24 (by decide), rr 20 (by decide), rr 23 (by decide), rr 36 (by decide)]
        exact ⟨g1, g2, g3, g4, g5, fun j j0 j1 => ⟨PH_k (g6 j j0 j1).1 (rr 47 (by decide)) (fun k hk => rr k (by omega)) (rr 49 (by decide)) rfl (fun _ _ => rfl), (g6 j j0 j1).2⟩⟩
      · rw [r25]
        by_cases z : b = (slo (τ 17 0))
        · rw [if_pos z, z]
        · rw [if_neg z, hte b hb z]; exact y1
      · rw [r26]
        by_cases z : b = (slo (τ 17 0))
        · rw [if_pos z, z]
        · rw [if_neg z, hte b hb z]; exact y2
      · rw [r21, t11]
        by_cases z : b = (slo (τ 17 0)) ∧ s = 0
        · rw [if_pos z, if_pos (by omega), hx3, z.2, Int.add_zero]
          omega
        · rw [if_neg z, if_neg (by omega)]; exact x3
      · rw [r22, t11]
        by_cases z : b = (slo (τ 17 0)) ∧ ¬ s = 0
        · rw [if_pos z, if_pos (by omega), hx4, show s = 1 by omega]
          omega
        · rw [if_neg z, if_neg (by omega)]; exact x4
    · unfold PO VB
      rw [rk2 41 (by decide), rk2 42 (by decide), rk2 37 (by decide), rk2 38 (by decide), rk2 39 (by decide), rk2 40 (by decide), rk2 47 (by decide), et3 9 (by decide), et3 21 (by decide), et3 17 (by decide), et3 18 (by decide), et3 20 (by decide), et3 10 (by decide)]
      exact hQ
    · unfold WR
      have rr : ∀ k, ¬ k = 25 ∧ ¬ k = 26 → r k = au u (slo (τ 17 0)) s e k := fun k hk => by rw [hr, ts_n (by omega), ts_n (by omega)]
      rw [rr 47 (by decide), rr 15 (by decide), rr 16 (by decide)]
      exact hWR2
set_option maxRecDepth 100000 in
set_option maxHeartbeats 4000000 in
theorem p_appeal {X : GX} {h : LH} {ρ τ : TS} {c : Int} (R : RR ρ τ c) {s d : Int} (hs : rg s) (hd : rg d) : CX X mX7_appeal [vR (some (1, 0)), vI (iI s), vI (iI d)] h ρ (PX (gl (pI (0 ≤ s ∧ s ≤ 1)) (pI (-1 ≤ d ∧ d ≤ 1)) (pI ((((¬ τ 17 0 = -1 ∧ τ 19 0 = 0) ∧ ¬ τ 20 0 = 0) ∧ 0 ≤ s ∧ s ≤ 1) ∧ τ 11 (2 * slo (τ 17 0) + s) < 2))) (tch (ts τ 14 (12 * slo (τ 17 0) + (τ 10 (slo (τ 17 0)) - 1)) d) (slo (τ 17 0)) (τ 10 (slo (τ 17 0)) - 1)) (fun r => RR r (fol (ts (ts τ 14 (12 * slo (τ 17 0) + (τ 10 (slo (τ 17 0)) - 1)) d) 11 (2 * slo (τ 17 0) + s) (τ 11 (2 * slo (τ 17 0) + s) + (pI (tch (ts τ 14 (12 * slo (τ 17 0) + (τ 10 (slo (τ 17 0)) - 1)) d) (slo (τ 17 0)) (τ 10 (slo (τ 17 0)) - 1) = tch τ (slo (τ 17 0)) (τ 10 (slo (τ 17 0)) - 1)))))) c)) (EM [2, 1, 0] (gl (pI (0 ≤ s ∧ s ≤ 1)) (pI (-1 ≤ d ∧ d ≤ 1)) (pI ((((¬ τ 17 0 = -1 ∧ τ 19 0 = 0) ∧ ¬ τ 20 0 = 0) ∧ 0 ≤ s ∧ s ≤ 1) ∧ τ 11 (2 * slo (τ 17 0) + s) < 2)))) := by
  have W := R.1
  have V := R.2.1
  refine CT_of (by decide +kernel) rfl (Nat.le_of_ble_eq_true rfl) ?_
  rcases pst_c R with ⟨h1, h2, h3, h4, h5, h6, h7⟩ | ⟨h1, h2, h3, h4, h5, h6, h7, h8, h9, h10⟩ | ⟨h1, h2, h3, h4, h5, h6, h7, h8, h9⟩
  · refine J_iload_n (M := mX7_appeal) dX7_appeal_0 rfl rfl ?_
    refine M_callS (M := mX7_appeal) (as := [_]) dX7_appeal_1 ca_X7_144 ⟨by decide, by decide⟩ rfl (Nat.le_of_ble_eq_true rfl) rfl rfl (kX7_isSide (by first | assumption | exact pI_rg _ | (unfold rg; omega))) ?_
    first
      | refine Z_pt (M := mX7_appeal) (tgt := 17) dX7_appeal_4 (by decide) (fun c_4 => ?_) (fun c_4 => ?_)
      | refine Z_if_ne (M := mX7_appeal) (tgt := 17) (by first | assumption | exact pI_rg _ | (unfold rg; omega)) dX7_appeal_4 (by decide) (fun c_4 => ?_) (fun c_4 => ?_)
    · refine J_iload_n (M := mX7_appeal) dX7_appeal_17 rfl rfl ?_
      refine M_callS (M := mX7_appeal) (as := [_]) dX7_appeal_18 ca_X7_198 ⟨by decide, by decide⟩ rfl (Nat.le_of_ble_eq_true rfl) rfl rfl (kX7_isSideOrNone (by first | assumption | exact pI_rg _ | (unfold rg; omega))) ?_
      first
        | refine Z_pt (M := mX7_appeal) (tgt := 34) dX7_appeal_21 (by decide) (fun c_21 => ?_) (fun c_21 => ?_)
        | refine Z_if_ne (M := mX7_appeal) (tgt := 34) (by first | assumption | exact pI_rg _ | (unfold rg; omega)) dX7_appeal_21 (by decide) (fun c_21 => ?_) (fun c_21 => ?_)
      · refine J_aload_n (M := mX7_appeal) dX7_appeal_34 rfl rfl ?_
        refine J_getf (M := mX7_appeal) dX7_appeal_35 fi_X7_30 (hk_1 (by first | exact rfl | assumption | exact Or.inl (by assumption) | exact Or.inr rfl | (show 0 ≤ _ ∧ _ < _; omega))) rfl ?_
        refine J_getf (M := mX7_appeal) dX7_appeal_38 fi_X7_149 (hk_5 (by first | exact rfl | assumption | exact Or.inl (by assumption) | exact Or.inr rfl | (show 0 ≤ _ ∧ _ < _; omega))) rfl ?_
        refine Z_rwb (M := mX7_appeal) (g := ρ 38) (wk38 V) rfl (fun wb_38_9 => ?_)
        first | refine Z_some (M := mX7_appeal) (by omega) ?_ | skip
        refine J_astore_n (M := mX7_appeal) dX7_appeal_41 rfl (by decide) ?_
        refine J_aload_n (M := mX7_appeal) dX7_appeal_42 rfl rfl ?_
        first | refine Z_some (M := mX7_appeal) (by omega) ?_ | skip
        first | refine Z_uns (M := mX7_appeal) (by omega) ?_ | skip
        refine K_ifnull (tgt := 66) dX7_appeal_43 (by decide) (fun c_43 => ?_) (fun c_43 => ?_)
        · refine K_thr (M := mX7_appeal) rfl rfl ti_60_229_64 (by decide) (by decide) (by decide) (by decide) (Or.inl ⟨dX7_appeal_66, dX7_appeal_69, dX7_appeal_70, dX7_appeal_72, dX7_appeal_75⟩) ?_
          first
            | exact EM_1 (pI_f (by omega)) rfl
            | exact EM_2 (pI_n0.mpr (by omega)) (pI_f (by omega)) rfl
            | exact EM_3 (pI_n0.mpr (by omega)) (pI_n0.mpr (by omega)) (pI_f (by omega)) rfl
        · omega
      · refine K_thr (M := mX7_appeal) rfl rfl ti_93_227_97 (by decide) (by decide) (by decide) (by decide) (Or.inl ⟨dX7_appeal_24, dX7_appeal_27, dX7_appeal_28, dX7_appeal_30, dX7_appeal_33⟩) ?_
        first
          | exact EM_1 (pI_f (by omega)) rfl
          | exact EM_2 (pI_n0.mpr (by omega)) (pI_f (by omega)) rfl
          | exact EM_3 (pI_n0.mpr (by omega)) (pI_n0.mpr (by omega)) (pI_f (by omega)) rfl
    · refine K_thr (M := mX7_appeal) rfl rfl ti_74_179_78 (by decide) (by decide) (by decide) (by decide) (Or.inl ⟨dX7_appeal_7, dX7_appeal_10, dX7_appeal_11, dX7_appeal_13, dX7_appeal_16⟩) ?_
      first
        | exact EM_1 (pI_f (by omega)) rfl
        | exact EM_2 (pI_n0.mpr (by omega)) (pI_f (by omega)) rfl
        | exact EM_3 (pI_n0.mpr (by omega)) (pI_n0.mpr (by omega)) (pI_f (by omega)) rfl
  · have hlv := (SN_live W h3).2.2
    have e13 : CE ρ 13 (slo (τ 17 0)) := h6.1.2.1
    have g3 := h6.1.2.2.1
    have g5 := h6.1.2.2.2.2.1
    have hWR := R.2.2.2.1.2.2.2.2.2.2.2.2.2
    have w20 := wf20 W 0
    clear h3
    refine J_iload_n (M := mX7_appeal) dX7_appeal_0 rfl rfl ?_
    refine M_callS (M := mX7_appeal) (as := [_]) dX7_appeal_1 ca_X7_144 ⟨by decide, by decide⟩ rfl (Nat.le_of_ble_eq_true rfl) rfl rfl (kX7_isSide (by first | assumption | exact pI_rg _ | (unfold rg; omega))) ?_
    first
      | refine Z_pt (M := mX7_appeal) (tgt := 17) dX7_appeal_4 (by decide) (fun c_4 => ?_) (fun c_4 => ?_)
      | refine Z_if_ne (M := mX7_appeal) (tgt := 17) (by first | assumption | exact pI_rg _ | (unfold rg; omega)) dX7_appeal_4 (by decide) (fun c_4 => ?_) (fun c_4 => ?_)
    · refine J_iload_n (M := mX7_appeal) dX7_appeal_17 rfl rfl ?_
      refine M_callS (M := mX7_appeal) (as := [_]) dX7_appeal_18 ca_X7_198 ⟨by decide, by decide⟩ rfl (Nat.le_of_ble_eq_true rfl) rfl rfl (kX7_isSideOrNone (by first | assumption | exact pI_rg _ | (unfold rg; omega))) ?_
      first
        | refine Z_pt (M := mX7_appeal) (tgt := 34) dX7_appeal_21 (by decide) (fun c_21 => ?_) (fun c_21 => ?_)
        | refine Z_if_ne (M := mX7_appeal) (tgt := 34) (by first | assumption | exact pI_rg _ | (unfold rg; omega)) dX7_appeal_21 (by decide) (fun c_21 => ?_) (fun c_21 => ?_)
      · refine J_aload_n (M := mX7_appeal) dX7_appeal_34 rfl rfl ?_
        refine J_getf (M := mX7_appeal) dX7_appeal_35 fi_X7_30 (hk_1 (by first | exact rfl | assumption | exact Or.inl (by assumption) | exact Or.inr rfl | (show 0 ≤ _ ∧ _ < _; omega))) rfl ?_
        refine J_getf (M := mX7_appeal) dX7_appeal_38 fi_X7_149 (hk_5 (by first | exact rfl | assumption | exact Or.inl (by assumption) | exact Or.inr rfl | (show 0 ≤ _ ∧ _ < _; omega))) rfl ?_
        refine Z_rwb (M := mX7_appeal) (g := ρ 38) (wk38 V) rfl (fun wb_38_9 => ?_)
        first | refine Z_some (M := mX7_appeal) (by omega) ?_ | skip
        refine Z_req (M := mX7_appeal) (congrArg (fun z => some (13, z)) h4) ?_
        refine J_astore_n (M := mX7_appeal) dX7_appeal_41 rfl (by decide) ?_
        refine J_aload_n (M := mX7_appeal) dX7_appeal_42 rfl rfl ?_
        first | refine Z_some (M := mX7_appeal) (by omega) ?_ | skip
        first | refine Z_uns (M := mX7_appeal) (by omega) ?_ | skip
        refine K_ifnull (tgt := 66) dX7_appeal_43 (by decide) (fun c_43 => ?_) (fun c_43 => ?_)
        · omega
        · refine J_aload_n (M := mX7_appeal) dX7_appeal_46 rfl rfl ?_
          refine J_getf (M := mX7_appeal) dX7_appeal_47 fi_X7_30 (hk_1 (by first | exact rfl | assumption | exact Or.inl (by assumption) | exact Or.inr rfl | (show 0 ≤ _ ∧ _ < _; omega))) rfl ?_
          refine J_getf (M := mX7_appeal) dX7_appeal_50 fi_X7_101 (hk_5 (by first | exact rfl | assumption | exact Or.inl (by assumption) | exact Or.inr rfl | (show 0 ≤ _ ∧ _ < _; omega))) rfl ?_
          refine Z_rwb (M := mX7_appeal) (g := ρ 41) (wk41 V) rfl (fun wb_41_20 => ?_)
          first | refine Z_some (M := mX7_appeal) (by omega) ?_ | skip
          first | refine Z_uns (M := mX7_appeal) (by omega) ?_ | skip
          refine K_ifnonnull (tgt := 66) dX7_appeal_53 (by decide) (fun c_53 => ?_) (fun c_53 => ?_)
          · omega
          · refine J_aload_n (M := mX7_appeal) dX7_appeal_56 rfl rfl ?_
            refine J_getf (M := mX7_appeal) dX7_appeal_57 fi_X7_30 (hk_1 (by first | exact rfl | assumption | exact Or.inl (by assumption) | exact Or.inr rfl | (show 0 ≤ _ ∧ _ < _; omega))) rfl ?_
            refine J_getf (M := mX7_appeal) dX7_appeal_60 fi_X7_216 (hk_5 (by first | exact rfl | assumption | exact Or.inl (by assumption) | exact Or.inr rfl | (show 0 ≤ _ ∧ _ < _; omega))) rfl ?_
            refine Z_wb (M := mX7_appeal) (g := ρ 42) (wk42 V) rfl (fun wb_42_27 => ?_)
            first
              | refine Z_pt (M := mX7_appeal) (tgt := 76) dX7_appeal_63 (by decide) (fun c_63 => ?_) (fun c_63 => ?_)
              | refine Z_if_ne (M := mX7_appeal) (tgt := 76) (by first | assumption | exact pI_rg _ | (unfold rg; omega)) dX7_appeal_63 (by decide) (fun c_63 => ?_) (fun c_63 => ?_)
            · have hn1 := h10 (by omega)
              obtain ⟨P, hg⟩ := h6.1.2.2.2.2.2 (τ 10 (slo (τ 17 0)) - 1) (by omega) (by omega)
              have p0 := P.1
              refine J_aload_n (M := mX7_appeal) dX7_appeal_76 rfl rfl ?_
              first | refine Z_some (M := mX7_appeal) (by omega) ?_ | skip
              refine J_aload_n (M := mX7_appeal) dX7_appeal_77 rfl rfl ?_
              first | refine Z_some (M := mX7_appeal) (by omega) ?_ | skip
              refine J_getf (M := mX7_appeal) dX7_appeal_78 fi_X7_141 (hk_13 (by first | exact rfl | assumption | exact Or.inl (by assumption) | exact Or.inr rfl | (show 0 ≤ _ ∧ _ < _; omega))) rfl ?_
              refine Z_wb (M := mX7_appeal) (g := ρ 20) (wk20 V) rfl (fun wb_20_35 => ?_)
              refine Z_iconst (M := mX7_appeal) dX7_appeal_81 ?_
              refine Z_isub (M := mX7_appeal) dX7_appeal_82 ?_
              refine J_callV (M := mX7_appeal) (as := [_]) dX7_appeal_83 ca_X7_231 ⟨by decide, by decide⟩ (hk_13 (by first | exact rfl | assumption | exact Or.inl (by assumption) | exact Or.inr rfl | (show 0 ≤ _ ∧ _ < _; omega))) rfl (Nat.le_of_ble_eq_true rfl) (k' := 1) (n' := 6) (by decide) (by decide) (kX0_phraseAt V e13 (by unfold rg; omega)) (fun v_83 h_83 hv_83 => ?_)
              obtain ⟨r_83, rfl, hv_83⟩ := hv_83
              obtain ⟨rfl, e_83⟩ := hv_83
              rw [e_83]
              refine Z_rfe (M := mX7_appeal) (y := (ρ 23 (12 * slo (τ 17 0) + (τ 10 (slo (τ 17 0)) - 1)))) ((if_pos ⟨by omega, by omega⟩).trans (by rw [g5])) ?_
              refine J_astore (M := mX7_appeal) dX7_appeal_86 (by decide) ?_
              refine J_aload (M := mX7_appeal) dX7_appeal_88 rfl ?_
              first | refine Z_some (M := mX7_appeal) (by omega) ?_ | skip
              first | refine Z_uns (M := mX7_appeal) (by omega) ?_ | skip
              refine K_ifnull (tgt := 101) dX7_appeal_90 (by decide) (fun c_90 => ?_) (fun c_90 => ?_)
              · omega
              · refine J_aload_n (M := mX7_appeal) dX7_appeal_93 rfl rfl ?_
                first | refine Z_some (M := mX7_appeal) (by omega) ?_ | skip
                refine J_iload_n (M := mX7_appeal) dX7_appeal_94 rfl rfl ?_
                refine J_callV (M := mX7_appeal) (as := [_]) dX7_appeal_95 ca_X7_235 ⟨by decide, by decide⟩ (hk_13 (by first | exact rfl | assumption | exact Or.inl (by assumption) | exact Or.inr rfl | (show 0 ≤ _ ∧ _ < _; omega))) rfl (Nat.le_of_ble_eq_true rfl) (k' := 1) (n' := 6) (by decide) (by decide) (kX0_appealsLeft hs e13) (fun v_95 h_95 hv_95 => ?_)
                obtain ⟨r_95, rfl, hv_95⟩ := hv_95
                obtain ⟨rfl, e_95⟩ := hv_95
                rw [e_95]
                have hap : (if s = 0 then ρ 21 (slo (τ 17 0)) else ρ 22 (slo (τ 17 0))) = 2 - τ 11 (2 * slo (τ 17 0) + s) := by
                  by_cases z : s = 0
                  · rw [if_pos z, h6.2.2.1, z, Int.add_zero]
                  · rw [if_neg z, h6.2.2.2, show s = 1 by omega]
                have w11 := wf11 W (2 * slo (τ 17 0) + s)
                refine Z_eq (M := mX7_appeal) hap ?_
                first
                  | refine Z_pt (M := mX7_appeal) (tgt := 111) dX7_appeal_98 (by decide) (fun c_98 => ?_) (fun c_98 => ?_)
                  | refine Z_if_ne (M := mX7_appeal) (tgt := 111) (by first | assumption | exact pI_rg _ | (unfold rg; omega)) dX7_appeal_98 (by decide) (fun c_98 => ?_) (fun c_98 => ?_)
                · have hss : 0 ≤ s ∧ s ≤ 1 := by assumption
                  have hdd : -1 ≤ d ∧ d ≤ 1 := by assumption
                  have h11 : τ 11 (2 * slo (τ 17 0) + s) < 2 := by omega
                  have hfr : ¬ τ 20 0 = 0 := by omega
                  obtain ⟨W1, V1, hWR1, hP1, h36, W2, V2, hWR2, hBR2, hB1, hFR, hSR⟩ := SR_appeal R h1 h2 hn1 hss hdd h11
                  have e13r : CE (au (ts (ts (ts ρ 34 (ρ 23 (12 * slo (τ 17 0) + (τ 10 (slo (τ 17 0)) - 1))) 1) 35 (ρ 23 (12 * slo (τ 17 0) + (τ 10 (slo (τ 17 0)) - 1))) d) 36 (ρ 23 (12 * slo (τ 17 0) + (τ 10 (slo (τ 17 0)) - 1))) (jd (ts τ 14 (12 * slo (τ 17 0) + (τ 10 (slo (τ 17 0)) - 1)) d) (12 * slo (τ 17 0) + (τ 10 (slo (τ 17 0)) - 1)))) (slo (τ 17 0)) s (pI (tch (ts τ 14 (12 * slo (τ 17 0) + (τ 10 (slo (τ 17 0)) - 1)) d) (slo (τ 17 0)) (τ 10 (slo (τ 17 0)) - 1) = tch τ (slo (τ 17 0)) (τ 10 (slo (τ 17 0)) - 1)))) 13 (slo (τ 17 0)) := hBR2.2.1
                  have hj145 : J X mX7_appeal 145 [some (vR (some (1, 0))), some (vI (iI s)), some (vI (iI d)), some (vR (some (13, (slo (τ 17 0))))), some (vR (rfo 16 (ρ 23 (12 * slo (τ 17 0) + (τ 10 (slo (τ 17 0)) - 1))))), some (vI (iI (tch τ (slo (τ 17 0)) (τ 10 (slo (τ 17 0)) - 1)))), some (vI (iI (tch (ts τ 14 (12 * slo (τ 17 0) + (τ 10 (slo (τ 17 0)) - 1)) d) (slo (τ 17 0)) (τ 10 (slo (τ 17 0)) - 1))))] [] (hk h (au (ts (ts (ts ρ 34 (ρ 23 (12 * slo (τ 17 0) + (τ 10 (slo (τ 17 0)) - 1))) 1) 35 (ρ 23 (12 * slo (τ 17 0) + (τ 10 (slo (τ 17 0)) - 1))) d) 36 (ρ 23 (12 * slo (τ 17 0) + (τ 10 (slo (τ 17 0)) - 1))) (jd (ts τ 14 (12 * slo (τ 17 0) + (τ 10 (slo (τ 17 0)) - 1)) d) (12 * slo (τ 17 0) + (τ 10 (slo (τ 17 0)) - 1)))) (slo (τ 17 0)) s (pI (tch (ts τ 14 (12 * slo (τ 17 0) + (τ 10 (slo (τ 17 0)) - 1)) d) (slo (τ 17 0)) (τ 10 (slo (τ 17 0)) - 1) = tch τ (slo (τ 17 0)) (τ 10 (slo (τ 17 0)) - 1))))) 1 6 (QE h ρ (PX (gl (pI (0 ≤ s ∧ s ≤ 1)) (pI (-1 ≤ d ∧ d ≤ 1)) (pI ((((¬ τ 17 0 = -1 ∧ τ 19 0 = 0) ∧ ¬ τ 20 0 = 0) ∧ 0 ≤ s ∧ s ≤ 1) ∧ τ 11 (2 * slo (τ 17 0) + s) < 2))) (tch (ts τ 14 (12 * slo (τ 17 0) + (τ 10 (slo (τ 17 0)) - 1)) d) (slo (τ 17 0)) (τ 10 (slo (τ 17 0)) - 1)) (fun r => RR r (fol (ts (ts τ 14 (12 * slo (τ 17 0) + (τ 10 (slo (τ 17 0)) - 1)) d) 11 (2 * slo (τ 17 0) + s) (τ 11 (2 * slo (τ 17 0) + s) + (pI (tch (ts τ 14 (12 * slo (τ 17 0) + (τ 10 (slo (τ 17 0)) - 1)) d) (slo (τ 17 0)) (τ 10 (slo (τ 17 0)) - 1) = tch τ (slo (τ 17 0)) (τ 10 (slo (τ 17 0)) - 1)))))) c)) (EM [2, 1, 0] (gl (pI (0 ≤ s ∧ s ≤ 1)) (pI (-1 ≤ d ∧ d ≤ 1)) (pI ((((¬ τ 17 0 = -1 ∧ τ 19 0 = 0) ∧ ¬ τ 20 0 = 0) ∧ 0 ≤ s ∧ s ≤ 1) ∧ τ 11 (2 * slo (τ 17 0) + s) < 2))))) := by
                    refine J_aload_n (M := mX7_appeal) dX7_appeal_145 rfl rfl ?_
                    first | refine Z_some (M := mX7_appeal) (by omega) ?_ | skip
                    refine J_callV (M := mX7_appeal) (as := []) dX7_appeal_146 ca_X7_246 ⟨by decide, by decide⟩ (hk_13 (by first | exact rfl | assumption | exact Or.inl (by assumption) | exact Or.inr rfl | (show 0 ≤ _ ∧ _ < _; omega))) rfl (Nat.le_of_ble_eq_true rfl) (k' := 1) (n' := 6) (by decide) (by decide) (kX0_recount W2 V2 hWR2 hBR2) (fun v_146 h_146 hv_146 => ?_)
                    obtain ⟨r_146, rfl, hv_146⟩ := hv_146
                    obtain ⟨rfl, e_146⟩ := hv_146
                    rw [e_146]
                    refine J_aload_n (M := mX7_appeal) dX7_appeal_149 rfl rfl ?_
                    refine J_getf (M := mX7_appeal) dX7_appeal_150 fi_X7_37 (hk_1 (by first | exact rfl | assumption | exact Or.inl (by assumption) | exact Or.inr rfl | (show 0 ≤ _ ∧ _ < _; omega))) rfl ?_
                    refine J_aload_n (M := mX7_appeal) dX7_appeal_153 rfl rfl ?_
                    refine J_getf (M := mX7_appeal) dX7_appeal_154 fi_X7_30 (hk_1 (by first | exact rfl | assumption | exact Or.inl (by assumption) | exact Or.inr rfl | (show 0 ≤ _ ∧ _ < _; omega))) rfl ?_
                    refine J_callV (M := mX7_appeal) (as := [_]) dX7_appeal_157 ca_X7_219 ⟨by decide, by decide⟩ (hk_6 (by first | exact rfl | assumption | exact Or.inl (by assumption) | exact Or.inr rfl | (show 0 ≤ _ ∧ _ < _; omega))) rfl (Nat.le_of_ble_eq_true rfl) (k' := 1) (n' := 6) (by decide) (by decide) (kX4_settle (τ := (ts (ts τ 14 (12 * slo (τ 17 0) + (τ 10 (slo (τ 17 0)) - 1)) d) 11 (2 * slo (τ 17 0) + s) (τ 11 (2 * slo (τ 17 0) + s) + (pI (tch (ts τ 14 (12 * slo (τ 17 0) + (τ 10 (slo (τ 17 0)) - 1)) d) (slo (τ 17 0)) (τ 10 (slo (τ 17 0)) - 1) = tch τ (slo (τ 17 0)) (τ 10 (slo (τ 17 0)) - 1)))))) hSR) (fun v_157 h_157 hv_157 => ?_)
                    obtain ⟨r_157, rfl, hv_157⟩ := hv_157
                    obtain ⟨rfl, hS, hFr⟩ := hv_157
                    refine J_iload (M := mX7_appeal) dX7_appeal_160 rfl ?_
                    refine K_iretE dX7_appeal_162 rfl ?_
                    exact ⟨gl_0 ⟨pI_n0.mpr hss, pI_n0.mpr hdd, pI_n0.mpr ⟨⟨⟨⟨h1, h2⟩, hfr⟩, hss⟩, h11⟩⟩, rfl, RR_fol hB1 hFR h2 W2 hS hFr⟩
                  refine J_aload_n (M := mX7_appeal) dX7_appeal_111 rfl rfl ?_
                  first | refine Z_some (M := mX7_appeal) (by omega) ?_ | skip
                  refine J_aload (M := mX7_appeal) dX7_appeal_112 rfl ?_
                  first | refine Z_some (M := mX7_appeal) (by omega) ?_ | skip
                  refine J_callV (M := mX7_appeal) (as := [_]) dX7_appeal_114 ca_X7_223 ⟨by decide, by decide⟩ (hk_13 (by first | exact rfl | assumption | exact Or.inl (by assumption) | exact Or.inr rfl | (show 0 ≤ _ ∧ _ < _; omega))) rfl (Nat.le_of_ble_eq_true rfl) (k' := 1) (n' := 6) (by decide) (by decide) (kX0_touchesLeft (j := (τ 10 (slo (τ 17 0)) - 1)) V hWR W e13 g3 (by omega) P hg) (fun v_114 h_114 hv_114 => ?_)
                  obtain ⟨r_114, rfl, hv_114⟩ := hv_114
                  obtain ⟨rfl, e_114⟩ := hv_114
                  rw [e_114]
                  refine J_istore (M := mX7_appeal) dX7_appeal_117 (by decide) ?_
                  refine J_aload (M := mX7_appeal) dX7_appeal_119 rfl ?_
                  first | refine Z_some (M := mX7_appeal) (by omega) ?_ | skip
                  refine J_iload_n (M := mX7_appeal) dX7_appeal_121 rfl rfl ?_
                  refine J_callV (M := mX7_appeal) (as := [_]) dX7_appeal_122 ca_X7_240 ⟨by decide, by decide⟩ (hk_16 (by first | exact rfl | assumption | exact Or.inl (by assumption) | exact Or.inr rfl | (show 0 ≤ _ ∧ _ < _; omega))) rfl (Nat.le_of_ble_eq_true rfl) (k' := 1) (n' := 6) (by decide) (by decide) (kX2_tellRight W V P (by omega) hdd) (fun v_122 h_122 hv_122 => ?_)
                  obtain ⟨r_122, rfl, hv_122⟩ := hv_122
                  obtain ⟨rfl, e_122⟩ := hv_122
                  rw [e_122]
                  refine J_aload_n (M := mX7_appeal) dX7_appeal_125 rfl rfl ?_
                  first | refine Z_some (M := mX7_appeal) (by omega) ?_ | skip
                  refine J_aload (M := mX7_appeal) dX7_appeal_126 rfl ?_
                  first | refine Z_some (M := mX7_appeal) (by omega) ?_ | skip
                  refine J_callV (M := mX7_appeal) (as := [_]) dX7_appeal_128 ca_X7_223 ⟨by decide, by decide⟩ (hk_13 (by first | exact rfl | assumption | exact Or.inl (by assumption) | exact Or.inr rfl | (show 0 ≤ _ ∧ _ < _; omega))) rfl (Nat.le_of_ble_eq_true rfl) (k' := 1) (n' := 6) (by decide) (by decide) (kX0_touchesLeft (j := (τ 10 (slo (τ 17 0)) - 1)) V1 hWR1 W1 e13 g3 (by omega) hP1 h36) (fun v_128 h_128 hv_128 => ?_)
                  obtain ⟨r_128, rfl, hv_128⟩ := hv_128
                  obtain ⟨rfl, e_128⟩ := hv_128
                  rw [e_128]
                  refine J_istore (M := mX7_appeal) dX7_appeal_131 (by decide) ?_
                  refine J_iload (M := mX7_appeal) dX7_appeal_133 rfl ?_
                  refine J_iload (M := mX7_appeal) dX7_appeal_135 rfl ?_
                  refine Z_ic_ne (M := mX7_appeal) (tgt := 145) (by have := tch_rg (τ := (ts τ 14 (12 * slo (τ 17 0) + (τ 10 (slo (τ 17 0)) - 1)) d)) (slo (τ 17 0)) (τ 10 (slo (τ 17 0)) - 1); unfold rg; omega) (by have := tch_rg (τ := τ) (slo (τ 17 0)) (τ 10 (slo (τ 17 0)) - 1); unfold rg; omega) dX7_appeal_137 (by decide) (fun c_137 => ?_) (fun c_137 => ?_)
                  · first
                      | (refine Z_h (M := mX7_appeal) (show hk h (ts (ts (ts ρ 34 (ρ 23 (12 * slo (τ 17 0) + (τ 10 (slo (τ 17 0)) - 1))) 1) 35 (ρ 23 (12 * slo (τ 17 0) + (τ 10 (slo (τ 17 0)) - 1))) d) 36 (ρ 23 (12 * slo (τ 17 0) + (τ 10 (slo (τ 17 0)) - 1))) (jd (ts τ 14 (12 * slo (τ 17 0) + (τ 10 (slo (τ 17 0)) - 1)) d) (12 * slo (τ 17 0) + (τ 10 (slo (τ 17 0)) - 1)))) = hk h (au (ts (ts (ts ρ 34 (ρ 23 (12 * slo (τ 17 0) + (τ 10 (slo (τ 17 0)) - 1))) 1) 35 (ρ 23 (12 * slo (τ 17 0) + (τ 10 (slo (τ 17 0)) - 1))) d) 36 (ρ 23 (12 * slo (τ 17 0) + (τ 10 (slo (τ 17 0)) - 1))) (jd (ts τ 14 (12 * slo (τ 17 0) + (τ 10 (slo (τ 17 0)) - 1)) d) (12 * slo (τ 17 0) + (τ 10 (slo (τ 17 0)) - 1)))) (slo (τ 17 0)) s (pI (tch (ts τ 14 (12 * slo (τ 17 0) + (τ 10 (slo (τ 17 0)) - 1)) d) (slo (τ 17 0)) (τ 10 (slo (τ 17 0)) - 1) = tch τ (slo (τ 17 0)) (τ 10 (slo (τ 17 0)) - 1)))) by rw [pI_f c_137, au_0]) ?_
                         exact J_sub hj145 (And.intro rfl (And.intro rfl (And.intro rfl (And.intro rfl (And.intro rfl (And.intro rfl (And.intro rfl trivial))))))))
                      | (refine Z_h (M := mX7_appeal) (show _ = hk h (au (ts (ts (ts ρ 34 (ρ 23 (12 * slo (τ 17 0) + (τ 10 (slo (τ 17 0)) - 1))) 1) 35 (ρ 23 (12 * slo (τ 17 0) + (τ 10 (slo (τ 17 0)) - 1))) d) 36 (ρ 23 (12 * slo (τ 17 0) + (τ 10 (slo (τ 17 0)) - 1))) (jd (ts τ 14 (12 * slo (τ 17 0) + (τ 10 (slo (τ 17 0)) - 1)) d) (12 * slo (τ 17 0) + (τ 10 (slo (τ 17 0)) - 1)))) (slo (τ 17 0)) s (pI (tch (ts τ 14 (12 * slo (τ 17 0) + (τ 10 (slo (τ 17 0)) - 1)) d) (slo (τ 17 0)) (τ 10 (slo (τ 17 0)) - 1) = tch τ (slo (τ 17 0)) (τ 10 (slo (τ 17 0)) - 1)))) by rw [pI_t c_137]; rfl) ?_
                         exact J_sub hj145 (And.intro rfl (And.intro rfl (And.intro rfl (And.intro rfl (And.intro rfl (And.intro rfl (And.intro rfl trivial))))))))
                  · refine J_aload_n (M := mX7_appeal) dX7_appeal_140 rfl rfl ?_
                    first | refine Z_some (M := mX7_appeal) (by omega) ?_ | skip
                    refine J_iload_n (M := mX7_appeal) dX7_appeal_141 rfl rfl ?_
                    refine J_callV (M := mX7_appeal) (as := [_]) dX7_appeal_142 ca_X7_243 ⟨by decide, by decide⟩ (hk_13 (by first | exact rfl | assumption | exact Or.inl (by assumption) | exact Or.inr rfl | (show 0 ≤ _ ∧ _ < _; omega))) rfl (Nat.le_of_ble_eq_true rfl) (k' := 1) (n' := 6) (by decide) (by decide) (kX0_useAppeal hs e13) (fun v_142 h_142 hv_142 => ?_)
                    obtain ⟨r_142, rfl, hv_142⟩ := hv_142
                    obtain ⟨rfl, e_142⟩ := hv_142
                    rw [e_142]
                    first
                      | (refine Z_h (M := mX7_appeal) (show hk h (ts (ts (ts ρ 34 (ρ 23 (12 * slo (τ 17 0) + (τ 10 (slo (τ 17 0)) - 1))) 1) 35 (ρ 23 (12 * slo (τ 17 0) + (τ 10 (slo (τ 17 0)) - 1))) d) 36 (ρ 23 (12 * slo (τ 17 0) + (τ 10 (slo (τ 17 0)) - 1))) (jd (ts τ 14 (12 * slo (τ 17 0) + (τ 10 (slo (τ 17 0)) - 1)) d) (12 * slo (τ 17 0) + (τ 10 (slo (τ 17 0)) - 1)))) = hk h (au (ts (ts (ts ρ 34 (ρ 23 (12 * slo (τ 17 0) + (τ 10 (slo (τ 17 0)) - 1))) 1) 35 (ρ 23 (12 * slo (τ 17 0) + (τ 10 (slo (τ 17 0)) - 1))) d) 36 (ρ 23 (12 * slo (τ 17 0) + (τ 10 (slo (τ 17 0)) - 1))) (jd (ts τ 14 (12 * slo (τ 17 0) + (τ 10 (slo (τ 17 0)) - 1)) d) (12 * slo (τ 17 0) + (τ 10 (slo (τ 17 0)) - 1)))) (slo (τ 17 0)) s (pI (tch (ts τ 14 (12 * slo (τ 17 0) + (τ 10 (slo (τ 17 0)) - 1)) d) (slo (τ 17 0)) (τ 10 (slo (τ 17 0)) - 1) = tch τ (slo (τ 17 0)) (τ 10 (slo (τ 17 0)) - 1)))) by rw [pI_f c_137, au_0]) ?_
                         exact J_sub hj145 (And.intro rfl (And.intro rfl (And.intro rfl (And.intro rfl (And.intro rfl (And.intro rfl (And.intro rfl trivial))))))))
                      | (refine Z_h (M := mX7_appeal) (show _ = hk h (au (ts (ts (ts ρ 34 (ρ 23 (12 * slo (τ 17 0) + (τ 10 (slo (τ 17 0)) - 1))) 1) 35 (ρ 23 (12 * slo (τ 17 0) + (τ 10 (slo (τ 17 0)) - 1))) d) 36 (ρ 23 (12 * slo (τ 17 0) + (τ 10 (slo (τ 17 0)) - 1))) (jd (ts τ 14 (12 * slo (τ 17 0) + (τ 10 (slo (τ 17 0)) - 1)) d) (12 * slo (τ 17 0) + (τ 10 (slo (τ 17 0)) - 1)))) (slo (τ 17 0)) s (pI (tch (ts τ 14 (12 * slo (τ 17 0) + (τ 10 (slo (τ 17 0)) - 1)) d) (slo (τ 17 0)) (τ 10 (slo (τ 17 0)) - 1) = tch τ (slo (τ 17 0)) (τ 10 (slo (τ 17 0)) - 1)))) by rw [pI_t c_137]; rfl) ?_
                         exact J_sub hj145 (And.intro rfl (And.intro rfl (And.intro rfl (And.intro rfl (And.intro rfl (And.intro rfl (And.intro rfl trivial))))))))
                · refine K_thr (M := mX7_appeal) rfl rfl ti_60_238_64 (by decide) (by decide) (by decide) (by decide) (Or.inl ⟨dX7_appeal_101, dX7_appeal_104, dX7_appeal_105, dX7_appeal_107, dX7_appeal_110⟩) ?_
                  first
                    | exact EM_1 (pI_f (by omega)) rfl
                    | exact EM_2 (pI_n0.mpr (by omega)) (pI_f (by omega)) rfl
                    | exact EM_3 (pI_n0.mpr (by omega)) (pI_n0.mpr (by omega)) (pI_f (by omega)) rfl
            · refine K_thr (M := mX7_appeal) rfl rfl ti_60_229_64 (by decide) (by decide) (by decide) (by decide) (Or.inl ⟨dX7_appeal_66, dX7_appeal_69, dX7_appeal_70, dX7_appeal_72, dX7_appeal_75⟩) ?_
              first
                | exact EM_1 (pI_f (by omega)) rfl
                | exact EM_2 (pI_n0.mpr (by omega)) (pI_f (by omega)) rfl
                | exact EM_3 (pI_n0.mpr (by omega)) (pI_n0.mpr (by omega)) (pI_f (by omega)) rfl
      · refine K_thr (M := mX7_appeal) rfl rfl ti_93_227_97 (by decide) (by decide) (by decide) (by decide) (Or.inl ⟨dX7_appeal_24, dX7_appeal_27, dX7_appeal_28, dX7_appeal_30, dX7_appeal_33⟩) ?_
        first
          | exact EM_1 (pI_f (by omega)) rfl
          | exact EM_2 (pI_n0.mpr (by omega)) (pI_f (by omega)) rfl
          | exact EM_3 (pI_n0.mpr (by omega)) (pI_n0.mpr (by omega)) (pI_f (by omega)) rfl
    · refine K_thr (M := mX7_appeal) rfl rfl ti_74_179_78 (by decide) (by decide) (by decide) (by decide) (Or.inl ⟨dX7_appeal_7, dX7_appeal_10, dX7_appeal_11, dX7_appeal_13, dX7_appeal_16⟩) ?_
      first
        | exact EM_1 (pI_f (by omega)) rfl
        | exact EM_2 (pI_n0.mpr (by omega)) (pI_f (by omega)) rfl
        | exact EM_3 (pI_n0.mpr (by omega)) (pI_n0.mpr (by omega)) (pI_f (by omega)) rfl
  · have hlv := (SN_live W h3).2.2
    have p0 := h8.1
    clear h3
    refine J_iload_n (M := mX7_appeal) dX7_appeal_0 rfl rfl ?_
    refine M_callS (M := mX7_appeal) (as := [_]) dX7_appeal_1 ca_X7_144 ⟨by decide, by decide⟩ rfl (Nat.le_of_ble_eq_true rfl) rfl rfl (kX7_isSide (by first | assumption | exact pI_rg _ | (unfold rg; omega))) ?_
    first
      | refine Z_pt (M := mX7_appeal) (tgt := 17) dX7_appeal_4 (by decide) (fun c_4 => ?_) (fun c_4 => ?_)
      | refine Z_if_ne (M := mX7_appeal) (tgt := 17) (by first | assumption | exact pI_rg _ | (unfold rg; omega)) dX7_appeal_4 (by decide) (fun c_4 => ?_) (fun c_4 => ?_)
    · refine J_iload_n (M := mX7_appeal) dX7_appeal_17 rfl rfl ?_
      refine M_callS (M := mX7_appeal) (as := [_]) dX7_appeal_18 ca_X7_198 ⟨by decide, by decide⟩ rfl (Nat.le_of_ble_eq_true rfl) rfl rfl (kX7_isSideOrNone (by first | assumption | exact pI_rg _ | (unfold rg; omega))) ?_
      first
        | refine Z_pt (M := mX7_appeal) (tgt := 34) dX7_appeal_21 (by decide) (fun c_21 => ?_) (fun c_21 => ?_)
        | refine Z_if_ne (M := mX7_appeal) (tgt := 34) (by first | assumption | exact pI_rg _ | (unfold rg; omega)) dX7_appeal_21 (by decide) (fun c_21 => ?_) (fun c_21 => ?_)
      · refine J_aload_n (M := mX7_appeal) dX7_appeal_34 rfl rfl ?_
        refine J_getf (M := mX7_appeal) dX7_appeal_35 fi_X7_30 (hk_1 (by first | exact rfl | assumption | exact Or.inl (by assumption) | exact Or.inr rfl | (show 0 ≤ _ ∧ _ < _; omega))) rfl ?_
        refine J_getf (M := mX7_appeal) dX7_appeal_38 fi_X7_149 (hk_5 (by first | exact rfl | assumption | exact Or.inl (by assumption) | exact Or.inr rfl | (show 0 ≤ _ ∧ _ < _; omega))) rfl ?_
        refine Z_rwb (M := mX7_appeal) (g := ρ 38) (wk38 V) rfl (fun wb_38_9 => ?_)
        first | refine Z_some (M := mX7_appeal) (by omega) ?_ | skip
        refine J_astore_n (M := mX7_appeal) dX7_appeal_41 rfl (by decide) ?_
        refine J_aload_n (M := mX7_appeal) dX7_appeal_42 rfl rfl ?_
        first | refine Z_some (M := mX7_appeal) (by omega) ?_ | skip
        first | refine Z_uns (M := mX7_appeal) (by omega) ?_ | skip
        refine K_ifnull (tgt := 66) dX7_appeal_43 (by decide) (fun c_43 => ?_) (fun c_43 => ?_)
        · omega
        · refine J_aload_n (M := mX7_appeal) dX7_appeal_46 rfl rfl ?_
          refine J_getf (M := mX7_appeal) dX7_appeal_47 fi_X7_30 (hk_1 (by first | exact rfl | assumption | exact Or.inl (by assumption) | exact Or.inr rfl | (show 0 ≤ _ ∧ _ < _; omega))) rfl ?_
          refine J_getf (M := mX7_appeal) dX7_appeal_50 fi_X7_101 (hk_5 (by first | exact rfl | assumption | exact Or.inl (by assumption) | exact Or.inr rfl | (show 0 ≤ _ ∧ _ < _; omega))) rfl ?_
          refine Z_rwb (M := mX7_appeal) (g := ρ 41) (wk41 V) rfl (fun wb_41_19 => ?_)
          first | refine Z_some (M := mX7_appeal) (by omega) ?_ | skip
          first | refine Z_uns (M := mX7_appeal) (by omega) ?_ | skip
          refine K_ifnonnull (tgt := 66) dX7_appeal_53 (by decide) (fun c_53 => ?_) (fun c_53 => ?_)
          · refine K_thr (M := mX7_appeal) rfl rfl ti_60_229_64 (by decide) (by decide) (by decide) (by decide) (Or.inl ⟨dX7_appeal_66, dX7_appeal_69, dX7_appeal_70, dX7_appeal_72, dX7_appeal_75⟩) ?_
            first
              | exact EM_1 (pI_f (by omega)) rfl
              | exact EM_2 (pI_n0.mpr (by omega)) (pI_f (by omega)) rfl
              | exact EM_3 (pI_n0.mpr (by omega)) (pI_n0.mpr (by omega)) (pI_f (by omega)) rfl
          · omega
      · refine K_thr (M := mX7_appeal) rfl rfl ti_93_227_97 (by decide) (by decide) (by decide) (by decide) (Or.inl ⟨dX7_appeal_24, dX7_appeal_27, dX7_appeal_28, dX7_appeal_30, dX7_appeal_33⟩) ?_
        first
          | exact EM_1 (pI_f (by omega)) rfl
          | exact EM_2 (pI_n0.mpr (by omega)) (pI_f (by omega)) rfl
          | exact EM_3 (pI_n0.mpr (by omega)) (pI_n0.mpr (by omega)) (pI_f (by omega)) rfl
    · refine K_thr (M := mX7_appeal) rfl rfl ti_74_179_78 (by decide) (by decide) (by decide) (by decide) (Or.inl ⟨dX7_appeal_7, dX7_appeal_10, dX7_appeal_11, dX7_appeal_13, dX7_appeal_16⟩) ?_
      first
        | exact EM_1 (pI_f (by omega)) rfl
        | exact EM_2 (pI_n0.mpr (by omega)) (pI_f (by omega)) rfl
        | exact EM_3 (pI_n0.mpr (by omega)) (pI_n0.mpr (by omega)) (pI_f (by omega)) rfl
