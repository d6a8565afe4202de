/-! THE CLASS: new objects -/
theorem hup_2 {h : LH} {t : Tg} {c c' : LC} : hup (hup h t c) t c' = hup h t c' := by
  funext u
  unfold hup
  split <;> rfl
theorem hup_cm {h : LH} {t u : Tg} {c d : LC} (e : t ≠ u) : hup (hup h t c) u d = hup (hup h u d) t c := by
  funext x
  unfold hup
  by_cases q : x = u
  · rw [if_pos q, if_neg (fun z => e (z.symm.trans q)), if_pos q]
  · rw [if_neg q, if_neg q]
theorem tg_ne {a b : Nat} {i j : Int} (h : a ≠ b) : ((a, i) : Tg) ≠ (b, j) := fun e => h (congrArg Prod.fst e)
theorem hk_same {h : LH} {ρ ρ' : TS} {a : Nat} {i : Int} (hc : CE ρ' a i ↔ CE ρ a i) (hv : CE ρ a i → CC ρ' a i = CC ρ a i) : hk h ρ' (a, i) = hk h ρ (a, i) := by
  unfold hk
  by_cases q : 1 ≤ a ∧ a ≤ 19
  · rw [if_pos q, if_pos q]
    unfold HK
    by_cases z : CE ρ a i
    · rw [if_pos z, if_pos (hc.mpr z), hv z]
    · rw [if_neg z, if_neg (fun y => z (hc.mp y))]
  · rw [if_neg q, if_neg q]
theorem CC_q {ρ ρ' : TS} {a : Nat} {j : Int} (q : ∀ g, ow g = a → ρ' g = ρ g) : CC ρ' a j = CC ρ a j := by
  by_cases h0 : a < 20
  · have hc : a = 0 ∨ a = 1 ∨ a = 2 ∨ a = 3 ∨ a = 4 ∨ a = 5 ∨ a = 6 ∨ a = 7 ∨ a = 8 ∨ a = 9 ∨ a = 10 ∨ a = 11 ∨ a = 12 ∨ a = 13 ∨ a = 14 ∨ a = 15 ∨ a = 16 ∨ a = 17 ∨ a = 18 ∨ a = 19 := by omega
    rcases hc with rfl | rfl | rfl | rfl | rfl | rfl | rfl | rfl | rfl | rfl | rfl | rfl | rfl | rfl | rfl | rfl | rfl | rfl | rfl | rfl
    · rfl
    · unfold CC; simp only [q 0 rfl, q 1 rfl, q 2 rfl, q 3 rfl]
    · unfold CC; simp only [q 4 rfl]
    · unfold CC; simp only [q 5 rfl]
    · unfold CC; simp only [q 6 rfl]
    · unfold CC; simp only [q 37 rfl, q 38 rfl, q 39 rfl, q 40 rfl, q 41 rfl, q 42 rfl]
    · unfold CC; simp only [q 43 rfl, q 44 rfl]
    · unfold CC; simp only [q 45 rfl]
    · unfold CC; simp only [q 46 rfl]
    · unfold CC; simp only [q 7 rfl]
    · rfl
    · unfold CC; simp only [q 8 rfl, q 9 rfl, q 10 rfl, q 11 rfl, q 12 rfl]
    · unfold CC; simp only [q 13 rfl, q 14 rfl, q 15 rfl, q 16 rfl]
    · unfold CC; simp only [q 17 rfl, q 18 rfl, q 19 rfl, q 20 rfl, q 21 rfl, q 22 rfl]
    · unfold CC; simp only [q 23 rfl]
    · unfold CC; simp only [q 24 rfl, q 25 rfl, q 26 rfl]
    · unfold CC; simp only [q 27 rfl, q 28 rfl, q 29 rfl, q 33 rfl, q 34 rfl, q 35 rfl, q 36 rfl]
    · unfold CC; simp only [q 30 rfl]
    · unfold CC; simp only [q 31 rfl]
    · unfold CC; simp only [q 32 rfl]
  · have e : a = (a - 20) + 20 := by omega
    rw [e]
    rfl
theorem CE_q {ρ ρ' : TS} {a : Nat} {j : Int} (h0 : ρ' 47 0 = ρ 47 0 ∨ a ≠ 11) (h1 : ρ' 47 1 = ρ 47 1 ∨ a ≠ 12) (h2 : ρ' 47 2 = ρ 47 2 ∨ a < 16 ∨ 19 < a) (h3 : ρ' 48 = ρ 48 ∨ a < 13 ∨ 15 < a) : CE ρ' a j ↔ CE ρ a j := by
  by_cases q : a < 20
  · have hc : a = 0 ∨ a = 1 ∨ a = 2 ∨ a = 3 ∨ a = 4 ∨ a = 5 ∨ a = 6 ∨ a = 7 ∨ a = 8 ∨ a = 9 ∨ a = 10 ∨ a = 11 ∨ a = 12 ∨ a = 13 ∨ a = 14 ∨ a = 15 ∨ a = 16 ∨ a = 17 ∨ a = 18 ∨ a = 19 := by omega
    rcases hc with rfl | rfl | rfl | rfl | rfl | rfl | rfl | rfl | rfl | rfl | rfl | rfl | rfl | rfl | rfl | rfl | rfl | rfl | rfl | rfl
    · exact Iff.rfl
    · exact Iff.rfl
    · exact Iff.rfl
    · exact Iff.rfl
    · exact Iff.rfl
    · exact Iff.rfl
    · exact Iff.rfl
    · exact Iff.rfl
    · exact Iff.rfl
    · exact Iff.rfl
    · exact Iff.rfl
    · have e := h0.resolve_right (fun z => z rfl)
      show (0 ≤ j ∧ j < ρ' 47 0) ↔ (0 ≤ j ∧ j < ρ 47 0)
      rw [e]
    · have e := h1.resolve_right (fun z => z rfl)
      show (0 ≤ j ∧ j < ρ' 47 1) ↔ (0 ≤ j ∧ j < ρ 47 1)
      rw [e]
    · have e := h3.resolve_right (by decide)
      show ρ' 48 j = 1 ↔ ρ 48 j = 1
      rw [e]
    · have e := h3.resolve_right (by decide)
      show ρ' 48 j = 1 ↔ ρ 48 j = 1
      rw [e]
    · have e := h3.resolve_right (by decide)
      show (ρ' 48 j = 1 ∨ j = 82) ↔ (ρ 48 j = 1 ∨ j = 82)
      rw [e]
    · have e := h2.resolve_right (by decide)
      show (0 ≤ j ∧ j < ρ' 47 2) ↔ (0 ≤ j ∧ j < ρ 47 2)
      rw [e]
    · have e := h2.resolve_right (by decide)
      show (0 ≤ j ∧ j < ρ' 47 2) ↔ (0 ≤ j ∧ j < ρ 47 2)
      rw [e]
    · have e := h2.resolve_right (by decide)
      show (0 ≤ j ∧ j < ρ' 47 2) ↔ (0 ≤ j ∧ j < ρ 47 2)
      rw [e]
    · have e := h2.resolve_right (by decide)
      show (0 ≤ j ∧ j < ρ' 47 2) ↔ (0 ≤ j ∧ j < ρ 47 2)
      rw [e]
  · have e : a = (a - 20) + 20 := by omega
    rw [e]
    exact Iff.rfl
theorem hk_49 {h : LH} {ρ : TS} (i x : Int) : hk h ρ = hk h (ts ρ 49 i x) := by
  funext t
  obtain ⟨a, j⟩ := t
  refine (hk_same (ρ := ρ) (ρ' := ts ρ 49 i x) (CE_q (Or.inl rfl) (Or.inl rfl) (Or.inl rfl) (Or.inl rfl)) (fun _ => ?_)).symm
  by_cases q : 1 ≤ a
  · refine CC_q (fun g hg => ts_n (fun e => ?_))
    rw [e] at hg
    have : (0 : Nat) = a := hg
    omega
  · have e : a = 0 := by omega
    rw [e]
    rfl
/-- a new fencer, a new weapon: all is 0 at first -/
def nfc (ρ : TS) : TS := ts (ts (ts (ts (ts (ts ρ 8 (ρ 47 0) 0) 9 (ρ 47 0) 0) 10 (ρ 47 0) 0) 11 (ρ 47 0) 0) 12 (ρ 47 0) 0) 47 0 (ρ 47 0 + 1)
def nwp (ρ : TS) : TS := ts (ts (ts (ts (ts ρ 13 (ρ 47 1) 0) 14 (ρ 47 1) 0) 15 (ρ 47 1) 0) 16 (ρ 47 1) 0) 47 1 (ρ 47 1 + 1)
theorem nfc_k {ρ : TS} {k : Nat} (h : ¬ (8 ≤ k ∧ k ≤ 12) ∧ ¬ k = 47) : nfc ρ k = ρ k := by
  unfold nfc
  rw [ts_n (by omega), ts_n (by omega), ts_n (by omega), ts_n (by omega), ts_n (by omega), ts_n (by omega)]
theorem nwp_k {ρ : TS} {k : Nat} (h : ¬ (13 ≤ k ∧ k ≤ 16) ∧ ¬ k = 47) : nwp ρ k = ρ k := by
  unfold nwp
  rw [ts_n (by omega), ts_n (by omega), ts_n (by omega), ts_n (by omega), ts_n (by omega)]
theorem ow_0 {g a : Nat} (h : ow g = a) (ha : 1 ≤ a) (S : List Nat) (hS : S.all (fun k => decide (¬ ow k = a)) = true) : ¬ g ∈ S := fun hg => by
  have := List.all_eq_true.mp hS g hg
  exact absurd h (of_decide_eq_true this)
theorem vI0 : vI 0 = vI (iI 0) := by rw [iI_0]
theorem nfc_e {h : LH} {ρ : TS} (h0 : 0 ≤ ρ 47 0) : hup (hk h ρ) (11, ρ 47 0) (cO 1 [vI 0, vI 0, vI 0, vI 0, vI 0]) = hk h (nfc ρ) := by
  have e0 : nfc ρ 47 0 = ρ 47 0 + 1 := rfl
  funext t
  obtain ⟨a, i⟩ := t
  by_cases q : a = 11 ∧ i = ρ 47 0
  · obtain ⟨rfl, rfl⟩ := q
    rw [hup_s, hk_11 (show 0 ≤ ρ 47 0 ∧ ρ 47 0 < nfc ρ 47 0 by omega)]
    have e8 : nfc ρ 8 (ρ 47 0) = 0 := by unfold nfc; rw [tsN (by decide), tsN (by decide), tsN (by decide), tsN (by decide), tsN (by decide), ts_self]
    have e9 : nfc ρ 9 (ρ 47 0) = 0 := by unfold nfc; rw [tsN (by decide), tsN (by decide), tsN (by decide), tsN (by decide), ts_self]
    have e10 : nfc ρ 10 (ρ 47 0) = 0 := by unfold nfc; rw [tsN (by decide), tsN (by decide), tsN (by decide), ts_self]
    have e11 : nfc ρ 11 (ρ 47 0) = 0 := by unfold nfc; rw [tsN (by decide), tsN (by decide), ts_self]
    have e12 : nfc ρ 12 (ρ 47 0) = 0 := by unfold nfc; rw [tsN (by decide), ts_self]
    rw [e8, e9, e10, e11, e12, vI0]
  · rw [hup_n (fun e => q ⟨congrArg Prod.fst e, congrArg Prod.snd e⟩)]
    refine (hk_same ?_ (fun hE => ?_)).symm
    · by_cases z : a = 11
      · subst z
        show (0 ≤ i ∧ i < nfc ρ 47 0) ↔ (0 ≤ i ∧ i < ρ 47 0)
        omega
      · exact CE_q (Or.inr z) (Or.inl rfl) (Or.inl rfl) (Or.inl rfl)
    · by_cases z : a = 11
      · subst z
        have hi : ¬ i = ρ 47 0 := fun e => q ⟨rfl, e⟩
        unfold CC nfc
        simp only [tsN (show (8 : Nat) ≠ 9 by decide), tsN (show (8 : Nat) ≠ 10 by decide), tsN (show (8 : Nat) ≠ 11 by decide), tsN (show (8 : Nat) ≠ 12 by decide), tsN (show (8 : Nat) ≠ 47 by decide), tsN (show (9 : Nat) ≠ 8 by decide), tsN (show (9 : Nat) ≠ 10 by decide), tsN (show (9 : Nat) ≠ 11 by decide), tsN (show (9 : Nat) ≠ 12 by decide), tsN (show (9 : Nat) ≠ 47 by decide), tsN (show (10 : Nat) ≠ 8 by decide), tsN (show (10 : Nat) ≠ 9 by decide), tsN (show (10 : Nat) ≠ 11 by decide), tsN (show (10 : Nat) ≠ 12 by decide), tsN (show (10 : Nat) ≠ 47 by decide), tsN (show (11 : Nat) ≠ 8 by decide), tsN (show (11 : Nat) ≠ 9 by decide), tsN (show (11 : Nat) ≠ 10 by decide), tsN (show (11 : Nat) ≠ 12 by decide), tsN (show (11 : Nat) ≠ 47 by decide), tsN (show (12 : Nat) ≠ 8 by decide), tsN (show (12 : Nat) ≠ 9 by decide), tsN (show (12 : Nat) ≠ 10 by decide), tsN (show (12 : Nat) ≠ 11 by decide), tsN (show (12 : Nat) ≠ 47 by decide), ts_else hi]
      · by_cases z2 : 1 ≤ a
        · refine CC_q (fun g hg => nfc_k ?_)
          have hn := ow_0 hg z2 [8, 9, 10, 11, 12, 47]
          by_cases z3 : [8, 9, 10, 11, 12, 47].all (fun k => decide (¬ ow k = a)) = true
          · have := hn z3
            simp only [List.mem_cons, List.not_mem_nil, or_false, not_or] at this
            omega
          · exfalso
            refine z3 ?_
            have e11 : ∀ k, (k = 8 ∨ k = 9 ∨ k = 10 ∨ k = 11 ∨ k = 12) → ow k = 11 := fun k hk => by rcases hk with rfl | rfl | rfl | rfl | rfl <;> rfl
            have e47 : ow 47 = 0 := rfl
            simp only [List.all_cons, List.all_nil, e11 8 (by decide), e11 9 (by decide), e11 10 (by decide), e11 11 (by decide), e11 12 (by decide), e47]
            have : ¬ 11 = a := fun e => z e.symm
            have : ¬ 0 = a := by omega
            simp [*]
        · have e : a = 0 := by omega
          rw [e]
          rfl
theorem nwp_e {h : LH} {ρ : TS} (h0 : 0 ≤ ρ 47 1) : hup (hk h ρ) (12, ρ 47 1) (cO 6 [vI 0, vI 0, vI 0, vI 0]) = hk h (nwp ρ) := by
  have e0 : nwp ρ 47 1 = ρ 47 1 + 1 := rfl
  funext t
  obtain ⟨a, i⟩ := t
  by_cases q : a = 12 ∧ i = ρ 47 1
  · obtain ⟨rfl, rfl⟩ := q
    rw [hup_s, hk_12 (show 0 ≤ ρ 47 1 ∧ ρ 47 1 < nwp ρ 47 1 by omega)]
    have e9 : nwp ρ 13 (ρ 47 1) = 0 := by unfold nwp; rw [tsN (by decide), tsN (by decide), tsN (by decide), tsN (by decide), ts_self]
    have e10 : nwp ρ 14 (ρ 47 1) = 0 := by unfold nwp; rw [tsN (by decide), tsN (by decide), tsN (by decide), ts_self]
    have e11 : nwp ρ 15 (ρ 47 1) = 0 := by unfold nwp; rw [tsN (by decide), tsN (by decide), ts_self]
    have e12 : nwp ρ 16 (ρ 47 1) = 0 := by unfold nwp; rw [tsN (by decide), ts_self]
    rw [e9, e10, e11, e12, vI0]
  · rw [hup_n (fun e => q ⟨congrArg Prod.fst e, congrArg Prod.snd e⟩)]
    refine (hk_same ?_ (fun hE => ?_)).symm
    · by_cases z : a = 12
      · subst z
        show (0 ≤ i ∧ i < nwp ρ 47 1) ↔ (0 ≤ i ∧ i < ρ 47 1)
        omega
      · exact CE_q (Or.inl rfl) (Or.inr z) (Or.inl rfl) (Or.inl rfl)
    · by_cases z : a = 12
      · subst z
        have hi : ¬ i = ρ 47 1 := fun e => q ⟨rfl, e⟩
        unfold CC nwp
        simp only [tsN (show (13 : Nat) ≠ 14 by decide), tsN (show (13 : Nat) ≠ 15 by decide), tsN (show (13 : Nat) ≠ 16 by decide), tsN (show (13 : Nat) ≠ 47 by decide), tsN (show (14 : Nat) ≠ 13 by decide), tsN (show (14 : Nat) ≠ 15 by decide), tsN (show (14 : Nat) ≠ 16 by decide), tsN (show (14 : Nat) ≠ 47 by decide), tsN (show (15 : Nat) ≠ 13 by decide), tsN (show (15 : Nat) ≠ 14 by decide), tsN (show (15 : Nat) ≠ 16 by decide), tsN (show (15 : Nat) ≠ 47 by decide), tsN (show (16 : Nat) ≠ 13 by decide), tsN (show (16 : Nat) ≠ 14 by decide), tsN (show (16 : Nat) ≠ 15 by decide), tsN (show (16 : Nat) ≠ 47 by decide), ts_else hi]
      · by_cases z2 : 1 ≤ a
        · refine CC_q (fun g hg => nwp_k ?_)
          have e11 : ∀ k, (k = 13 ∨ k = 14 ∨ k = 15 ∨ k = 16) → ow k = 12 := fun k hk => by rcases hk with rfl | rfl | rfl | rfl <;> rfl
          have e47 : ow 47 = 0 := rfl
          have n1 : ¬ (g = 13 ∨ g = 14 ∨ g = 15 ∨ g = 16) := fun hg2 => z ((e11 g hg2).symm.trans hg).symm
          have n2 : ¬ g = 47 := fun e => by rw [e, e47] at hg; omega
          omega
        · have e : a = 0 := by omega
          rw [e]
          rfl
def zr8 (g : Int → Int) (i : Int) : Int → Int := fun z => if 8 * i ≤ z ∧ z < 8 * i + 8 then 0 else g z
/-- a new phrase -/
def nph (ρ : TS) (F v w : Int) : TS := ts (ts (ts (ts (ts (ts (ts (ts (fs (fs (fs ρ 30 (zr8 (ρ 30) (ρ 47 2))) 31 (zr8 (ρ 31) (ρ 47 2))) 32 (zr8 (ρ 32) (ρ 47 2))) 27 (ρ 47 2) F) 28 (ρ 47 2) v) 29 (ρ 47 2) w) 33 (ρ 47 2) 0) 34 (ρ 47 2) 0) 35 (ρ 47 2) (-1)) 36 (ρ 47 2) 0) 47 2 (ρ 47 2 + 1)
theorem nph_k {ρ : TS} {F v w : Int} {k : Nat} (h : ¬ (27 ≤ k ∧ k ≤ 36) ∧ ¬ k = 47) : nph ρ F v w k = ρ k := by
  unfold nph
  rw [ts_n (by omega), ts_n (by omega), ts_n (by omega), ts_n (by omega), ts_n (by omega), ts_n (by omega), ts_n (by omega), ts_n (by omega), fs_n (by omega), fs_n (by omega), fs_n (by omega)]
theorem nph_27 {ρ : TS} {F v w : Int} : nph ρ F v w 27 = upZ (ρ 27) (ρ 47 2) F := by
  unfold nph
  rw [ts_n (by decide), ts_n (by decide), ts_n (by decide), ts_n (by decide), ts_n (by decide), ts_n (by decide), ts_n (by decide), ts_s, fs_n (by decide), fs_n (by decide), fs_n (by decide)]
theorem nph_28 {ρ : TS} {F v w : Int} : nph ρ F v w 28 = upZ (ρ 28) (ρ 47 2) v := by
  unfold nph
  rw [ts_n (by decide), ts_n (by decide), ts_n (by decide), ts_n (by decide), ts_n (by decide), ts_n (by decide), ts_s, ts_n (by decide), fs_n (by decide), fs_n (by decide), fs_n (by decide)]
theorem nph_29 {ρ : TS} {F v w : Int} : nph ρ F v w 29 = upZ (ρ 29) (ρ 47 2) w := by
  unfold nph
  rw [ts_n (by decide), ts_n (by decide), ts_n (by decide), ts_n (by decide), ts_n (by decide), ts_s, ts_n (by decide), ts_n (by decide), fs_n (by decide), fs_n (by decide), fs_n (by decide)]
theorem nph_33 {ρ : TS} {F v w : Int} : nph ρ F v w 33 = upZ (ρ 33) (ρ 47 2) 0 := by
  unfold nph
  rw [ts_n (by decide), ts_n (by decide), ts_n (by decide), ts_n (by decide), ts_s, ts_n (by decide), ts_n (by decide), ts_n (by decide), fs_n (by decide), fs_n (by decide), fs_n (by decide)]
theorem nph_34 {ρ : TS} {F v w : Int} : nph ρ F v w 34 = upZ (ρ 34) (ρ 47 2) 0 := by
  unfold nph
  rw [ts_n (by decide), ts_n (by decide), ts_n (by decide), ts_s, ts_n (by decide), ts_n (by decide), ts_n (by decide), ts_n (by decide), fs_n (by decide), fs_n (by decide), fs_n (by decide)]
theorem nph_35 {ρ : TS} {F v w : Int} : nph ρ F v w 35 = upZ (ρ 35) (ρ 47 2) (-1) := by
  unfold nph
  rw [ts_n (by decide), ts_n (by decide), ts_s, ts_n (by decide), ts_n (by decide), ts_n (by decide), ts_n (by decide), ts_n (by decide), fs_n (by decide), fs_n (by decide), fs_n (by decide)]
theorem nph_36 {ρ : TS} {F v w : Int} : nph ρ F v w 36 = upZ (ρ 36) (ρ 47 2) 0 := by
  unfold nph
  rw [ts_n (by decide), ts_s, ts_n (by decide), ts_n (by decide), ts_n (by decide), ts_n (by decide), ts_n (by decide), ts_n (by decide), fs_n (by decide), fs_n (by decide), fs_n (by decide)]
theorem nph_30 {ρ : TS} {F v w : Int} : nph ρ F v w 30 = zr8 (ρ 30) (ρ 47 2) ∧ nph ρ F v w 31 = zr8 (ρ 31) (ρ 47 2) ∧ nph ρ F v w 32 = zr8 (ρ 32) (ρ 47 2) := by
  unfold nph
  refine ⟨?_, ?_, ?_⟩
  · rw [ts_n (by decide), ts_n (by decide), ts_n (by decide), ts_n (by decide), ts_n (by decide), ts_n (by decide), ts_n (by decide), ts_n (by decide), fs_n (by decide), fs_n (by decide), fs_s]
  · rw [ts_n (by decide), ts_n (by decide), ts_n (by decide), ts_n (by decide), ts_n (by decide), ts_n (by decide), ts_n (by decide), ts_n (by decide), fs_n (by decide), fs_s]
  · rw [ts_n (by decide), ts_n (by decide), ts_n (by decide), ts_n (by decide), ts_n (by decide), ts_n (by decide), ts_n (by decide), ts_n (by decide), fs_s]
theorem zr8_in {g : Int → Int} {i : Int} : subd 0 8 (zr8 g i) (8 * i) = fun _ => 0 := by
  funext z
  unfold subd zr8
  split
  · rw [if_pos (by omega)]
  · rfl
theorem zr8_ot {g : Int → Int} {i j : Int} (h : ¬ j = i) : subd 0 8 (zr8 g i) (8 * j) = subd 0 8 g (8 * j) := by
  funext z
  unfold subd zr8
  split
  · rw [if_neg (by omega)]
  · rfl
theorem nph_e {h : LH} {ρ : TS} {F v w : Int} (h0 : 0 ≤ ρ 47 2) (hv : 0 ≤ v) (hw : 0 ≤ w) : hup (hup (hup (hup (hk h ρ) (17, ρ 47 2) (cI 0 8 (fun _ => 0))) (18, ρ 47 2) (cI 0 8 (fun _ => 0))) (19, ρ 47 2) (cI 0 8 (fun _ => 0))) (16, ρ 47 2) (cO 2 [vI (iI F), vR (some (12, v)), vR (some (12, w)), vR (some (17, ρ 47 2)), vR (some (18, ρ 47 2)), vR (some (19, ρ 47 2)), vI 0, vI 0, vI (iI (-1)), vI 0]) = hk h (nph ρ F v w) := by
  have e0 : nph ρ F v w 47 2 = ρ 47 2 + 1 := rfl
  have hE : 0 ≤ ρ 47 2 ∧ ρ 47 2 < nph ρ F v w 47 2 := by omega
  funext t
  obtain ⟨a, i⟩ := t
  by_cases q16 : a = 16 ∧ i = ρ 47 2
  · obtain ⟨rfl, rfl⟩ := q16
    rw [hup_s, hk_16 hE, nph_27, nph_28, nph_29, nph_33, nph_34, nph_35, nph_36, upZ_at, upZ_at, upZ_at, upZ_at, upZ_at, upZ_at, upZ_at, rfo_p hv, rfo_p hw, vI0]
  rw [hup_n (fun e => q16 ⟨congrArg Prod.fst e, congrArg Prod.snd e⟩)]
  by_cases q19 : a = 19 ∧ i = ρ 47 2
  · obtain ⟨rfl, rfl⟩ := q19
    rw [hup_s, hk_19 hE, nph_30.2.2, zr8_in, arr_0]
  rw [hup_n (fun e => q19 ⟨congrArg Prod.fst e, congrArg Prod.snd e⟩)]
  by_cases q18 : a = 18 ∧ i = ρ 47 2
  · obtain ⟨rfl, rfl⟩ := q18
    rw [hup_s, hk_18 hE, nph_30.2.1, zr8_in, arr_0]
  rw [hup_n (fun e => q18 ⟨congrArg Prod.fst e, congrArg Prod.snd e⟩)]
  by_cases q17 : a = 17 ∧ i = ρ 47 2
  · obtain ⟨rfl, rfl⟩ := q17
    rw [hup_s, hk_17 hE, nph_30.1, zr8_in, arr_0]
  rw [hup_n (fun e => q17 ⟨congrArg Prod.fst e, congrArg Prod.snd e⟩)]
  by_cases z : a = 16 ∨ a = 17 ∨ a = 18 ∨ a = 19
  · have hi : ¬ i = ρ 47 2 := fun e => by
      rcases z with z | z | z | z
      · exact q16 ⟨z, e⟩
      · exact q17 ⟨z, e⟩
      · exact q18 ⟨z, e⟩
      · exact q19 ⟨z, e⟩
    have hce : (0 ≤ i ∧ i < nph ρ F v w 47 2) ↔ (0 ≤ i ∧ i < ρ 47 2) := by omega
    rcases z with rfl | rfl | rfl | rfl
    · refine (hk_same (show CE (nph ρ F v w) 16 i ↔ CE ρ 16 i from hce) (fun _ => ?_)).symm
      unfold CC
      simp only [nph_27, nph_28, nph_29, nph_33, nph_34, nph_35, nph_36, upZ_ne hi]
    · refine (hk_same (show CE (nph ρ F v w) 17 i ↔ CE ρ 17 i from hce) (fun _ => ?_)).symm
      unfold CC
      simp only [nph_30.1, zr8_ot hi]
    · refine (hk_same (show CE (nph ρ F v w) 18 i ↔ CE ρ 18 i from hce) (fun _ => ?_)).symm
      unfold CC
      simp only [nph_30.2.1, zr8_ot hi]
    · refine (hk_same (show CE (nph ρ F v w) 19 i ↔ CE ρ 19 i from hce) (fun _ => ?_)).symm
      unfold CC
      simp only [nph_30.2.2, zr8_ot hi]
  · have hlt : a < 16 ∨ 19 < a := by omega
    refine (hk_same (ρ := ρ) (ρ' := nph ρ F v w) (a := a) (i := i) (CE_q (Or.inl rfl) (Or.inl rfl) (Or.inr hlt) (Or.inl (nph_k (by decide)))) (fun _ => ?_)).symm
    by_cases z2 : 1 ≤ a
    · refine CC_q (fun g hg => nph_k ?_)
      have f16 : ∀ k, (k = 27 ∨ k = 28 ∨ k = 29 ∨ k = 33 ∨ k = 34 ∨ k = 35 ∨ k = 36) → ow k = 16 := fun k hk => by rcases hk with rfl | rfl | rfl | rfl | rfl | rfl | rfl <;> rfl
      have n1 : ¬ (g = 27 ∨ g = 28 ∨ g = 29 ∨ g = 33 ∨ g = 34 ∨ g = 35 ∨ g = 36) := fun hg2 => z (Or.inl ((f16 g hg2).symm.trans hg).symm)
      have n2 : ¬ g = 47 := fun e => by rw [e, show ow 47 = 0 from rfl] at hg; omega
      have n3 : ¬ g = 30 := fun e => by rw [e, show ow 30 = 17 from rfl] at hg; omega
      have n4 : ¬ g = 31 := fun e => by rw [e, show ow 31 = 18 from rfl] at hg; omega
      have n5 : ¬ g = 32 := fun e => by rw [e, show ow 32 = 19 from rfl] at hg; omega
      omega
    · have e : a = 0 := by omega
      rw [e]
      rfl
