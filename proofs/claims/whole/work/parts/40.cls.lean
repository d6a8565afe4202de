/-! THE CLASS: its state is rho, a field and an object to an integer; references are the objects' numbers, -1 is null -/
def rfo (a : Nat) (x : Int) : Option Tg := if x < 0 then none else some (a, x)
def sub (N : Int) (g : Int → Int) (b : Int) : Int → Int := fun j => if 0 ≤ j ∧ j < N then g (b + j) else 0
noncomputable def rar (a : Nat) (g : Int → Int) : Nat → Option Tg := fun j => rfo a (g (j : Int))
def ow : Nat → Nat := fun f => match f with
  | 0 => 1
  | 1 => 1
  | 2 => 1
  | 3 => 1
  | 4 => 2
  | 5 => 3
  | 6 => 4
  | 7 => 9
  | 8 => 11
  | 9 => 11
  | 10 => 11
  | 11 => 11
  | 12 => 11
  | 13 => 12
  | 14 => 12
  | 15 => 12
  | 16 => 12
  | 17 => 13
  | 18 => 13
  | 19 => 13
  | 20 => 13
  | 21 => 13
  | 22 => 13
  | 23 => 14
  | 24 => 15
  | 25 => 15
  | 26 => 15
  | 27 => 16
  | 28 => 16
  | 29 => 16
  | 30 => 17
  | 31 => 18
  | 32 => 19
  | 33 => 16
  | 34 => 16
  | 35 => 16
  | 36 => 16
  | 37 => 5
  | 38 => 5
  | 39 => 5
  | 40 => 5
  | 41 => 5
  | 42 => 5
  | 43 => 6
  | 44 => 6
  | 45 => 7
  | 46 => 8
  | _ => 0
def CE (ρ : TS) (a : Nat) (i : Int) : Prop := match a with
  | 11 => 0 ≤ i ∧ i < ρ 47 0
  | 12 => 0 ≤ i ∧ i < ρ 47 1
  | 13 => ρ 48 i = 1
  | 14 => ρ 48 i = 1
  | 15 => ρ 48 i = 1 ∨ i = 82
  | 16 => 0 ≤ i ∧ i < ρ 47 2
  | 17 => 0 ≤ i ∧ i < ρ 47 2
  | 18 => 0 ≤ i ∧ i < ρ 47 2
  | 19 => 0 ≤ i ∧ i < ρ 47 2
  | 10 => False
  | _ => i = 0
noncomputable def CC (ρ : TS) (a : Nat) (i : Int) : LC := match a with
  | 1 => cO 7 [vI (iI (ρ 0 i)), vR (some (2, 0)), vI (iI (ρ 1 i)), vR (some (3, 0)), vI (iI (ρ 2 i)), vR (some (4, 0)), vI (iI (ρ 3 i)), vR (some (5, 0)), vR (some (6, 0)), vR (some (15, 82))]
  | 2 => cQ 3 12 (rar 11 (sub 12 (ρ 4) (12 * i)))
  | 3 => cQ 4 24 (rar 12 (sub 24 (ρ 5) (24 * i)))
  | 4 => cQ 5 66 (rar 13 (sub 66 (ρ 6) (66 * i)))
  | 5 => cO 3 [vI (iI (ρ 37 i)), vR (rfo 13 (ρ 38 i)), vR (rfo 12 (ρ 39 i)), vR (rfo 12 (ρ 40 i)), vR (rfo 16 (ρ 41 i)), vI (iI (ρ 42 i))]
  | 6 => cO 4 [vI (iI (ρ 43 i)), vI (iI (ρ 44 i)), vR (some (7, 0)), vR (some (8, 0)), vR (some (9, 0))]
  | 7 => cI 0 16 (arr (sub 16 (ρ 45) (16 * i)))
  | 8 => cI 0 32 (arr (sub 32 (ρ 46) (32 * i)))
  | 9 => cQ 5 16 (rar 13 (sub 16 (ρ 7) (16 * i)))
  | 11 => cO 1 [vI (iI (ρ 8 i)), vI (iI (ρ 9 i)), vI (iI (ρ 10 i)), vI (iI (ρ 11 i)), vI (iI (ρ 12 i))]
  | 12 => cO 6 [vI (iI (ρ 13 i)), vI (iI (ρ 14 i)), vI (iI (ρ 15 i)), vI (iI (ρ 16 i))]
  | 13 => cO 0 [vI (iI (ρ 17 i)), vI (iI (ρ 18 i)), vI (iI (ρ 19 i)), vR (some (14, i)), vI (iI (ρ 20 i)), vI (iI (ρ 21 i)), vI (iI (ρ 22 i)), vR (some (15, i))]
  | 14 => cQ 6 12 (rar 16 (sub 12 (ρ 23) (12 * i)))
  | 15 => cO 5 [vI (iI (ρ 24 i)), vI (iI (ρ 25 i)), vI (iI (ρ 26 i))]
  | 16 => cO 2 [vI (iI (ρ 27 i)), vR (rfo 12 (ρ 28 i)), vR (rfo 12 (ρ 29 i)), vR (some (17, i)), vR (some (18, i)), vR (some (19, i)), vI (iI (ρ 33 i)), vI (iI (ρ 34 i)), vI (iI (ρ 35 i)), vI (iI (ρ 36 i))]
  | 17 => cI 0 8 (arr (sub 8 (ρ 30) (8 * i)))
  | 18 => cI 0 8 (arr (sub 8 (ρ 31) (8 * i)))
  | 19 => cI 0 8 (arr (sub 8 (ρ 32) (8 * i)))
  | _ => cI 0 0 (fun _ => 0)
noncomputable def HK (ρ : TS) (t : Tg) : Option LC := @ite _ (CE ρ t.1 t.2) (Classical.propDecidable _) (some (CC ρ t.1 t.2)) none
noncomputable def hk (h : LH) (ρ : TS) : LH := fun t => if 1 ≤ t.1 ∧ t.1 ≤ 19 then HK ρ t else h t
theorem hk_in {h : LH} {ρ : TS} {a : Nat} {i : Int} (ha : 1 ≤ a ∧ a ≤ 19) (e : CE ρ a i) : hk h ρ (a, i) = some (CC ρ a i) := by
  unfold hk HK
  rw [if_pos ha, if_pos e]
theorem hk_fr {h : LH} {ρ : TS} {a : Nat} {i : Int} (ha : 1 ≤ a ∧ a ≤ 19) (e : ¬ CE ρ a i) : hk h ρ (a, i) = none := by
  unfold hk HK
  rw [if_pos ha, if_neg e]
theorem hk_hk {h : LH} {ρ ρ' : TS} : hk (hk h ρ) ρ' = hk h ρ' := by
  funext t
  unfold hk
  split <;> rfl
theorem hk_put {h : LH} {ρ ρ' : TS} {a : Nat} {i : Int} {c : LC} (ha : 1 ≤ a ∧ a ≤ 19) (e : CE ρ a i) (he : CE ρ' = CE ρ) (hc : CC ρ' a i = c) (ho : ∀ a' i', ¬ (a' = a ∧ i' = i) → CC ρ' a' i' = CC ρ a' i') : hup (hk h ρ) (a, i) c = hk h ρ' := by
  funext t
  by_cases q : t = (a, i)
  · subst q
    rw [hup_s, hk_in ha (by rw [he]; exact e), hc]
  · rw [hup_n q]
    unfold hk HK
    rw [he, ho t.1 t.2 (fun z => q (Prod.ext z.1 z.2))]
theorem CE_ts {ρ : TS} {f : Nat} {i x : Int} (h : f < 47) : CE (ts ρ f i x) = CE ρ := by
  funext a j
  unfold CE
  rw [ts_n (k' := 47) (by omega), ts_n (k' := 48) (by omega)]
theorem CC_ow {ρ : TS} {f : Nat} {i x : Int} {a : Nat} {j : Int} (h : ¬ ow f = a) : CC (ts ρ f i x) a j = CC ρ a j := by
  have q : ∀ g, ow g = a → ts ρ f i x g = ρ g := fun g hg => ts_n (fun e => h (by rw [← e]; exact hg))
  by_cases h0 : a < 20
  · have hc : a = 0 ∨ a = 1 ∨ a = 2 ∨ a = 3 ∨ a = 4 ∨ a = 5 ∨ a = 6 ∨ a = 7 ∨ a = 8 ∨ a = 9 ∨ a = 10 ∨ a = 11 ∨ a = 12 ∨ a = 13 ∨ a = 14 ∨ a = 15 ∨ a = 16 ∨ a = 17 ∨ a = 18 ∨ a = 19 := by omega
    rcases hc with rfl | rfl | rfl | rfl | rfl | rfl | rfl | rfl | rfl | rfl | rfl | rfl | rfl | rfl | rfl | rfl | rfl | rfl | rfl | rfl
    · rfl
    · unfold CC; simp only [q 0 rfl, q 1 rfl, q 2 rfl, q 3 rfl]
    · unfold CC; simp only [q 4 rfl]
    · unfold CC; simp only [q 5 rfl]
    · unfold CC; simp only [q 6 rfl]
    · unfold CC; simp only [q 37 rfl, q 38 rfl, q 39 rfl, q 40 rfl, q 41 rfl, q 42 rfl]
    · unfold CC; simp only [q 43 rfl, q 44 rfl]
    · unfold CC; simp only [q 45 rfl]
    · unfold CC; simp only [q 46 rfl]
    · unfold CC; simp only [q 7 rfl]
    · rfl
    · unfold CC; simp only [q 8 rfl, q 9 rfl, q 10 rfl, q 11 rfl, q 12 rfl]
    · unfold CC; simp only [q 13 rfl, q 14 rfl, q 15 rfl, q 16 rfl]
    · unfold CC; simp only [q 17 rfl, q 18 rfl, q 19 rfl, q 20 rfl, q 21 rfl, q 22 rfl]
    · unfold CC; simp only [q 23 rfl]
    · unfold CC; simp only [q 24 rfl, q 25 rfl, q 26 rfl]
    · unfold CC; simp only [q 27 rfl, q 28 rfl, q 29 rfl, q 33 rfl, q 34 rfl, q 35 rfl, q 36 rfl]
    · unfold CC; simp only [q 30 rfl]
    · unfold CC; simp only [q 31 rfl]
    · unfold CC; simp only [q 32 rfl]
  · sorry
