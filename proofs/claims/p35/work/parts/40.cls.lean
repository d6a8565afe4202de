/-! THE CLASS: its state is rho, a field and an object to an integer; references are the objects' numbers, -1 is null -/
def rfo (a : Nat) (x : Int) : Option Tg := if x < 0 then none else some (a, x)
def subd (d N : Int) (g : Int → Int) (b : Int) : Int → Int := fun j => if 0 ≤ j ∧ j < N then g (b + j) else d
noncomputable def rar (a : Nat) (g : Int → Int) : Nat → Option Tg := fun j => rfo a (g (j : Int))
def ow : Nat → Nat := fun f => match f with
  | 0 => 1
  | 1 => 1
  | 2 => 1
  | 3 => 1
  | 4 => 2
  | 5 => 3
  | 6 => 4
  | 7 => 9
  | 8 => 11
  | 9 => 11
  | 10 => 11
  | 11 => 11
  | 12 => 11
  | 13 => 12
  | 14 => 12
  | 15 => 12
  | 16 => 12
  | 17 => 13
  | 18 => 13
  | 19 => 13
  | 20 => 13
  | 21 => 13
  | 22 => 13
  | 23 => 14
  | 24 => 15
  | 25 => 15
  | 26 => 15
  | 27 => 16
  | 28 => 16
  | 29 => 16
  | 30 => 17
  | 31 => 18
  | 32 => 19
  | 33 => 16
  | 34 => 16
  | 35 => 16
  | 36 => 16
  | 37 => 5
  | 38 => 5
  | 39 => 5
  | 40 => 5
  | 41 => 5
  | 42 => 5
  | 43 => 6
  | 44 => 6
  | 45 => 7
  | 46 => 8
  | _ => 0
def CE (ρ : TS) (a : Nat) (i : Int) : Prop := match a with
  | 11 => 0 ≤ i ∧ i < ρ 47 0
  | 12 => 0 ≤ i ∧ i < ρ 47 1
  | 13 => ρ 48 i = 1
  | 14 => ρ 48 i = 1
  | 15 => ρ 48 i = 1 ∨ i = 82
  | 16 => 0 ≤ i ∧ i < ρ 47 2
  | 17 => 0 ≤ i ∧ i < ρ 47 2
  | 18 => 0 ≤ i ∧ i < ρ 47 2
  | 19 => 0 ≤ i ∧ i < ρ 47 2
  | 10 => False
  | _ => i = 0
noncomputable def CC (ρ : TS) (a : Nat) (i : Int) : LC := match a with
  | 1 => cO 7 [vI (iI (ρ 0 i)), vR (some (2, 0)), vI (iI (ρ 1 i)), vR (some (3, 0)), vI (iI (ρ 2 i)), vR (some (4, 0)), vI (iI (ρ 3 i)), vR (some (5, 0)), vR (some (6, 0)), vR (some (15, 82))]
  | 2 => cQ 3 12 (rar 11 (subd (-1) 12 (ρ 4) (12 * i)))
  | 3 => cQ 4 24 (rar 12 (subd (-1) 24 (ρ 5) (24 * i)))
  | 4 => cQ 5 66 (rar 13 (subd (-1) 66 (ρ 6) (66 * i)))
  | 5 => cO 3 [vI (iI (ρ 37 i)), vR (rfo 13 (ρ 38 i)), vR (rfo 12 (ρ 39 i)), vR (rfo 12 (ρ 40 i)), vR (rfo 16 (ρ 41 i)), vI (iI (ρ 42 i))]
  | 6 => cO 4 [vI (iI (ρ 43 i)), vI (iI (ρ 44 i)), vR (some (7, 0)), vR (some (8, 0)), vR (some (9, 0))]
  | 7 => cI 0 16 (arr (subd 0 16 (ρ 45) (16 * i)))
  | 8 => cI 0 32 (arr (subd 0 32 (ρ 46) (32 * i)))
  | 9 => cQ 5 16 (rar 13 (subd (-1) 16 (ρ 7) (16 * i)))
  | 11 => cO 1 [vI (iI (ρ 8 i)), vI (iI (ρ 9 i)), vI (iI (ρ 10 i)), vI (iI (ρ 11 i)), vI (iI (ρ 12 i))]
  | 12 => cO 6 [vI (iI (ρ 13 i)), vI (iI (ρ 14 i)), vI (iI (ρ 15 i)), vI (iI (ρ 16 i))]
  | 13 => cO 0 [vI (iI (ρ 17 i)), vI (iI (ρ 18 i)), vI (iI (ρ 19 i)), vR (some (14, i)), vI (iI (ρ 20 i)), vI (iI (ρ 21 i)), vI (iI (ρ 22 i)), vR (some (15, i))]
  | 14 => cQ 6 12 (rar 16 (subd (-1) 12 (ρ 23) (12 * i)))
  | 15 => cO 5 [vI (iI (ρ 24 i)), vI (iI (ρ 25 i)), vI (iI (ρ 26 i))]
  | 16 => cO 2 [vI (iI (ρ 27 i)), vR (rfo 12 (ρ 28 i)), vR (rfo 12 (ρ 29 i)), vR (some (17, i)), vR (some (18, i)), vR (some (19, i)), vI (iI (ρ 33 i)), vI (iI (ρ 34 i)), vI (iI (ρ 35 i)), vI (iI (ρ 36 i))]
  | 17 => cI 0 8 (arr (subd 0 8 (ρ 30) (8 * i)))
  | 18 => cI 0 8 (arr (subd 0 8 (ρ 31) (8 * i)))
  | 19 => cI 0 8 (arr (subd 0 8 (ρ 32) (8 * i)))
  | _ => cI 0 0 (fun _ => 0)
noncomputable def HK (ρ : TS) (t : Tg) : Option LC := @ite _ (CE ρ t.1 t.2) (Classical.propDecidable _) (some (CC ρ t.1 t.2)) none
noncomputable def hk (h : LH) (ρ : TS) : LH := fun t => if 1 ≤ t.1 ∧ t.1 ≤ 19 then HK ρ t else h t
theorem hk_in {h : LH} {ρ : TS} {a : Nat} {i : Int} (ha : 1 ≤ a ∧ a ≤ 19) (e : CE ρ a i) : hk h ρ (a, i) = some (CC ρ a i) := by
  unfold hk HK
  rw [if_pos ha, if_pos e]
theorem hk_fr {h : LH} {ρ : TS} {a : Nat} {i : Int} (ha : 1 ≤ a ∧ a ≤ 19) (e : ¬ CE ρ a i) : hk h ρ (a, i) = none := by
  unfold hk HK
  rw [if_pos ha, if_neg e]
theorem hk_hk {h : LH} {ρ ρ' : TS} : hk (hk h ρ) ρ' = hk h ρ' := by
  funext t
  unfold hk
  split <;> rfl
theorem hk_put {h : LH} {ρ ρ' : TS} {a : Nat} {i : Int} {c : LC} (ha : 1 ≤ a ∧ a ≤ 19) (e : CE ρ a i) (he : CE ρ' = CE ρ) (hc : CC ρ' a i = c) (ho : ∀ a' i', ¬ (a' = a ∧ i' = i) → CC ρ' a' i' = CC ρ a' i') : hup (hk h ρ) (a, i) c = hk h ρ' := by
  funext t
  by_cases q : t = (a, i)
  · subst q
    rw [hup_s, hk_in ha (by rw [he]; exact e), hc]
  · rw [hup_n q]
    unfold hk HK
    rw [he, ho t.1 t.2 (fun z => q (Prod.ext z.1 z.2))]
theorem CE_ts {ρ : TS} {f : Nat} {i x : Int} (h : f < 47) : CE (ts ρ f i x) = CE ρ := by
  funext a j
  unfold CE
  rw [ts_n (k' := 47) (by omega), ts_n (k' := 48) (by omega)]
theorem CC_ow {ρ : TS} {f : Nat} {i x : Int} {a : Nat} {j : Int} (h : ¬ ow f = a) : CC (ts ρ f i x) a j = CC ρ a j := by
  have q : ∀ g, ow g = a → ts ρ f i x g = ρ g := fun g hg => ts_n (fun e => h (by rw [← e]; exact hg))
  by_cases h0 : a < 20
  · have hc : a = 0 ∨ a = 1 ∨ a = 2 ∨ a = 3 ∨ a = 4 ∨ a = 5 ∨ a = 6 ∨ a = 7 ∨ a = 8 ∨ a = 9 ∨ a = 10 ∨ a = 11 ∨ a = 12 ∨ a = 13 ∨ a = 14 ∨ a = 15 ∨ a = 16 ∨ a = 17 ∨ a = 18 ∨ a = 19 := by omega
    rcases hc with rfl | rfl | rfl | rfl | rfl | rfl | rfl | rfl | rfl | rfl | rfl | rfl | rfl | rfl | rfl | rfl | rfl | rfl | rfl | rfl
    · rfl
    · unfold CC; simp only [q 0 rfl, q 1 rfl, q 2 rfl, q 3 rfl]
    · unfold CC; simp only [q 4 rfl]
    · unfold CC; simp only [q 5 rfl]
    · unfold CC; simp only [q 6 rfl]
    · unfold CC; simp only [q 37 rfl, q 38 rfl, q 39 rfl, q 40 rfl, q 41 rfl, q 42 rfl]
    · unfold CC; simp only [q 43 rfl, q 44 rfl]
    · unfold CC; simp only [q 45 rfl]
    · unfold CC; simp only [q 46 rfl]
    · unfold CC; simp only [q 7 rfl]
    · rfl
    · unfold CC; simp only [q 8 rfl, q 9 rfl, q 10 rfl, q 11 rfl, q 12 rfl]
    · unfold CC; simp only [q 13 rfl, q 14 rfl, q 15 rfl, q 16 rfl]
    · unfold CC; simp only [q 17 rfl, q 18 rfl, q 19 rfl, q 20 rfl, q 21 rfl, q 22 rfl]
    · unfold CC; simp only [q 23 rfl]
    · unfold CC; simp only [q 24 rfl, q 25 rfl, q 26 rfl]
    · unfold CC; simp only [q 27 rfl, q 28 rfl, q 29 rfl, q 33 rfl, q 34 rfl, q 35 rfl, q 36 rfl]
    · unfold CC; simp only [q 30 rfl]
    · unfold CC; simp only [q 31 rfl]
    · unfold CC; simp only [q 32 rfl]
  · have e : a = (a - 20) + 20 := by omega
    rw [e]
    rfl
theorem CC_ix {ρ : TS} {f : Nat} {i x : Int} {a : Nat} {j : Int} (hj : ¬ j = i) (ho : a = 1 ∨ a = 5 ∨ a = 6 ∨ a = 11 ∨ a = 12 ∨ a = 13 ∨ a = 15 ∨ a = 16) : CC (ts ρ f i x) a j = CC ρ a j := by
  have q : ∀ g, ts ρ f i x g j = ρ g j := by
    intro g
    by_cases e : g = f
    · subst e; exact ts_else hj
    · rw [ts_n e]
  rcases ho with rfl | rfl | rfl | rfl | rfl | rfl | rfl | rfl <;> (unfold CC; simp only [q])
theorem hk_1 {h : LH} {ρ : TS} {i : Int} (e : CE ρ 1 i) : hk h ρ (1, i) = some (cO 7 [vI (iI (ρ 0 i)), vR (some (2, 0)), vI (iI (ρ 1 i)), vR (some (3, 0)), vI (iI (ρ 2 i)), vR (some (4, 0)), vI (iI (ρ 3 i)), vR (some (5, 0)), vR (some (6, 0)), vR (some (15, 82))]) := hk_in (by decide) e
theorem hkp_0 {h : LH} {ρ : TS} {i x : Int} (e : CE ρ 1 i) : hup (hk h ρ) (1, i) (cO 7 ([vI (iI (ρ 0 i)), vR (some (2, 0)), vI (iI (ρ 1 i)), vR (some (3, 0)), vI (iI (ρ 2 i)), vR (some (4, 0)), vI (iI (ρ 3 i)), vR (some (5, 0)), vR (some (6, 0)), vR (some (15, 82))].set 0 (vI (iI x)))) = hk h (ts ρ 0 i x) :=
  hk_put (by decide) e (CE_ts (by decide)) (by show cO 7 [vI (iI (ts ρ 0 i x 0 i)), vR (some (2, 0)), vI (iI (ρ 1 i)), vR (some (3, 0)), vI (iI (ρ 2 i)), vR (some (4, 0)), vI (iI (ρ 3 i)), vR (some (5, 0)), vR (some (6, 0)), vR (some (15, 82))] = _; rw [ts_self]; rfl) (fun a' i' z => if q : a' = 1 then (by subst q; exact CC_ix (fun y => z (And.intro rfl y)) (by decide)) else CC_ow (fun y => q y.symm))
theorem hkp_1 {h : LH} {ρ : TS} {i x : Int} (e : CE ρ 1 i) : hup (hk h ρ) (1, i) (cO 7 ([vI (iI (ρ 0 i)), vR (some (2, 0)), vI (iI (ρ 1 i)), vR (some (3, 0)), vI (iI (ρ 2 i)), vR (some (4, 0)), vI (iI (ρ 3 i)), vR (some (5, 0)), vR (some (6, 0)), vR (some (15, 82))].set 2 (vI (iI x)))) = hk h (ts ρ 1 i x) :=
  hk_put (by decide) e (CE_ts (by decide)) (by show cO 7 [vI (iI (ρ 0 i)), vR (some (2, 0)), vI (iI (ts ρ 1 i x 1 i)), vR (some (3, 0)), vI (iI (ρ 2 i)), vR (some (4, 0)), vI (iI (ρ 3 i)), vR (some (5, 0)), vR (some (6, 0)), vR (some (15, 82))] = _; rw [ts_self]; rfl) (fun a' i' z => if q : a' = 1 then (by subst q; exact CC_ix (fun y => z (And.intro rfl y)) (by decide)) else CC_ow (fun y => q y.symm))
theorem hkp_2 {h : LH} {ρ : TS} {i x : Int} (e : CE ρ 1 i) : hup (hk h ρ) (1, i) (cO 7 ([vI (iI (ρ 0 i)), vR (some (2, 0)), vI (iI (ρ 1 i)), vR (some (3, 0)), vI (iI (ρ 2 i)), vR (some (4, 0)), vI (iI (ρ 3 i)), vR (some (5, 0)), vR (some (6, 0)), vR (some (15, 82))].set 4 (vI (iI x)))) = hk h (ts ρ 2 i x) :=
  hk_put (by decide) e (CE_ts (by decide)) (by show cO 7 [vI (iI (ρ 0 i)), vR (some (2, 0)), vI (iI (ρ 1 i)), vR (some (3, 0)), vI (iI (ts ρ 2 i x 2 i)), vR (some (4, 0)), vI (iI (ρ 3 i)), vR (some (5, 0)), vR (some (6, 0)), vR (some (15, 82))] = _; rw [ts_self]; rfl) (fun a' i' z => if q : a' = 1 then (by subst q; exact CC_ix (fun y => z (And.intro rfl y)) (by decide)) else CC_ow (fun y => q y.symm))
theorem hkp_3 {h : LH} {ρ : TS} {i x : Int} (e : CE ρ 1 i) : hup (hk h ρ) (1, i) (cO 7 ([vI (iI (ρ 0 i)), vR (some (2, 0)), vI (iI (ρ 1 i)), vR (some (3, 0)), vI (iI (ρ 2 i)), vR (some (4, 0)), vI (iI (ρ 3 i)), vR (some (5, 0)), vR (some (6, 0)), vR (some (15, 82))].set 6 (vI (iI x)))) = hk h (ts ρ 3 i x) :=
  hk_put (by decide) e (CE_ts (by decide)) (by show cO 7 [vI (iI (ρ 0 i)), vR (some (2, 0)), vI (iI (ρ 1 i)), vR (some (3, 0)), vI (iI (ρ 2 i)), vR (some (4, 0)), vI (iI (ts ρ 3 i x 3 i)), vR (some (5, 0)), vR (some (6, 0)), vR (some (15, 82))] = _; rw [ts_self]; rfl) (fun a' i' z => if q : a' = 1 then (by subst q; exact CC_ix (fun y => z (And.intro rfl y)) (by decide)) else CC_ow (fun y => q y.symm))
theorem hk_5 {h : LH} {ρ : TS} {i : Int} (e : CE ρ 5 i) : hk h ρ (5, i) = some (cO 3 [vI (iI (ρ 37 i)), vR (rfo 13 (ρ 38 i)), vR (rfo 12 (ρ 39 i)), vR (rfo 12 (ρ 40 i)), vR (rfo 16 (ρ 41 i)), vI (iI (ρ 42 i))]) := hk_in (by decide) e
theorem hkp_37 {h : LH} {ρ : TS} {i x : Int} (e : CE ρ 5 i) : hup (hk h ρ) (5, i) (cO 3 ([vI (iI (ρ 37 i)), vR (rfo 13 (ρ 38 i)), vR (rfo 12 (ρ 39 i)), vR (rfo 12 (ρ 40 i)), vR (rfo 16 (ρ 41 i)), vI (iI (ρ 42 i))].set 0 (vI (iI x)))) = hk h (ts ρ 37 i x) :=
  hk_put (by decide) e (CE_ts (by decide)) (by show cO 3 [vI (iI (ts ρ 37 i x 37 i)), vR (rfo 13 (ρ 38 i)), vR (rfo 12 (ρ 39 i)), vR (rfo 12 (ρ 40 i)), vR (rfo 16 (ρ 41 i)), vI (iI (ρ 42 i))] = _; rw [ts_self]; rfl) (fun a' i' z => if q : a' = 5 then (by subst q; exact CC_ix (fun y => z (And.intro rfl y)) (by decide)) else CC_ow (fun y => q y.symm))
theorem hkp_38 {h : LH} {ρ : TS} {i x : Int} (e : CE ρ 5 i) : hup (hk h ρ) (5, i) (cO 3 ([vI (iI (ρ 37 i)), vR (rfo 13 (ρ 38 i)), vR (rfo 12 (ρ 39 i)), vR (rfo 12 (ρ 40 i)), vR (rfo 16 (ρ 41 i)), vI (iI (ρ 42 i))].set 1 (vR (rfo 13 x)))) = hk h (ts ρ 38 i x) :=
  hk_put (by decide) e (CE_ts (by decide)) (by show cO 3 [vI (iI (ρ 37 i)), vR (rfo 13 (ts ρ 38 i x 38 i)), vR (rfo 12 (ρ 39 i)), vR (rfo 12 (ρ 40 i)), vR (rfo 16 (ρ 41 i)), vI (iI (ρ 42 i))] = _; rw [ts_self]; rfl) (fun a' i' z => if q : a' = 5 then (by subst q; exact CC_ix (fun y => z (And.intro rfl y)) (by decide)) else CC_ow (fun y => q y.symm))
theorem hkp_39 {h : LH} {ρ : TS} {i x : Int} (e : CE ρ 5 i) : hup (hk h ρ) (5, i) (cO 3 ([vI (iI (ρ 37 i)), vR (rfo 13 (ρ 38 i)), vR (rfo 12 (ρ 39 i)), vR (rfo 12 (ρ 40 i)), vR (rfo 16 (ρ 41 i)), vI (iI (ρ 42 i))].set 2 (vR (rfo 12 x)))) = hk h (ts ρ 39 i x) :=
  hk_put (by decide) e (CE_ts (by decide)) (by show cO 3 [vI (iI (ρ 37 i)), vR (rfo 13 (ρ 38 i)), vR (rfo 12 (ts ρ 39 i x 39 i)), vR (rfo 12 (ρ 40 i)), vR (rfo 16 (ρ 41 i)), vI (iI (ρ 42 i))] = _; rw [ts_self]; rfl) (fun a' i' z => if q : a' = 5 then (by subst q; exact CC_ix (fun y => z (And.intro rfl y)) (by decide)) else CC_ow (fun y => q y.symm))
theorem hkp_40 {h : LH} {ρ : TS} {i x : Int} (e : CE ρ 5 i) : hup (hk h ρ) (5, i) (cO 3 ([vI (iI (ρ 37 i)), vR (rfo 13 (ρ 38 i)), vR (rfo 12 (ρ 39 i)), vR (rfo 12 (ρ 40 i)), vR (rfo 16 (ρ 41 i)), vI (iI (ρ 42 i))].set 3 (vR (rfo 12 x)))) = hk h (ts ρ 40 i x) :=
  hk_put (by decide) e (CE_ts (by decide)) (by show cO 3 [vI (iI (ρ 37 i)), vR (rfo 13 (ρ 38 i)), vR (rfo 12 (ρ 39 i)), vR (rfo 12 (ts ρ 40 i x 40 i)), vR (rfo 16 (ρ 41 i)), vI (iI (ρ 42 i))] = _; rw [ts_self]; rfl) (fun a' i' z => if q : a' = 5 then (by subst q; exact CC_ix (fun y => z (And.intro rfl y)) (by decide)) else CC_ow (fun y => q y.symm))
theorem hkp_41 {h : LH} {ρ : TS} {i x : Int} (e : CE ρ 5 i) : hup (hk h ρ) (5, i) (cO 3 ([vI (iI (ρ 37 i)), vR (rfo 13 (ρ 38 i)), vR (rfo 12 (ρ 39 i)), vR (rfo 12 (ρ 40 i)), vR (rfo 16 (ρ 41 i)), vI (iI (ρ 42 i))].set 4 (vR (rfo 16 x)))) = hk h (ts ρ 41 i x) :=
  hk_put (by decide) e (CE_ts (by decide)) (by show cO 3 [vI (iI (ρ 37 i)), vR (rfo 13 (ρ 38 i)), vR (rfo 12 (ρ 39 i)), vR (rfo 12 (ρ 40 i)), vR (rfo 16 (ts ρ 41 i x 41 i)), vI (iI (ρ 42 i))] = _; rw [ts_self]; rfl) (fun a' i' z => if q : a' = 5 then (by subst q; exact CC_ix (fun y => z (And.intro rfl y)) (by decide)) else CC_ow (fun y => q y.symm))
theorem hkp_42 {h : LH} {ρ : TS} {i x : Int} (e : CE ρ 5 i) : hup (hk h ρ) (5, i) (cO 3 ([vI (iI (ρ 37 i)), vR (rfo 13 (ρ 38 i)), vR (rfo 12 (ρ 39 i)), vR (rfo 12 (ρ 40 i)), vR (rfo 16 (ρ 41 i)), vI (iI (ρ 42 i))].set 5 (vI (iI x)))) = hk h (ts ρ 42 i x) :=
  hk_put (by decide) e (CE_ts (by decide)) (by show cO 3 [vI (iI (ρ 37 i)), vR (rfo 13 (ρ 38 i)), vR (rfo 12 (ρ 39 i)), vR (rfo 12 (ρ 40 i)), vR (rfo 16 (ρ 41 i)), vI (iI (ts ρ 42 i x 42 i))] = _; rw [ts_self]; rfl) (fun a' i' z => if q : a' = 5 then (by subst q; exact CC_ix (fun y => z (And.intro rfl y)) (by decide)) else CC_ow (fun y => q y.symm))
theorem hk_6 {h : LH} {ρ : TS} {i : Int} (e : CE ρ 6 i) : hk h ρ (6, i) = some (cO 4 [vI (iI (ρ 43 i)), vI (iI (ρ 44 i)), vR (some (7, 0)), vR (some (8, 0)), vR (some (9, 0))]) := hk_in (by decide) e
theorem hkp_43 {h : LH} {ρ : TS} {i x : Int} (e : CE ρ 6 i) : hup (hk h ρ) (6, i) (cO 4 ([vI (iI (ρ 43 i)), vI (iI (ρ 44 i)), vR (some (7, 0)), vR (some (8, 0)), vR (some (9, 0))].set 0 (vI (iI x)))) = hk h (ts ρ 43 i x) :=
  hk_put (by decide) e (CE_ts (by decide)) (by show cO 4 [vI (iI (ts ρ 43 i x 43 i)), vI (iI (ρ 44 i)), vR (some (7, 0)), vR (some (8, 0)), vR (some (9, 0))] = _; rw [ts_self]; rfl) (fun a' i' z => if q : a' = 6 then (by subst q; exact CC_ix (fun y => z (And.intro rfl y)) (by decide)) else CC_ow (fun y => q y.symm))
theorem hkp_44 {h : LH} {ρ : TS} {i x : Int} (e : CE ρ 6 i) : hup (hk h ρ) (6, i) (cO 4 ([vI (iI (ρ 43 i)), vI (iI (ρ 44 i)), vR (some (7, 0)), vR (some (8, 0)), vR (some (9, 0))].set 1 (vI (iI x)))) = hk h (ts ρ 44 i x) :=
  hk_put (by decide) e (CE_ts (by decide)) (by show cO 4 [vI (iI (ρ 43 i)), vI (iI (ts ρ 44 i x 44 i)), vR (some (7, 0)), vR (some (8, 0)), vR (some (9, 0))] = _; rw [ts_self]; rfl) (fun a' i' z => if q : a' = 6 then (by subst q; exact CC_ix (fun y => z (And.intro rfl y)) (by decide)) else CC_ow (fun y => q y.symm))
theorem hk_11 {h : LH} {ρ : TS} {i : Int} (e : CE ρ 11 i) : hk h ρ (11, i) = some (cO 1 [vI (iI (ρ 8 i)), vI (iI (ρ 9 i)), vI (iI (ρ 10 i)), vI (iI (ρ 11 i)), vI (iI (ρ 12 i))]) := hk_in (by decide) e
theorem hkp_8 {h : LH} {ρ : TS} {i x : Int} (e : CE ρ 11 i) : hup (hk h ρ) (11, i) (cO 1 ([vI (iI (ρ 8 i)), vI (iI (ρ 9 i)), vI (iI (ρ 10 i)), vI (iI (ρ 11 i)), vI (iI (ρ 12 i))].set 0 (vI (iI x)))) = hk h (ts ρ 8 i x) :=
  hk_put (by decide) e (CE_ts (by decide)) (by show cO 1 [vI (iI (ts ρ 8 i x 8 i)), vI (iI (ρ 9 i)), vI (iI (ρ 10 i)), vI (iI (ρ 11 i)), vI (iI (ρ 12 i))] = _; rw [ts_self]; rfl) (fun a' i' z => if q : a' = 11 then (by subst q; exact CC_ix (fun y => z (And.intro rfl y)) (by decide)) else CC_ow (fun y => q y.symm))
theorem hkp_9 {h : LH} {ρ : TS} {i x : Int} (e : CE ρ 11 i) : hup (hk h ρ) (11, i) (cO 1 ([vI (iI (ρ 8 i)), vI (iI (ρ 9 i)), vI (iI (ρ 10 i)), vI (iI (ρ 11 i)), vI (iI (ρ 12 i))].set 1 (vI (iI x)))) = hk h (ts ρ 9 i x) :=
  hk_put (by decide) e (CE_ts (by decide)) (by show cO 1 [vI (iI (ρ 8 i)), vI (iI (ts ρ 9 i x 9 i)), vI (iI (ρ 10 i)), vI (iI (ρ 11 i)), vI (iI (ρ 12 i))] = _; rw [ts_self]; rfl) (fun a' i' z => if q : a' = 11 then (by subst q; exact CC_ix (fun y => z (And.intro rfl y)) (by decide)) else CC_ow (fun y => q y.symm))
theorem hkp_10 {h : LH} {ρ : TS} {i x : Int} (e : CE ρ 11 i) : hup (hk h ρ) (11, i) (cO 1 ([vI (iI (ρ 8 i)), vI (iI (ρ 9 i)), vI (iI (ρ 10 i)), vI (iI (ρ 11 i)), vI (iI (ρ 12 i))].set 2 (vI (iI x)))) = hk h (ts ρ 10 i x) :=
  hk_put (by decide) e (CE_ts (by decide)) (by show cO 1 [vI (iI (ρ 8 i)), vI (iI (ρ 9 i)), vI (iI (ts ρ 10 i x 10 i)), vI (iI (ρ 11 i)), vI (iI (ρ 12 i))] = _; rw [ts_self]; rfl) (fun a' i' z => if q : a' = 11 then (by subst q; exact CC_ix (fun y => z (And.intro rfl y)) (by decide)) else CC_ow (fun y => q y.symm))
theorem hkp_11 {h : LH} {ρ : TS} {i x : Int} (e : CE ρ 11 i) : hup (hk h ρ) (11, i) (cO 1 ([vI (iI (ρ 8 i)), vI (iI (ρ 9 i)), vI (iI (ρ 10 i)), vI (iI (ρ 11 i)), vI (iI (ρ 12 i))].set 3 (vI (iI x)))) = hk h (ts ρ 11 i x) :=
  hk_put (by decide) e (CE_ts (by decide)) (by show cO 1 [vI (iI (ρ 8 i)), vI (iI (ρ 9 i)), vI (iI (ρ 10 i)), vI (iI (ts ρ 11 i x 11 i)), vI (iI (ρ 12 i))] = _; rw [ts_self]; rfl) (fun a' i' z => if q : a' = 11 then (by subst q; exact CC_ix (fun y => z (And.intro rfl y)) (by decide)) else CC_ow (fun y => q y.symm))
theorem hkp_12 {h : LH} {ρ : TS} {i x : Int} (e : CE ρ 11 i) : hup (hk h ρ) (11, i) (cO 1 ([vI (iI (ρ 8 i)), vI (iI (ρ 9 i)), vI (iI (ρ 10 i)), vI (iI (ρ 11 i)), vI (iI (ρ 12 i))].set 4 (vI (iI x)))) = hk h (ts ρ 12 i x) :=
  hk_put (by decide) e (CE_ts (by decide)) (by show cO 1 [vI (iI (ρ 8 i)), vI (iI (ρ 9 i)), vI (iI (ρ 10 i)), vI (iI (ρ 11 i)), vI (iI (ts ρ 12 i x 12 i))] = _; rw [ts_self]; rfl) (fun a' i' z => if q : a' = 11 then (by subst q; exact CC_ix (fun y => z (And.intro rfl y)) (by decide)) else CC_ow (fun y => q y.symm))
theorem hk_12 {h : LH} {ρ : TS} {i : Int} (e : CE ρ 12 i) : hk h ρ (12, i) = some (cO 6 [vI (iI (ρ 13 i)), vI (iI (ρ 14 i)), vI (iI (ρ 15 i)), vI (iI (ρ 16 i))]) := hk_in (by decide) e
theorem hkp_13 {h : LH} {ρ : TS} {i x : Int} (e : CE ρ 12 i) : hup (hk h ρ) (12, i) (cO 6 ([vI (iI (ρ 13 i)), vI (iI (ρ 14 i)), vI (iI (ρ 15 i)), vI (iI (ρ 16 i))].set 0 (vI (iI x)))) = hk h (ts ρ 13 i x) :=
  hk_put (by decide) e (CE_ts (by decide)) (by show cO 6 [vI (iI (ts ρ 13 i x 13 i)), vI (iI (ρ 14 i)), vI (iI (ρ 15 i)), vI (iI (ρ 16 i))] = _; rw [ts_self]; rfl) (fun a' i' z => if q : a' = 12 then (by subst q; exact CC_ix (fun y => z (And.intro rfl y)) (by decide)) else CC_ow (fun y => q y.symm))
theorem hkp_14 {h : LH} {ρ : TS} {i x : Int} (e : CE ρ 12 i) : hup (hk h ρ) (12, i) (cO 6 ([vI (iI (ρ 13 i)), vI (iI (ρ 14 i)), vI (iI (ρ 15 i)), vI (iI (ρ 16 i))].set 1 (vI (iI x)))) = hk h (ts ρ 14 i x) :=
  hk_put (by decide) e (CE_ts (by decide)) (by show cO 6 [vI (iI (ρ 13 i)), vI (iI (ts ρ 14 i x 14 i)), vI (iI (ρ 15 i)), vI (iI (ρ 16 i))] = _; rw [ts_self]; rfl) (fun a' i' z => if q : a' = 12 then (by subst q; exact CC_ix (fun y => z (And.intro rfl y)) (by decide)) else CC_ow (fun y => q y.symm))
theorem hkp_15 {h : LH} {ρ : TS} {i x : Int} (e : CE ρ 12 i) : hup (hk h ρ) (12, i) (cO 6 ([vI (iI (ρ 13 i)), vI (iI (ρ 14 i)), vI (iI (ρ 15 i)), vI (iI (ρ 16 i))].set 2 (vI (iI x)))) = hk h (ts ρ 15 i x) :=
  hk_put (by decide) e (CE_ts (by decide)) (by show cO 6 [vI (iI (ρ 13 i)), vI (iI (ρ 14 i)), vI (iI (ts ρ 15 i x 15 i)), vI (iI (ρ 16 i))] = _; rw [ts_self]; rfl) (fun a' i' z => if q : a' = 12 then (by subst q; exact CC_ix (fun y => z (And.intro rfl y)) (by decide)) else CC_ow (fun y => q y.symm))
theorem hkp_16 {h : LH} {ρ : TS} {i x : Int} (e : CE ρ 12 i) : hup (hk h ρ) (12, i) (cO 6 ([vI (iI (ρ 13 i)), vI (iI (ρ 14 i)), vI (iI (ρ 15 i)), vI (iI (ρ 16 i))].set 3 (vI (iI x)))) = hk h (ts ρ 16 i x) :=
  hk_put (by decide) e (CE_ts (by decide)) (by show cO 6 [vI (iI (ρ 13 i)), vI (iI (ρ 14 i)), vI (iI (ρ 15 i)), vI (iI (ts ρ 16 i x 16 i))] = _; rw [ts_self]; rfl) (fun a' i' z => if q : a' = 12 then (by subst q; exact CC_ix (fun y => z (And.intro rfl y)) (by decide)) else CC_ow (fun y => q y.symm))
theorem hk_13 {h : LH} {ρ : TS} {i : Int} (e : CE ρ 13 i) : hk h ρ (13, i) = some (cO 0 [vI (iI (ρ 17 i)), vI (iI (ρ 18 i)), vI (iI (ρ 19 i)), vR (some (14, i)), vI (iI (ρ 20 i)), vI (iI (ρ 21 i)), vI (iI (ρ 22 i)), vR (some (15, i))]) := hk_in (by decide) e
theorem hkp_17 {h : LH} {ρ : TS} {i x : Int} (e : CE ρ 13 i) : hup (hk h ρ) (13, i) (cO 0 ([vI (iI (ρ 17 i)), vI (iI (ρ 18 i)), vI (iI (ρ 19 i)), vR (some (14, i)), vI (iI (ρ 20 i)), vI (iI (ρ 21 i)), vI (iI (ρ 22 i)), vR (some (15, i))].set 0 (vI (iI x)))) = hk h (ts ρ 17 i x) :=
  hk_put (by decide) e (CE_ts (by decide)) (by show cO 0 [vI (iI (ts ρ 17 i x 17 i)), vI (iI (ρ 18 i)), vI (iI (ρ 19 i)), vR (some (14, i)), vI (iI (ρ 20 i)), vI (iI (ρ 21 i)), vI (iI (ρ 22 i)), vR (some (15, i))] = _; rw [ts_self]; rfl) (fun a' i' z => if q : a' = 13 then (by subst q; exact CC_ix (fun y => z (And.intro rfl y)) (by decide)) else CC_ow (fun y => q y.symm))
theorem hkp_18 {h : LH} {ρ : TS} {i x : Int} (e : CE ρ 13 i) : hup (hk h ρ) (13, i) (cO 0 ([vI (iI (ρ 17 i)), vI (iI (ρ 18 i)), vI (iI (ρ 19 i)), vR (some (14, i)), vI (iI (ρ 20 i)), vI (iI (ρ 21 i)), vI (iI (ρ 22 i)), vR (some (15, i))].set 1 (vI (iI x)))) = hk h (ts ρ 18 i x) :=
  hk_put (by decide) e (CE_ts (by decide)) (by show cO 0 [vI (iI (ρ 17 i)), vI (iI (ts ρ 18 i x 18 i)), vI (iI (ρ 19 i)), vR (some (14, i)), vI (iI (ρ 20 i)), vI (iI (ρ 21 i)), vI (iI (ρ 22 i)), vR (some (15, i))] = _; rw [ts_self]; rfl) (fun a' i' z => if q : a' = 13 then (by subst q; exact CC_ix (fun y => z (And.intro rfl y)) (by decide)) else CC_ow (fun y => q y.symm))
theorem hkp_19 {h : LH} {ρ : TS} {i x : Int} (e : CE ρ 13 i) : hup (hk h ρ) (13, i) (cO 0 ([vI (iI (ρ 17 i)), vI (iI (ρ 18 i)), vI (iI (ρ 19 i)), vR (some (14, i)), vI (iI (ρ 20 i)), vI (iI (ρ 21 i)), vI (iI (ρ 22 i)), vR (some (15, i))].set 2 (vI (iI x)))) = hk h (ts ρ 19 i x) :=
  hk_put (by decide) e (CE_ts (by decide)) (by show cO 0 [vI (iI (ρ 17 i)), vI (iI (ρ 18 i)), vI (iI (ts ρ 19 i x 19 i)), vR (some (14, i)), vI (iI (ρ 20 i)), vI (iI (ρ 21 i)), vI (iI (ρ 22 i)), vR (some (15, i))] = _; rw [ts_self]; rfl) (fun a' i' z => if q : a' = 13 then (by subst q; exact CC_ix (fun y => z (And.intro rfl y)) (by decide)) else CC_ow (fun y => q y.symm))
theorem hkp_20 {h : LH} {ρ : TS} {i x : Int} (e : CE ρ 13 i) : hup (hk h ρ) (13, i) (cO 0 ([vI (iI (ρ 17 i)), vI (iI (ρ 18 i)), vI (iI (ρ 19 i)), vR (some (14, i)), vI (iI (ρ 20 i)), vI (iI (ρ 21 i)), vI (iI (ρ 22 i)), vR (some (15, i))].set 4 (vI (iI x)))) = hk h (ts ρ 20 i x) :=
  hk_put (by decide) e (CE_ts (by decide)) (by show cO 0 [vI (iI (ρ 17 i)), vI (iI (ρ 18 i)), vI (iI (ρ 19 i)), vR (some (14, i)), vI (iI (ts ρ 20 i x 20 i)), vI (iI (ρ 21 i)), vI (iI (ρ 22 i)), vR (some (15, i))] = _; rw [ts_self]; rfl) (fun a' i' z => if q : a' = 13 then (by subst q; exact CC_ix (fun y => z (And.intro rfl y)) (by decide)) else CC_ow (fun y => q y.symm))
theorem hkp_21 {h : LH} {ρ : TS} {i x : Int} (e : CE ρ 13 i) : hup (hk h ρ) (13, i) (cO 0 ([vI (iI (ρ 17 i)), vI (iI (ρ 18 i)), vI (iI (ρ 19 i)), vR (some (14, i)), vI (iI (ρ 20 i)), vI (iI (ρ 21 i)), vI (iI (ρ 22 i)), vR (some (15, i))].set 5 (vI (iI x)))) = hk h (ts ρ 21 i x) :=
  hk_put (by decide) e (CE_ts (by decide)) (by show cO 0 [vI (iI (ρ 17 i)), vI (iI (ρ 18 i)), vI (iI (ρ 19 i)), vR (some (14, i)), vI (iI (ρ 20 i)), vI (iI (ts ρ 21 i x 21 i)), vI (iI (ρ 22 i)), vR (some (15, i))] = _; rw [ts_self]; rfl) (fun a' i' z => if q : a' = 13 then (by subst q; exact CC_ix (fun y => z (And.intro rfl y)) (by decide)) else CC_ow (fun y => q y.symm))
theorem hkp_22 {h : LH} {ρ : TS} {i x : Int} (e : CE ρ 13 i) : hup (hk h ρ) (13, i) (cO 0 ([vI (iI (ρ 17 i)), vI (iI (ρ 18 i)), vI (iI (ρ 19 i)), vR (some (14, i)), vI (iI (ρ 20 i)), vI (iI (ρ 21 i)), vI (iI (ρ 22 i)), vR (some (15, i))].set 6 (vI (iI x)))) = hk h (ts ρ 22 i x) :=
  hk_put (by decide) e (CE_ts (by decide)) (by show cO 0 [vI (iI (ρ 17 i)), vI (iI (ρ 18 i)), vI (iI (ρ 19 i)), vR (some (14, i)), vI (iI (ρ 20 i)), vI (iI (ρ 21 i)), vI (iI (ts ρ 22 i x 22 i)), vR (some (15, i))] = _; rw [ts_self]; rfl) (fun a' i' z => if q : a' = 13 then (by subst q; exact CC_ix (fun y => z (And.intro rfl y)) (by decide)) else CC_ow (fun y => q y.symm))
theorem hk_15 {h : LH} {ρ : TS} {i : Int} (e : CE ρ 15 i) : hk h ρ (15, i) = some (cO 5 [vI (iI (ρ 24 i)), vI (iI (ρ 25 i)), vI (iI (ρ 26 i))]) := hk_in (by decide) e
theorem hkp_24 {h : LH} {ρ : TS} {i x : Int} (e : CE ρ 15 i) : hup (hk h ρ) (15, i) (cO 5 ([vI (iI (ρ 24 i)), vI (iI (ρ 25 i)), vI (iI (ρ 26 i))].set 0 (vI (iI x)))) = hk h (ts ρ 24 i x) :=
  hk_put (by decide) e (CE_ts (by decide)) (by show cO 5 [vI (iI (ts ρ 24 i x 24 i)), vI (iI (ρ 25 i)), vI (iI (ρ 26 i))] = _; rw [ts_self]; rfl) (fun a' i' z => if q : a' = 15 then (by subst q; exact CC_ix (fun y => z (And.intro rfl y)) (by decide)) else CC_ow (fun y => q y.symm))
theorem hkp_25 {h : LH} {ρ : TS} {i x : Int} (e : CE ρ 15 i) : hup (hk h ρ) (15, i) (cO 5 ([vI (iI (ρ 24 i)), vI (iI (ρ 25 i)), vI (iI (ρ 26 i))].set 1 (vI (iI x)))) = hk h (ts ρ 25 i x) :=
  hk_put (by decide) e (CE_ts (by decide)) (by show cO 5 [vI (iI (ρ 24 i)), vI (iI (ts ρ 25 i x 25 i)), vI (iI (ρ 26 i))] = _; rw [ts_self]; rfl) (fun a' i' z => if q : a' = 15 then (by subst q; exact CC_ix (fun y => z (And.intro rfl y)) (by decide)) else CC_ow (fun y => q y.symm))
theorem hkp_26 {h : LH} {ρ : TS} {i x : Int} (e : CE ρ 15 i) : hup (hk h ρ) (15, i) (cO 5 ([vI (iI (ρ 24 i)), vI (iI (ρ 25 i)), vI (iI (ρ 26 i))].set 2 (vI (iI x)))) = hk h (ts ρ 26 i x) :=
  hk_put (by decide) e (CE_ts (by decide)) (by show cO 5 [vI (iI (ρ 24 i)), vI (iI (ρ 25 i)), vI (iI (ts ρ 26 i x 26 i))] = _; rw [ts_self]; rfl) (fun a' i' z => if q : a' = 15 then (by subst q; exact CC_ix (fun y => z (And.intro rfl y)) (by decide)) else CC_ow (fun y => q y.symm))
theorem hk_16 {h : LH} {ρ : TS} {i : Int} (e : CE ρ 16 i) : hk h ρ (16, i) = some (cO 2 [vI (iI (ρ 27 i)), vR (rfo 12 (ρ 28 i)), vR (rfo 12 (ρ 29 i)), vR (some (17, i)), vR (some (18, i)), vR (some (19, i)), vI (iI (ρ 33 i)), vI (iI (ρ 34 i)), vI (iI (ρ 35 i)), vI (iI (ρ 36 i))]) := hk_in (by decide) e
theorem hkp_27 {h : LH} {ρ : TS} {i x : Int} (e : CE ρ 16 i) : hup (hk h ρ) (16, i) (cO 2 ([vI (iI (ρ 27 i)), vR (rfo 12 (ρ 28 i)), vR (rfo 12 (ρ 29 i)), vR (some (17, i)), vR (some (18, i)), vR (some (19, i)), vI (iI (ρ 33 i)), vI (iI (ρ 34 i)), vI (iI (ρ 35 i)), vI (iI (ρ 36 i))].set 0 (vI (iI x)))) = hk h (ts ρ 27 i x) :=
  hk_put (by decide) e (CE_ts (by decide)) (by show cO 2 [vI (iI (ts ρ 27 i x 27 i)), vR (rfo 12 (ρ 28 i)), vR (rfo 12 (ρ 29 i)), vR (some (17, i)), vR (some (18, i)), vR (some (19, i)), vI (iI (ρ 33 i)), vI (iI (ρ 34 i)), vI (iI (ρ 35 i)), vI (iI (ρ 36 i))] = _; rw [ts_self]; rfl) (fun a' i' z => if q : a' = 16 then (by subst q; exact CC_ix (fun y => z (And.intro rfl y)) (by decide)) else CC_ow (fun y => q y.symm))
theorem hkp_28 {h : LH} {ρ : TS} {i x : Int} (e : CE ρ 16 i) : hup (hk h ρ) (16, i) (cO 2 ([vI (iI (ρ 27 i)), vR (rfo 12 (ρ 28 i)), vR (rfo 12 (ρ 29 i)), vR (some (17, i)), vR (some (18, i)), vR (some (19, i)), vI (iI (ρ 33 i)), vI (iI (ρ 34 i)), vI (iI (ρ 35 i)), vI (iI (ρ 36 i))].set 1 (vR (rfo 12 x)))) = hk h (ts ρ 28 i x) :=
  hk_put (by decide) e (CE_ts (by decide)) (by show cO 2 [vI (iI (ρ 27 i)), vR (rfo 12 (ts ρ 28 i x 28 i)), vR (rfo 12 (ρ 29 i)), vR (some (17, i)), vR (some (18, i)), vR (some (19, i)), vI (iI (ρ 33 i)), vI (iI (ρ 34 i)), vI (iI (ρ 35 i)), vI (iI (ρ 36 i))] = _; rw [ts_self]; rfl) (fun a' i' z => if q : a' = 16 then (by subst q; exact CC_ix (fun y => z (And.intro rfl y)) (by decide)) else CC_ow (fun y => q y.symm))
theorem hkp_29 {h : LH} {ρ : TS} {i x : Int} (e : CE ρ 16 i) : hup (hk h ρ) (16, i) (cO 2 ([vI (iI (ρ 27 i)), vR (rfo 12 (ρ 28 i)), vR (rfo 12 (ρ 29 i)), vR (some (17, i)), vR (some (18, i)), vR (some (19, i)), vI (iI (ρ 33 i)), vI (iI (ρ 34 i)), vI (iI (ρ 35 i)), vI (iI (ρ 36 i))].set 2 (vR (rfo 12 x)))) = hk h (ts ρ 29 i x) :=
  hk_put (by decide) e (CE_ts (by decide)) (by show cO 2 [vI (iI (ρ 27 i)), vR (rfo 12 (ρ 28 i)), vR (rfo 12 (ts ρ 29 i x 29 i)), vR (some (17, i)), vR (some (18, i)), vR (some (19, i)), vI (iI (ρ 33 i)), vI (iI (ρ 34 i)), vI (iI (ρ 35 i)), vI (iI (ρ 36 i))] = _; rw [ts_self]; rfl) (fun a' i' z => if q : a' = 16 then (by subst q; exact CC_ix (fun y => z (And.intro rfl y)) (by decide)) else CC_ow (fun y => q y.symm))
theorem hkp_33 {h : LH} {ρ : TS} {i x : Int} (e : CE ρ 16 i) : hup (hk h ρ) (16, i) (cO 2 ([vI (iI (ρ 27 i)), vR (rfo 12 (ρ 28 i)), vR (rfo 12 (ρ 29 i)), vR (some (17, i)), vR (some (18, i)), vR (some (19, i)), vI (iI (ρ 33 i)), vI (iI (ρ 34 i)), vI (iI (ρ 35 i)), vI (iI (ρ 36 i))].set 6 (vI (iI x)))) = hk h (ts ρ 33 i x) :=
  hk_put (by decide) e (CE_ts (by decide)) (by show cO 2 [vI (iI (ρ 27 i)), vR (rfo 12 (ρ 28 i)), vR (rfo 12 (ρ 29 i)), vR (some (17, i)), vR (some (18, i)), vR (some (19, i)), vI (iI (ts ρ 33 i x 33 i)), vI (iI (ρ 34 i)), vI (iI (ρ 35 i)), vI (iI (ρ 36 i))] = _; rw [ts_self]; rfl) (fun a' i' z => if q : a' = 16 then (by subst q; exact CC_ix (fun y => z (And.intro rfl y)) (by decide)) else CC_ow (fun y => q y.symm))
theorem hkp_34 {h : LH} {ρ : TS} {i x : Int} (e : CE ρ 16 i) : hup (hk h ρ) (16, i) (cO 2 ([vI (iI (ρ 27 i)), vR (rfo 12 (ρ 28 i)), vR (rfo 12 (ρ 29 i)), vR (some (17, i)), vR (some (18, i)), vR (some (19, i)), vI (iI (ρ 33 i)), vI (iI (ρ 34 i)), vI (iI (ρ 35 i)), vI (iI (ρ 36 i))].set 7 (vI (iI x)))) = hk h (ts ρ 34 i x) :=
  hk_put (by decide) e (CE_ts (by decide)) (by show cO 2 [vI (iI (ρ 27 i)), vR (rfo 12 (ρ 28 i)), vR (rfo 12 (ρ 29 i)), vR (some (17, i)), vR (some (18, i)), vR (some (19, i)), vI (iI (ρ 33 i)), vI (iI (ts ρ 34 i x 34 i)), vI (iI (ρ 35 i)), vI (iI (ρ 36 i))] = _; rw [ts_self]; rfl) (fun a' i' z => if q : a' = 16 then (by subst q; exact CC_ix (fun y => z (And.intro rfl y)) (by decide)) else CC_ow (fun y => q y.symm))
theorem hkp_35 {h : LH} {ρ : TS} {i x : Int} (e : CE ρ 16 i) : hup (hk h ρ) (16, i) (cO 2 ([vI (iI (ρ 27 i)), vR (rfo 12 (ρ 28 i)), vR (rfo 12 (ρ 29 i)), vR (some (17, i)), vR (some (18, i)), vR (some (19, i)), vI (iI (ρ 33 i)), vI (iI (ρ 34 i)), vI (iI (ρ 35 i)), vI (iI (ρ 36 i))].set 8 (vI (iI x)))) = hk h (ts ρ 35 i x) :=
  hk_put (by decide) e (CE_ts (by decide)) (by show cO 2 [vI (iI (ρ 27 i)), vR (rfo 12 (ρ 28 i)), vR (rfo 12 (ρ 29 i)), vR (some (17, i)), vR (some (18, i)), vR (some (19, i)), vI (iI (ρ 33 i)), vI (iI (ρ 34 i)), vI (iI (ts ρ 35 i x 35 i)), vI (iI (ρ 36 i))] = _; rw [ts_self]; rfl) (fun a' i' z => if q : a' = 16 then (by subst q; exact CC_ix (fun y => z (And.intro rfl y)) (by decide)) else CC_ow (fun y => q y.symm))
theorem hkp_36 {h : LH} {ρ : TS} {i x : Int} (e : CE ρ 16 i) : hup (hk h ρ) (16, i) (cO 2 ([vI (iI (ρ 27 i)), vR (rfo 12 (ρ 28 i)), vR (rfo 12 (ρ 29 i)), vR (some (17, i)), vR (some (18, i)), vR (some (19, i)), vI (iI (ρ 33 i)), vI (iI (ρ 34 i)), vI (iI (ρ 35 i)), vI (iI (ρ 36 i))].set 9 (vI (iI x)))) = hk h (ts ρ 36 i x) :=
  hk_put (by decide) e (CE_ts (by decide)) (by show cO 2 [vI (iI (ρ 27 i)), vR (rfo 12 (ρ 28 i)), vR (rfo 12 (ρ 29 i)), vR (some (17, i)), vR (some (18, i)), vR (some (19, i)), vI (iI (ρ 33 i)), vI (iI (ρ 34 i)), vI (iI (ρ 35 i)), vI (iI (ts ρ 36 i x 36 i))] = _; rw [ts_self]; rfl) (fun a' i' z => if q : a' = 16 then (by subst q; exact CC_ix (fun y => z (And.intro rfl y)) (by decide)) else CC_ow (fun y => q y.symm))
theorem sub_at {d N b j : Int} {g : Int → Int} (h : 0 ≤ j ∧ j < N) : subd d N g b j = g (b + j) := if_pos h
theorem sub_up {d N b j x : Int} {g : Int → Int} (h : 0 ≤ j ∧ j < N) : upZ (subd d N g b) j x = subd d N (upZ g (b + j) x) b := by
  funext z
  unfold upZ subd
  by_cases e : z = j
  · subst e
    rw [if_pos rfl, if_pos h]
    exact (if_pos rfl).symm
  · rw [if_neg e]
    by_cases e2 : 0 ≤ z ∧ z < N
    · rw [if_pos e2, if_pos e2]; exact (if_neg (by omega)).symm
    · rw [if_neg e2, if_neg e2]
theorem sub_ot {d N b j x : Int} {g : Int → Int} (h : j < b ∨ b + N ≤ j) : subd d N (upZ g j x) b = subd d N g b := by
  funext z
  unfold upZ subd
  by_cases e2 : 0 ≤ z ∧ z < N
  · rw [if_pos e2, if_pos e2]; exact if_neg (by omega)
  · rw [if_neg e2, if_neg e2]
theorem rfo_p {a : Nat} {x : Int} (h : 0 ≤ x) : rfo a x = some (a, x) := if_neg (by omega)
theorem rfo_n {a : Nat} {x : Int} (h : x < 0) : rfo a x = none := if_pos h
theorem rar_at {a : Nat} {g : Int → Int} {j : Int} (h : 0 ≤ j) : rar a g j.toNat = rfo a (g j) := by
  unfold rar
  rw [Int.toNat_of_nonneg h]
theorem rar_up {a : Nat} {g : Int → Int} {j x : Int} (h : 0 ≤ j) : va_up (rar a g) j.toNat (rfo a x) = rar a (upZ g j x) := by
  funext z
  unfold va_up rar upZ
  by_cases e : z = j.toNat
  · subst e
    rw [if_pos rfl, if_pos (Int.toNat_of_nonneg h)]
  · rw [if_neg e, if_neg (by omega)]
theorem hk_2 {h : LH} {ρ : TS} {i : Int} (e : CE ρ 2 i) : hk h ρ (2, i) = some (cQ 3 12 (rar 11 (subd (-1) 12 (ρ 4) (12 * i)))) := hk_in (by decide) e
theorem hkp_4 {h : LH} {ρ : TS} {i j x : Int} (e : CE ρ 2 i) (hj : 0 ≤ j ∧ j < 12) : hup (hk h ρ) (2, i) (cQ 3 12 (rar 11 (upZ (subd (-1) 12 (ρ 4) (12 * i)) j x))) = hk h (ts ρ 4 (12 * i + j) x) :=
  hk_put (by decide) e (CE_ts (by decide)) (by rw [sub_up hj]; show cQ 3 12 (rar 11 (subd (-1) 12 (ts ρ 4 (12 * i + j) x 4) (12 * i))) = _; rw [ts_s]) (fun a' i' z => if q : a' = 2 then (by subst q; show cQ 3 12 (rar 11 (subd (-1) 12 (ts ρ 4 (12 * i + j) x 4) (12 * i'))) = cQ 3 12 (rar 11 (subd (-1) 12 (ρ 4) (12 * i'))); have z2 : ¬ i' = i := fun y => z (And.intro rfl y); rw [ts_s, sub_ot (by omega)]) else CC_ow (fun y => q y.symm))
theorem hk_3 {h : LH} {ρ : TS} {i : Int} (e : CE ρ 3 i) : hk h ρ (3, i) = some (cQ 4 24 (rar 12 (subd (-1) 24 (ρ 5) (24 * i)))) := hk_in (by decide) e
theorem hkp_5 {h : LH} {ρ : TS} {i j x : Int} (e : CE ρ 3 i) (hj : 0 ≤ j ∧ j < 24) : hup (hk h ρ) (3, i) (cQ 4 24 (rar 12 (upZ (subd (-1) 24 (ρ 5) (24 * i)) j x))) = hk h (ts ρ 5 (24 * i + j) x) :=
  hk_put (by decide) e (CE_ts (by decide)) (by rw [sub_up hj]; show cQ 4 24 (rar 12 (subd (-1) 24 (ts ρ 5 (24 * i + j) x 5) (24 * i))) = _; rw [ts_s]) (fun a' i' z => if q : a' = 3 then (by subst q; show cQ 4 24 (rar 12 (subd (-1) 24 (ts ρ 5 (24 * i + j) x 5) (24 * i'))) = cQ 4 24 (rar 12 (subd (-1) 24 (ρ 5) (24 * i'))); have z2 : ¬ i' = i := fun y => z (And.intro rfl y); rw [ts_s, sub_ot (by omega)]) else CC_ow (fun y => q y.symm))
theorem hk_4 {h : LH} {ρ : TS} {i : Int} (e : CE ρ 4 i) : hk h ρ (4, i) = some (cQ 5 66 (rar 13 (subd (-1) 66 (ρ 6) (66 * i)))) := hk_in (by decide) e
theorem hkp_6 {h : LH} {ρ : TS} {i j x : Int} (e : CE ρ 4 i) (hj : 0 ≤ j ∧ j < 66) : hup (hk h ρ) (4, i) (cQ 5 66 (rar 13 (upZ (subd (-1) 66 (ρ 6) (66 * i)) j x))) = hk h (ts ρ 6 (66 * i + j) x) :=
  hk_put (by decide) e (CE_ts (by decide)) (by rw [sub_up hj]; show cQ 5 66 (rar 13 (subd (-1) 66 (ts ρ 6 (66 * i + j) x 6) (66 * i))) = _; rw [ts_s]) (fun a' i' z => if q : a' = 4 then (by subst q; show cQ 5 66 (rar 13 (subd (-1) 66 (ts ρ 6 (66 * i + j) x 6) (66 * i'))) = cQ 5 66 (rar 13 (subd (-1) 66 (ρ 6) (66 * i'))); have z2 : ¬ i' = i := fun y => z (And.intro rfl y); rw [ts_s, sub_ot (by omega)]) else CC_ow (fun y => q y.symm))
theorem hk_7 {h : LH} {ρ : TS} {i : Int} (e : CE ρ 7 i) : hk h ρ (7, i) = some (cI 0 16 (arr (subd 0 16 (ρ 45) (16 * i)))) := hk_in (by decide) e
theorem hkp_45 {h : LH} {ρ : TS} {i j x : Int} (e : CE ρ 7 i) (hj : 0 ≤ j ∧ j < 16) : hup (hk h ρ) (7, i) (cI 0 16 (arr (upZ (subd 0 16 (ρ 45) (16 * i)) j x))) = hk h (ts ρ 45 (16 * i + j) x) :=
  hk_put (by decide) e (CE_ts (by decide)) (by rw [sub_up hj]; show cI 0 16 (arr (subd 0 16 (ts ρ 45 (16 * i + j) x 45) (16 * i))) = _; rw [ts_s]) (fun a' i' z => if q : a' = 7 then (by subst q; show cI 0 16 (arr (subd 0 16 (ts ρ 45 (16 * i + j) x 45) (16 * i'))) = cI 0 16 (arr (subd 0 16 (ρ 45) (16 * i'))); have z2 : ¬ i' = i := fun y => z (And.intro rfl y); rw [ts_s, sub_ot (by omega)]) else CC_ow (fun y => q y.symm))
theorem hk_8 {h : LH} {ρ : TS} {i : Int} (e : CE ρ 8 i) : hk h ρ (8, i) = some (cI 0 32 (arr (subd 0 32 (ρ 46) (32 * i)))) := hk_in (by decide) e
theorem hkp_46 {h : LH} {ρ : TS} {i j x : Int} (e : CE ρ 8 i) (hj : 0 ≤ j ∧ j < 32) : hup (hk h ρ) (8, i) (cI 0 32 (arr (upZ (subd 0 32 (ρ 46) (32 * i)) j x))) = hk h (ts ρ 46 (32 * i + j) x) :=
  hk_put (by decide) e (CE_ts (by decide)) (by rw [sub_up hj]; show cI 0 32 (arr (subd 0 32 (ts ρ 46 (32 * i + j) x 46) (32 * i))) = _; rw [ts_s]) (fun a' i' z => if q : a' = 8 then (by subst q; show cI 0 32 (arr (subd 0 32 (ts ρ 46 (32 * i + j) x 46) (32 * i'))) = cI 0 32 (arr (subd 0 32 (ρ 46) (32 * i'))); have z2 : ¬ i' = i := fun y => z (And.intro rfl y); rw [ts_s, sub_ot (by omega)]) else CC_ow (fun y => q y.symm))
theorem hk_9 {h : LH} {ρ : TS} {i : Int} (e : CE ρ 9 i) : hk h ρ (9, i) = some (cQ 5 16 (rar 13 (subd (-1) 16 (ρ 7) (16 * i)))) := hk_in (by decide) e
theorem hkp_7 {h : LH} {ρ : TS} {i j x : Int} (e : CE ρ 9 i) (hj : 0 ≤ j ∧ j < 16) : hup (hk h ρ) (9, i) (cQ 5 16 (rar 13 (upZ (subd (-1) 16 (ρ 7) (16 * i)) j x))) = hk h (ts ρ 7 (16 * i + j) x) :=
  hk_put (by decide) e (CE_ts (by decide)) (by rw [sub_up hj]; show cQ 5 16 (rar 13 (subd (-1) 16 (ts ρ 7 (16 * i + j) x 7) (16 * i))) = _; rw [ts_s]) (fun a' i' z => if q : a' = 9 then (by subst q; show cQ 5 16 (rar 13 (subd (-1) 16 (ts ρ 7 (16 * i + j) x 7) (16 * i'))) = cQ 5 16 (rar 13 (subd (-1) 16 (ρ 7) (16 * i'))); have z2 : ¬ i' = i := fun y => z (And.intro rfl y); rw [ts_s, sub_ot (by omega)]) else CC_ow (fun y => q y.symm))
theorem hk_14 {h : LH} {ρ : TS} {i : Int} (e : CE ρ 14 i) : hk h ρ (14, i) = some (cQ 6 12 (rar 16 (subd (-1) 12 (ρ 23) (12 * i)))) := hk_in (by decide) e
theorem hkp_23 {h : LH} {ρ : TS} {i j x : Int} (e : CE ρ 14 i) (hj : 0 ≤ j ∧ j < 12) : hup (hk h ρ) (14, i) (cQ 6 12 (rar 16 (upZ (subd (-1) 12 (ρ 23) (12 * i)) j x))) = hk h (ts ρ 23 (12 * i + j) x) :=
  hk_put (by decide) e (CE_ts (by decide)) (by rw [sub_up hj]; show cQ 6 12 (rar 16 (subd (-1) 12 (ts ρ 23 (12 * i + j) x 23) (12 * i))) = _; rw [ts_s]) (fun a' i' z => if q : a' = 14 then (by subst q; show cQ 6 12 (rar 16 (subd (-1) 12 (ts ρ 23 (12 * i + j) x 23) (12 * i'))) = cQ 6 12 (rar 16 (subd (-1) 12 (ρ 23) (12 * i'))); have z2 : ¬ i' = i := fun y => z (And.intro rfl y); rw [ts_s, sub_ot (by omega)]) else CC_ow (fun y => q y.symm))
theorem hk_17 {h : LH} {ρ : TS} {i : Int} (e : CE ρ 17 i) : hk h ρ (17, i) = some (cI 0 8 (arr (subd 0 8 (ρ 30) (8 * i)))) := hk_in (by decide) e
theorem hkp_30 {h : LH} {ρ : TS} {i j x : Int} (e : CE ρ 17 i) (hj : 0 ≤ j ∧ j < 8) : hup (hk h ρ) (17, i) (cI 0 8 (arr (upZ (subd 0 8 (ρ 30) (8 * i)) j x))) = hk h (ts ρ 30 (8 * i + j) x) :=
  hk_put (by decide) e (CE_ts (by decide)) (by rw [sub_up hj]; show cI 0 8 (arr (subd 0 8 (ts ρ 30 (8 * i + j) x 30) (8 * i))) = _; rw [ts_s]) (fun a' i' z => if q : a' = 17 then (by subst q; show cI 0 8 (arr (subd 0 8 (ts ρ 30 (8 * i + j) x 30) (8 * i'))) = cI 0 8 (arr (subd 0 8 (ρ 30) (8 * i'))); have z2 : ¬ i' = i := fun y => z (And.intro rfl y); rw [ts_s, sub_ot (by omega)]) else CC_ow (fun y => q y.symm))
theorem hk_18 {h : LH} {ρ : TS} {i : Int} (e : CE ρ 18 i) : hk h ρ (18, i) = some (cI 0 8 (arr (subd 0 8 (ρ 31) (8 * i)))) := hk_in (by decide) e
theorem hkp_31 {h : LH} {ρ : TS} {i j x : Int} (e : CE ρ 18 i) (hj : 0 ≤ j ∧ j < 8) : hup (hk h ρ) (18, i) (cI 0 8 (arr (upZ (subd 0 8 (ρ 31) (8 * i)) j x))) = hk h (ts ρ 31 (8 * i + j) x) :=
  hk_put (by decide) e (CE_ts (by decide)) (by rw [sub_up hj]; show cI 0 8 (arr (subd 0 8 (ts ρ 31 (8 * i + j) x 31) (8 * i))) = _; rw [ts_s]) (fun a' i' z => if q : a' = 18 then (by subst q; show cI 0 8 (arr (subd 0 8 (ts ρ 31 (8 * i + j) x 31) (8 * i'))) = cI 0 8 (arr (subd 0 8 (ρ 31) (8 * i'))); have z2 : ¬ i' = i := fun y => z (And.intro rfl y); rw [ts_s, sub_ot (by omega)]) else CC_ow (fun y => q y.symm))
theorem hk_19 {h : LH} {ρ : TS} {i : Int} (e : CE ρ 19 i) : hk h ρ (19, i) = some (cI 0 8 (arr (subd 0 8 (ρ 32) (8 * i)))) := hk_in (by decide) e
theorem hkp_32 {h : LH} {ρ : TS} {i j x : Int} (e : CE ρ 19 i) (hj : 0 ≤ j ∧ j < 8) : hup (hk h ρ) (19, i) (cI 0 8 (arr (upZ (subd 0 8 (ρ 32) (8 * i)) j x))) = hk h (ts ρ 32 (8 * i + j) x) :=
  hk_put (by decide) e (CE_ts (by decide)) (by rw [sub_up hj]; show cI 0 8 (arr (subd 0 8 (ts ρ 32 (8 * i + j) x 32) (8 * i))) = _; rw [ts_s]) (fun a' i' z => if q : a' = 19 then (by subst q; show cI 0 8 (arr (subd 0 8 (ts ρ 32 (8 * i + j) x 32) (8 * i'))) = cI 0 8 (arr (subd 0 8 (ρ 32) (8 * i'))); have z2 : ¬ i' = i := fun y => z (And.intro rfl y); rw [ts_s, sub_ot (by omega)]) else CC_ow (fun y => q y.symm))
theorem hkpa_4 {h : LH} {ρ : TS} {i j x : Int} (hx : 0 ≤ x) (e : CE ρ 2 i) (hj : 0 ≤ j ∧ j < 12) : hup (hk h ρ) (2, i) (cQ 3 12 (va_up (rar 11 (subd (-1) 12 (ρ 4) (12 * i))) j.toNat (some (11, x)))) = hk h (ts ρ 4 (12 * i + j) x) := by
  rw [← rfo_p hx, rar_up hj.1]; exact hkp_4 e hj
theorem hkpn_4 {h : LH} {ρ : TS} {i j : Int} (e : CE ρ 2 i) (hj : 0 ≤ j ∧ j < 12) : hup (hk h ρ) (2, i) (cQ 3 12 (va_up (rar 11 (subd (-1) 12 (ρ 4) (12 * i))) j.toNat none)) = hk h (ts ρ 4 (12 * i + j) (-1)) := by
  rw [show (none : Option Tg) = rfo 11 (-1) from rfl, rar_up hj.1]; exact hkp_4 e hj
theorem hkpa_5 {h : LH} {ρ : TS} {i j x : Int} (hx : 0 ≤ x) (e : CE ρ 3 i) (hj : 0 ≤ j ∧ j < 24) : hup (hk h ρ) (3, i) (cQ 4 24 (va_up (rar 12 (subd (-1) 24 (ρ 5) (24 * i))) j.toNat (some (12, x)))) = hk h (ts ρ 5 (24 * i + j) x) := by
  rw [← rfo_p hx, rar_up hj.1]; exact hkp_5 e hj
theorem hkpn_5 {h : LH} {ρ : TS} {i j : Int} (e : CE ρ 3 i) (hj : 0 ≤ j ∧ j < 24) : hup (hk h ρ) (3, i) (cQ 4 24 (va_up (rar 12 (subd (-1) 24 (ρ 5) (24 * i))) j.toNat none)) = hk h (ts ρ 5 (24 * i + j) (-1)) := by
  rw [show (none : Option Tg) = rfo 12 (-1) from rfl, rar_up hj.1]; exact hkp_5 e hj
theorem hkpa_6 {h : LH} {ρ : TS} {i j x : Int} (hx : 0 ≤ x) (e : CE ρ 4 i) (hj : 0 ≤ j ∧ j < 66) : hup (hk h ρ) (4, i) (cQ 5 66 (va_up (rar 13 (subd (-1) 66 (ρ 6) (66 * i))) j.toNat (some (13, x)))) = hk h (ts ρ 6 (66 * i + j) x) := by
  rw [← rfo_p hx, rar_up hj.1]; exact hkp_6 e hj
theorem hkpn_6 {h : LH} {ρ : TS} {i j : Int} (e : CE ρ 4 i) (hj : 0 ≤ j ∧ j < 66) : hup (hk h ρ) (4, i) (cQ 5 66 (va_up (rar 13 (subd (-1) 66 (ρ 6) (66 * i))) j.toNat none)) = hk h (ts ρ 6 (66 * i + j) (-1)) := by
  rw [show (none : Option Tg) = rfo 13 (-1) from rfl, rar_up hj.1]; exact hkp_6 e hj
theorem hkpa_7 {h : LH} {ρ : TS} {i j x : Int} (hx : 0 ≤ x) (e : CE ρ 9 i) (hj : 0 ≤ j ∧ j < 16) : hup (hk h ρ) (9, i) (cQ 5 16 (va_up (rar 13 (subd (-1) 16 (ρ 7) (16 * i))) j.toNat (some (13, x)))) = hk h (ts ρ 7 (16 * i + j) x) := by
  rw [← rfo_p hx, rar_up hj.1]; exact hkp_7 e hj
theorem hkpn_7 {h : LH} {ρ : TS} {i j : Int} (e : CE ρ 9 i) (hj : 0 ≤ j ∧ j < 16) : hup (hk h ρ) (9, i) (cQ 5 16 (va_up (rar 13 (subd (-1) 16 (ρ 7) (16 * i))) j.toNat none)) = hk h (ts ρ 7 (16 * i + j) (-1)) := by
  rw [show (none : Option Tg) = rfo 13 (-1) from rfl, rar_up hj.1]; exact hkp_7 e hj
theorem hkpa_23 {h : LH} {ρ : TS} {i j x : Int} (hx : 0 ≤ x) (e : CE ρ 14 i) (hj : 0 ≤ j ∧ j < 12) : hup (hk h ρ) (14, i) (cQ 6 12 (va_up (rar 16 (subd (-1) 12 (ρ 23) (12 * i))) j.toNat (some (16, x)))) = hk h (ts ρ 23 (12 * i + j) x) := by
  rw [← rfo_p hx, rar_up hj.1]; exact hkp_23 e hj
theorem hkpn_23 {h : LH} {ρ : TS} {i j : Int} (e : CE ρ 14 i) (hj : 0 ≤ j ∧ j < 12) : hup (hk h ρ) (14, i) (cQ 6 12 (va_up (rar 16 (subd (-1) 12 (ρ 23) (12 * i))) j.toNat none)) = hk h (ts ρ 23 (12 * i + j) (-1)) := by
  rw [show (none : Option Tg) = rfo 16 (-1) from rfl, rar_up hj.1]; exact hkp_23 e hj
