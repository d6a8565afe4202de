/-! THE LAW: a hall, from its beginning to its end -/
def th0 (v : Int) : TS := fun k _ => if k = 0 then v else if k = 17 then -1 else 0
/-- at the beginning -/
theorem th_z {v : Int} {k : Nat} (h : ¬ k = 0 ∧ ¬ k = 17) (j : Int) : th0 v k j = 0 := by unfold th0; rw [if_neg h.1, if_neg h.2]
theorem WF_0 {v : Int} (hv : v = 0 ∨ v = 1) : WF (th0 v) := by
  intro k i hk hn
  have hc : k = 0 ∨ k = 1 ∨ k = 2 ∨ k = 3 ∨ k = 4 ∨ k = 5 ∨ k = 6 ∨ k = 7 ∨ k = 8 ∨ k = 9 ∨ k = 10 ∨ k = 11 ∨ k = 12 ∨ k = 13 ∨ k = 14 ∨ k = 15 ∨ k = 16 ∨ k = 17 ∨ k = 18 ∨ k = 19 ∨ k = 20 ∨ k = 21 ∨ k = 22 ∨ k = 23 ∨ k = 25 ∨ k = 26 ∨ k = 27 ∨ k = 28 ∨ k = 29 ∨ k = 30 ∨ k = 31 ∨ k = 32 ∨ k = 33 := by omega
  rcases hc with rfl | rfl | rfl | rfl | rfl | rfl | rfl | rfl | rfl | rfl | rfl | rfl | rfl | rfl | rfl | rfl | rfl | rfl | rfl | rfl | rfl | rfl | rfl | rfl | rfl | rfl | rfl | rfl | rfl | rfl | rfl | rfl | rfl
  · show (0 : Int) ≤ v ∧ v ≤ (1 : Int)
    omega
  · rw [show th0 v 1 i = 0 from rfl]
    decide
  · rw [show th0 v 2 i = 0 from rfl]
    decide
  · rw [show th0 v 3 i = 0 from rfl]
    decide
  · rw [show th0 v 4 i = 0 from rfl]
    decide
  · rw [show th0 v 5 i = 0 from rfl]
    decide
  · rw [show th0 v 6 i = 0 from rfl]
    decide
  · rw [show th0 v 7 i = 0 from rfl]
    decide
  · rw [show th0 v 8 i = 0 from rfl]
    decide
  · rw [show th0 v 9 i = 0 from rfl]
    decide
  · rw [show th0 v 10 i = 0 from rfl]
    decide
  · rw [show th0 v 11 i = 0 from rfl]
    decide
  · rw [show th0 v 12 i = 0 from rfl]
    decide
  · rw [show th0 v 13 i = 0 from rfl]
    decide
  · rw [show th0 v 14 i = 0 from rfl]
    decide
  · rw [show th0 v 15 i = 0 from rfl]
    decide
  · rw [show th0 v 16 i = 0 from rfl]
    decide
  · rw [show th0 v 17 i = -1 from rfl]
    decide
  · rw [show th0 v 18 i = 0 from rfl]
    decide
  · rw [show th0 v 19 i = 0 from rfl]
    decide
  · rw [show th0 v 20 i = 0 from rfl]
    decide
  · rw [show th0 v 21 i = 0 from rfl]
    decide
  · rw [show th0 v 22 i = 0 from rfl]
    decide
  · rw [show th0 v 23 i = 0 from rfl]
    decide
  · rw [show th0 v 25 i = 0 from rfl]
    decide
  · rw [show th0 v 26 i = 0 from rfl]
    decide
  · rw [show th0 v 27 i = 0 from rfl]
    decide
  · rw [show th0 v 28 i = 0 from rfl]
    decide
  · rw [show th0 v 29 i = 0 from rfl]
    decide
  · rw [show th0 v 30 i = 0 from rfl]
    decide
  · rw [show th0 v 31 i = 0 from rfl]
    decide
  · rw [show th0 v 32 i = 0 from rfl]
    decide
  · rw [show th0 v 33 i = 0 from rfl]
    decide

theorem WK_0 {v : Int} (hv : v = 0 ∨ v = 1) : WK (rh0 v) := by
  intro k i hk hn
  have hc : k = 0 ∨ k = 1 ∨ k = 2 ∨ k = 3 ∨ k = 4 ∨ k = 5 ∨ k = 6 ∨ k = 7 ∨ k = 8 ∨ k = 9 ∨ k = 10 ∨ k = 11 ∨ k = 12 ∨ k = 13 ∨ k = 14 ∨ k = 15 ∨ k = 16 ∨ k = 17 ∨ k = 18 ∨ k = 19 ∨ k = 20 ∨ k = 21 ∨ k = 22 ∨ k = 23 ∨ k = 24 ∨ k = 25 ∨ k = 26 ∨ k = 27 ∨ k = 28 ∨ k = 29 ∨ k = 30 ∨ k = 31 ∨ k = 32 ∨ k = 33 ∨ k = 34 ∨ k = 35 ∨ k = 36 ∨ k = 37 ∨ k = 38 ∨ k = 39 ∨ k = 40 ∨ k = 41 ∨ k = 42 ∨ k = 43 ∨ k = 45 ∨ k = 46 := by omega
  rcases hc with rfl | rfl | rfl | rfl | rfl | rfl | rfl | rfl | rfl | rfl | rfl | rfl | rfl | rfl | rfl | rfl | rfl | rfl | rfl | rfl | rfl | rfl | rfl | rfl | rfl | rfl | rfl | rfl | rfl | rfl | rfl | rfl | rfl | rfl | rfl | rfl | rfl | rfl | rfl | rfl | rfl | rfl | rfl | rfl | rfl | rfl
  · show (0 : Int) ≤ v ∧ v ≤ (1 : Int)
    omega
  · rw [show rh0 v 1 i = 0 from rfl]
    decide
  · rw [show rh0 v 2 i = 0 from rfl]
    decide
  · rw [show rh0 v 3 i = 0 from rfl]
    decide
  · rw [show rh0 v 4 i = -1 from rfl]
    decide
  · rw [show rh0 v 5 i = -1 from rfl]
    decide
  · rw [show rh0 v 6 i = -1 from rfl]
    decide
  · rw [show rh0 v 7 i = -1 from rfl]
    decide
  · rw [show rh0 v 8 i = 0 from rfl]
    decide
  · rw [show rh0 v 9 i = 0 from rfl]
    decide
  · rw [show rh0 v 10 i = 0 from rfl]
    decide
  · rw [show rh0 v 11 i = 0 from rfl]
    decide
  · rw [show rh0 v 12 i = 0 from rfl]
    decide
  · rw [show rh0 v 13 i = 0 from rfl]
    decide
  · rw [show rh0 v 14 i = 0 from rfl]
    decide
  · rw [show rh0 v 15 i = 0 from rfl]
    decide
  · rw [show rh0 v 16 i = 0 from rfl]
    decide
  · rw [show rh0 v 17 i = 0 from rfl]
    decide
  · rw [show rh0 v 18 i = 0 from rfl]
    decide
  · rw [show rh0 v 19 i = 0 from rfl]
    decide
  · rw [show rh0 v 20 i = 0 from rfl]
    decide
  · rw [show rh0 v 21 i = 0 from rfl]
    decide
  · rw [show rh0 v 22 i = 0 from rfl]
    decide
  · rw [show rh0 v 23 i = 0 from rfl]
    decide
  · rw [show rh0 v 24 i = 0 from rfl]
    decide
  · rw [show rh0 v 25 i = 0 from rfl]
    decide
  · rw [show rh0 v 26 i = 0 from rfl]
    decide
  · rw [show rh0 v 27 i = 0 from rfl]
    decide
  · rw [show rh0 v 28 i = 0 from rfl]
    decide
  · rw [show rh0 v 29 i = 0 from rfl]
    decide
  · rw [show rh0 v 30 i = 0 from rfl]
    decide
  · rw [show rh0 v 31 i = 0 from rfl]
    decide
  · rw [show rh0 v 32 i = 0 from rfl]
    decide
  · rw [show rh0 v 33 i = 0 from rfl]
    decide
  · rw [show rh0 v 34 i = 0 from rfl]
    decide
  · rw [show rh0 v 35 i = 0 from rfl]
    decide
  · rw [show rh0 v 36 i = 0 from rfl]
    decide
  · rw [show rh0 v 37 i = -1 from rfl]
    decide
  · rw [show rh0 v 38 i = -1 from rfl]
    decide
  · rw [show rh0 v 39 i = -1 from rfl]
    decide
  · rw [show rh0 v 40 i = -1 from rfl]
    decide
  · rw [show rh0 v 41 i = -1 from rfl]
    decide
  · rw [show rh0 v 42 i = 0 from rfl]
    decide
  · rw [show rh0 v 43 i = 0 from rfl]
    decide
  · rw [show rh0 v 45 i = 0 from rfl]
    decide
  · rw [show rh0 v 46 i = 0 from rfl]
    decide

theorem RR_0 {v : Int} (hv : v = 0 ∨ v = 1) : RR (rh0 v) (th0 v) 0 := by
  have z : ∀ k : Int, k < 0 → ¬ 0 ≤ k := fun k h => by omega
  have z1 : ∀ k : Int, 1 ≤ k → k < 0 → False := fun k h1 h2 => by omega
  refine ⟨WF_0 hv, WK_0 hv, ⟨⟨rfl, rfl, rfl, rfl, rfl, rfl, Int.le_refl 0, Int.le_refl 0⟩, fun i a b => absurd a (z i b), fun i a b => absurd a (z i b), fun _ _ => rfl, fun i a b => absurd a (z i b), ⟨fun _ => rfl, fun _ => rfl⟩, fun y => absurd y (Int.lt_irrefl 0)⟩, ?_, ⟨fun _ => ⟨rfl, rfl, fun _ => ⟨rfl, rfl, rfl⟩, fun y => absurd rfl y⟩, fun y => absurd rfl y⟩, fun b _ _ _ => ⟨rfl, rfl, rfl, by show ¬ (0 : Int) = 1; decide⟩⟩
  refine ⟨⟨rfl, rfl, rfl⟩, fun k a b => (z1 k a b).elim, fun b hb => ?_, fun k a b => (z1 k a b).elim, fun k a b => (z1 k a b).elim, fun k a b => (z1 k a b).elim, fun k a b => ?_, fun k a b => (z1 k a b).elim, fun k a b => (z1 k a b).elim, fun w a b => absurd a (z w b)⟩
  · have hb1 : (0 ≤ b ∧ b < 0) ∨ (66 < b ∧ b < 66 + 0) := hb
    omega
  · have a1 : 0 ≤ 2 * k := a
    have b1 : k < 0 := b
    omega
theorem arrV_cg {c : ClassId} {N : Nat} {f f' : Nat → Int32} (e : ∀ j, j < N → f j = f' j) : arrV c N (fun j => Value.int (f j)) = arrV c N (fun j => Value.int (f' j)) := by
  unfold arrV
  congr 1
  apply congrArg
  funext j
  exact congrArg Value.int (e j.val j.isLt)
/-- a row is written otherwise beyond its end -/
theorem J_rw {X : GX} {M : MI} {pc : Nat} {ls : List (Option LV)} {st : List LV} {h : LH} {k n : Nat} {Q : LO → LH → Prop} {t : Tg} {N : Nat} {f f' : Nat → Int32} (hh : h t = some (cI 0 N f)) (e : ∀ j, j < N → f j = f' j) (kk : J X M pc ls st (hup h t (cI 0 N f')) k n Q) : J X M pc ls st h k n Q := by
  simp only [J_def] at *
  intro p e9 R s m args below meth c ψ0 h0 F ψ H locs cells slots la hR hE hL hs hl hz hc hn
  have hat : H[ψ t]? = some (arrV (xtc X 0) N (fun j => Value.int (f j))) := HR_at hR hh
  have hnew : H[ψ t]? = some (arrV (xtc X 0) N (fun j => Value.int (f' j))) := by rw [hat, arrV_cg e]
  have hR2 := HR_up hR hh rfl (fun _ _ => rfl) (c := cI 0 N f') hnew trivial
  exact kk p e9 R s m args below meth c ψ0 h0 F ψ H locs cells slots la hR2 (fun u hu => ⟨(hE u hu).1, Lt_up (hE u hu).2⟩) hL (fun w hw => Lv_mono (fun u => Lt_up) (hs w hw)) (fun w hw => Lv_mono (fun u => Lt_up) (hl w hw)) hz hc hn
theorem HW_set {g : LH} {σ : TS} {π : Int → Int64} {ρ : TS} {k : Nat} {f : Int → Int} (h0 : lnN k ≠ 0) : hup (HW g σ π ρ) (k, 0) (cI 0 (lnN k) (arr f)) = HW g (fs σ k f) π ρ := by
  have h1 := lnN_20 h0
  have h2 := lnN_31 h0
  unfold HW
  rw [hk_up (by show 20 ≤ k; omega)]
  congr 1
  funext u
  by_cases e : u = (k, 0)
  · rw [e, hup_s]
    unfold HL
    rw [if_neg (fun e => h2 (congrArg Prod.fst e)), if_pos ⟨rfl, h0⟩, fs_s]
  · rw [hup_n e]
    unfold HL
    by_cases e1 : u = (31, 0)
    · rw [if_pos e1, if_pos e1]
    · rw [if_neg e1, if_neg e1]
      by_cases e2 : u.2 = 0 ∧ lnN u.1 ≠ 0
      · rw [if_pos e2, if_pos e2, fs_n (fun z => e (Prod.ext z e2.1))]
      · rw [if_neg e2, if_neg e2]
theorem HL_at {g : LH} {σ : TS} {π : Int → Int64} {k N : Nat} (h0 : lnN k ≠ 0) (hN : lnN k = N) : HL σ π g (k, 0) = some (cI 0 N (arr (σ k))) := by
  have h2 := lnN_31 h0
  unfold HL
  rw [if_neg (fun e => h2 (congrArg Prod.fst e)), if_pos ⟨rfl, h0⟩, ← hN]
theorem lnN_c {m : Nat} (h : lnN m ≠ 0) : m = 30 ∨ m = 32 ∨ m = 33 ∨ m = 34 ∨ m = 35 ∨ m = 36 ∨ m = 37 := by
  unfold lnN at h
  split at h <;> first | omega | exact absurd rfl h
theorem HL_0 : hup (hup (hup (hup (hup (hup (hup (hup (fun _ => none) (30, 0) (cI 0 32 (fun _ => 0))) (31, 0) (cL 2 27 (fun _ => 0))) (32, 0) (cI 0 9 (fun _ => 0))) (33, 0) (cI 0 18 (fun _ => 0))) (34, 0) (cI 0 8 (fun _ => 0))) (35, 0) (cI 0 8 (fun _ => 0))) (36, 0) (cI 0 8 (fun _ => 0))) (37, 0) (cI 0 10 (fun _ => 0)) = HL (fun _ _ => 0) (fun _ => 0) (fun _ => none) := by
  funext t
  by_cases e37 : t = (37, 0)
  · rw [e37, hup_s]
    exact (congrArg (fun y => some (cI 0 10 y)) arr_0).trans (HL_at (k := 37) (σ := fun _ _ => 0) (by decide) rfl).symm
  rw [hup_n e37]
  by_cases e36 : t = (36, 0)
  · rw [e36, hup_s]
    exact (congrArg (fun y => some (cI 0 8 y)) arr_0).trans (HL_at (k := 36) (σ := fun _ _ => 0) (by decide) rfl).symm
  rw [hup_n e36]
  by_cases e35 : t = (35, 0)
  · rw [e35, hup_s]
    exact (congrArg (fun y => some (cI 0 8 y)) arr_0).trans (HL_at (k := 35) (σ := fun _ _ => 0) (by decide) rfl).symm
  rw [hup_n e35]
  by_cases e34 : t = (34, 0)
  · rw [e34, hup_s]
    exact (congrArg (fun y => some (cI 0 8 y)) arr_0).trans (HL_at (k := 34) (σ := fun _ _ => 0) (by decide) rfl).symm
  rw [hup_n e34]
  by_cases e33 : t = (33, 0)
  · rw [e33, hup_s]
    exact (congrArg (fun y => some (cI 0 18 y)) arr_0).trans (HL_at (k := 33) (σ := fun _ _ => 0) (by decide) rfl).symm
  rw [hup_n e33]
  by_cases e32 : t = (32, 0)
  · rw [e32, hup_s]
    exact (congrArg (fun y => some (cI 0 9 y)) arr_0).trans (HL_at (k := 32) (σ := fun _ _ => 0) (by decide) rfl).symm
  rw [hup_n e32]
  by_cases e31 : t = (31, 0)
  · rw [e31, hup_s]
    unfold HL
    rw [if_pos rfl]
    rfl
  rw [hup_n e31]
  by_cases e30 : t = (30, 0)
  · rw [e30, hup_s]
    exact (congrArg (fun y => some (cI 0 32 y)) arr_0).trans (HL_at (k := 30) (σ := fun _ _ => 0) (by decide) rfl).symm
  rw [hup_n e30]
  unfold HL
  rw [if_neg e31, if_neg (fun z => ?_)]
  obtain ⟨z1, z2⟩ := z
  rcases lnN_c z2 with z | z | z | z | z | z | z
  · exact e30 (Prod.ext z z1)
  · exact e32 (Prod.ext z z1)
  · exact e33 (Prod.ext z z1)
  · exact e34 (Prod.ext z z1)
  · exact e35 (Prod.ext z z1)
  · exact e36 (Prod.ext z z1)
  · exact e37 (Prod.ext z z1)
theorem and1 {s : Int} (hs : rg s) : ∃ z : Int, iI s &&& iI 1 = iI z ∧ (z = 0 ∨ z = 1) ∧ (z = 1 → ¬ s = 0) := by
  have e : iI 1 = 1 := iI_1
  have h1 : (iI s &&& 1).toBitVec.toNat ≤ 1 := by
    rw [Int32.toBitVec_and, BitVec.toNat_and]
    exact Nat.and_le_right
  have h2 : (iI s &&& 1).toInt = ((iI s &&& 1).toBitVec.toNat : Int) := BitVec.toInt_eq_toNat_of_lt (by omega)
  refine ⟨(iI s &&& 1).toInt, by rw [e, iI_toInt], by omega, fun h3 h4 => ?_⟩
  rw [h4, iI_0] at h3
  exact absurd h3 (by decide)
/-- the law's rows at the beginning -/
def S0 (x : Int) : TS := fun k z => if k = 36 then -1 else if k = 37 then (if z = 1 then -1 else if z = 9 then x else 0) else 0
def fcT (x i : Int) : TS := ts (th0 x) 1 0 i
theorem fcT_k {x i : Int} {k : Nat} (h : ¬ k = 1) : fcT x i k = th0 x k := ts_n h
theorem fcT_0 {x : Int} : fcT x 0 = th0 x := by
  have e : th0 x 1 0 = 0 := rfl
  have h := ts_id (τ := th0 x) (k := 1) (i := 0)
  rw [e] at h
  exact h
theorem fcT_s {x i : Int} : ts (fcT x i) 1 0 (fcT x i 1 0 + 1) = fcT x (i + 1) := by
  have e : fcT x i 1 0 = i := ts_self
  rw [e]
  exact ts_ts
noncomputable def beT (x : Int) : TS := inL (ts (fcT x 4) 8 0 1) (pls 4 1)
theorem pls_41 : pls 4 1 = [(0, 1), (0, 2), (0, 3), (1, 2), (1, 3), (2, 3)] := by decide
theorem beT_k {x : Int} {k : Nat} (h : k ≠ 1 ∧ k ≠ 6 ∧ k ≠ 7 ∧ k ≠ 8 ∧ k ≠ 9) : beT x k = th0 x k := by
  unfold beT
  rw [inL_k ⟨h.2.1, h.2.2.1, h.2.2.2.2⟩, ts_n h.2.2.2.1, fcT_k h.1]
theorem beT_1 {x : Int} : beT x 1 0 = 4 := by
  unfold beT
  rw [inL_k (by decide), ts_n (by decide)]
  exact ts_self
theorem beT_8 {x : Int} : beT x 8 0 = 1 := by
  unfold beT
  rw [inL_k (by decide)]
  exact ts_self
theorem beT_9 {x : Int} : beT x 9 0 = 6 := by
  have e : (ts (fcT x 4) 8 0 1) 9 0 = 0 := by rw [ts_n (by decide), fcT_k (by decide)]; rfl
  unfold beT
  rw [inL_9, e, pls_41]
  rfl
theorem in1_b {τ : TS} {a b n : Int} (h : τ 9 0 = n) : (∀ z, in1 τ a b 6 z = if z = n then a else τ 6 z) ∧ (∀ z, in1 τ a b 7 z = if z = n then b else τ 7 z) ∧ in1 τ a b 9 0 = n + 1 := by
  subst h
  exact ⟨fun z => rfl, fun z => rfl, rfl⟩
theorem beT_p {x b : Int} (h0 : 0 ≤ b) (h1 : b < 6) : (beT x 6 b = if b < 3 then 0 else if b < 5 then 1 else 2) ∧ (beT x 7 b = if b < 3 then b + 1 else if b < 5 then b - 1 else 3) := by
  unfold beT
  rw [pls_41]
  generalize hu : ts (fcT x 4) 8 0 1 = u
  have e : u 9 0 = 0 := by rw [← hu, ts_n (by decide), fcT_k (by decide)]; rfl
  obtain ⟨a1, b1, c1⟩ := in1_b (a := 0) (b := 1) e
  obtain ⟨a2, b2, c2⟩ := in1_b (a := 0) (b := 2) c1
  obtain ⟨a3, b3, c3⟩ := in1_b (a := 0) (b := 3) c2
  obtain ⟨a4, b4, c4⟩ := in1_b (a := 1) (b := 2) c3
  obtain ⟨a5, b5, c5⟩ := in1_b (a := 1) (b := 3) c4
  obtain ⟨a6, b6, c6⟩ := in1_b (a := 2) (b := 3) c5
  show in1 (in1 (in1 (in1 (in1 (in1 u 0 1) 0 2) 0 3) 1 2) 1 3) 2 3 6 b = _ ∧ in1 (in1 (in1 (in1 (in1 (in1 u 0 1) 0 2) 0 3) 1 2) 1 3) 2 3 7 b = _
  rw [a6, a5, a4, a3, a2, a1, b6, b5, b4, b3, b2, b1]
  have hb : b = 0 ∨ b = 1 ∨ b = 2 ∨ b = 3 ∨ b = 4 ∨ b = 5 := by omega
  rcases hb with rfl | rfl | rfl | rfl | rfl | rfl <;> exact ⟨rfl, rfl⟩
theorem LW_0 {x : Int} {π : Int → Int64} : LW (S0 x) π (beT x) := by
  refine ⟨⟨⟨?_, ?_, ?_, ?_, ?_⟩, ?_, ?_, ?_⟩, ?_, ?_, ⟨?_, ?_⟩, ?_, ⟨?_, ?_⟩, ?_⟩
  · rw [beT_k (by decide)]; rfl
  · exact beT_1
  · rw [beT_k (by decide)]; rfl
  · exact beT_8
  · exact beT_9
  · rw [beT_k (by decide)]; rfl
  · rw [beT_k (by decide)]; rfl
  · rw [beT_k (by decide)]; rfl
  · intro y b b0 b1
    obtain ⟨h1, h2⟩ := beT_p (x := x) b0 b1
    rw [h1, h2]
    unfold lfen
    have e1 : ¬ 5 < b := by omega
    rw [if_neg e1, if_neg e1, if_pos rfl, if_neg (show ¬ (1 : Int) = 0 by decide)]
    exact ⟨rfl, rfl⟩
  · intro i i0 i1
    have e : S0 x 37 0 = 0 := rfl
    omega
  · intro _
    rw [beT_k (by decide)]
    rfl
  · intro h
    have e : S0 x 37 1 = -1 := rfl
    omega
  · intro b b0 b1
    rw [beT_k (k := 10) (by decide), beT_k (k := 11) (by decide)]
    exact ⟨rfl, rfl, rfl⟩
  · intro h
    have e : S0 x 37 7 = 0 := rfl
    omega
  · intro _
    exact ⟨fun _ => rfl, fun _ _ _ => rfl⟩
  · intro b j b0 b1 j0 j1
    have e : S0 x 32 b = 0 := rfl
    omega
theorem WL_0 {x : Int} : WL (S0 x) := by
  intro k z hk
  rcases hk with rfl | rfl | rfl | rfl | rfl | rfl
  · show (lbd 30).1 ≤ (0 : Int) ∧ (0 : Int) ≤ (lbd 30).2; decide
  · show (lbd 32).1 ≤ (0 : Int) ∧ (0 : Int) ≤ (lbd 32).2; decide
  · show (lbd 33).1 ≤ (0 : Int) ∧ (0 : Int) ≤ (lbd 33).2; decide
  · show (lbd 34).1 ≤ (0 : Int) ∧ (0 : Int) ≤ (lbd 34).2; decide
  · show (lbd 35).1 ≤ (0 : Int) ∧ (0 : Int) ≤ (lbd 35).2; decide
  · show (lbd 36).1 ≤ (-1 : Int) ∧ (-1 : Int) ≤ (lbd 36).2; decide
theorem LM_0 {x : Int} (h : x = 0 ∨ x = 1) : LM (S0 x) := by
  have e0 : S0 x 37 0 = 0 := rfl
  have e1 : S0 x 37 1 = -1 := rfl
  have e2 : S0 x 37 2 = 0 := rfl
  have e3 : S0 x 37 3 = 0 := rfl
  have e4 : S0 x 37 4 = 0 := rfl
  have e6 : S0 x 37 6 = 0 := rfl
  have e7 : S0 x 37 7 = 0 := rfl
  have e9 : S0 x 37 9 = x := rfl
  unfold LM
  rw [e0, e1, e2, e3, e4, e6, e7, e9]
  omega
theorem IV_0 {x : Int} {π : Int → Int64} {ρ : TS} (h : x = 0 ∨ x = 1) (R : RR ρ (beT x) 0) : IV (S0 x) π (fun _ => none) ρ (beT x) 0 := ⟨LW_0, WL_0, LM_0 h, ⟨0, fun _ _ => rfl⟩, R, by have e : S0 x 37 8 = 0 := rfl; omega, by omega⟩
theorem bg_8 {X : GX} {g : LH} {σh ρ τ : TS} {π : Int → Int64} {c : Int} (R : RR ρ τ c) (h9 : τ 9 0 = 6) (h21 : τ 21 0 = 0) : CT X mL_begun [vR (some (1, 0)), vI (iI 6), vI (iI 0), vI (iI 0)] (HW g σh π ρ) (rQ (fun o h' => o = some (vI (iI (-8))) ∧ h' = HW g σh π ρ)) := by
  have hp : ¬ (((0 ≤ (6 : Int) ∧ (6 : Int) ≤ τ 9 0 - 1) ∨ (0 < τ 21 0 ∧ 101 ≤ (6 : Int) ∧ (6 : Int) ≤ 99 + τ 21 0)) ∧ (0 ≤ (0 : Int) ∧ (0 : Int) ≤ τ 5 0 - 1) ∧ 0 ≤ (0 : Int) ∧ (0 : Int) ≤ τ 5 0 - 1) := by
    rintro ⟨z, -⟩
    omega
  refine CT.mono (fun o h' hq2 => ?_) (wL_begun (p_begin (h := HL σh π g) R (b := 6) (v := 0) (w := 0) (by unfold rg; omega) (by unfold rg; omega) (by unfold rg; omega)))
  cases o with
  | inl o =>
    rcases hq2 with ⟨h1, rfl, rfl⟩ | ⟨h0, -⟩
    · rw [gl1 hp]
      exact ⟨rfl, rfl⟩
    · rw [gl1 hp] at h0
      exact absurd h0 (by decide)
  | inr k => exact hq2
set_option maxRecDepth 100000 in
set_option maxHeartbeats 4000000 in
theorem hold_l {X : GX} {x : Int} (hL : xL X ≤ 260) : ∀ (a i : Nat), i + a = 90 → ∀ (σ : TS) (π : Int → Int64) (g : LH) (ρ τ : TS), IV σ π g ρ τ i → ∀ l, J X mL_holds 191 [some (vR (some tScr)), some (vI (iI x)), some (vR (some (1, 0))), some (vR (some (30, 0))), some (vR (some (31, 0))), some (vR (some (32, 0))), some (vR (some (33, 0))), some (vR (some (34, 0))), some (vR (some (35, 0))), some (vR (some (36, 0))), some (vR (some (37, 0))), some (vI (iI 1)), some (vI (iI i)), l] [] (HW g σ π ρ) (400 + 460 * a) (2400 + 2820 * a) (rQ (fun o _ => o = some (vI (iI 1)))) := by
  intro a
  induction a with
  | zero =>
    intro i hi σ π g ρ τ Ii l
    refine J_iload (M := mL_holds) dL_holds_191 rfl ?_
    refine Z_bipush (M := mL_holds) dL_holds_193 rfl ?_
    refine Z_ic_ge (M := mL_holds) (tgt := 312) (by first | assumption | exact pI_rg _ | (unfold rg; omega)) (by first | assumption | exact pI_rg _ | (unfold rg; omega)) dL_holds_195 (by decide) (fun c_195 => ?_) (fun c_195 => ?_)
    · refine J_iload (M := mL_holds) dL_holds_312 rfl ?_
      first
        | refine Z_pf (M := mL_holds) (tgt := 341) dL_holds_314 (by decide) (fun c_314 => ?_) (fun c_314 => ?_)
        | refine Z_if_eq (M := mL_holds) (tgt := 341) (by first | assumption | exact pI_rg _ | (unfold rg; omega)) dL_holds_314 (by decide) (fun c_314 => ?_) (fun c_314 => ?_)
      · exact absurd c_314 (by decide)
      · refine J_aload_n (M := mL_holds) dL_holds_317 rfl rfl ?_
        refine J_aload_n (M := mL_holds) dL_holds_318 rfl rfl ?_
        refine J_aload (M := mL_holds) dL_holds_319 rfl ?_
        refine J_aload (M := mL_holds) dL_holds_321 rfl ?_
        refine J_aload (M := mL_holds) dL_holds_323 rfl ?_
        refine J_aload (M := mL_holds) dL_holds_325 rfl ?_
        refine J_aload (M := mL_holds) dL_holds_327 rfl ?_
        refine Z_bipush (M := mL_holds) dL_holds_329 rfl ?_
        refine J_callS (M := mL_holds) (as := [_, _, _, _, _, _, _, _]) dL_holds_331 ca_L_227 ⟨by decide, by decide⟩ rfl (Nat.le_of_ble_eq_true rfl) (k' := 0) (n' := 0) (by show _ + 400 ≤ _; omega) (by show _ + 2400 ≤ _; omega) (rL_isTold Ii ⟨by decide, by decide⟩) (fun v_ h_ hv_ => ?_)
        obtain ⟨rfl, σ1, π1, g1, ρ1, τ1, rfl, I1⟩ := hv_
        first
          | refine Z_pf (M := mL_holds) (tgt := 341) dL_holds_334 (by decide) (fun c_334 => ?_) (fun c_334 => ?_)
          | refine Z_if_eq (M := mL_holds) (tgt := 341) (by first | assumption | exact pI_rg _ | (unfold rg; omega)) dL_holds_334 (by decide) (fun c_334 => ?_) (fun c_334 => ?_)
        · exact absurd c_334 (by decide)
        · refine Z_iconst (M := mL_holds) dL_holds_337 ?_
          refine J_goto (M := mL_holds) (tgt := 342) dL_holds_338 (by decide) ?_
          refine J_zret (M := mL_holds) dL_holds_342 rfl (by first | exact pI_zb _ | exact zb_of (Or.inl rfl) | exact zb_of (Or.inr rfl) | assumption) ?_
          exact rfl
    · omega
  | succ a ih =>
    intro i hi σ π g ρ τ Ii l
    refine J_iload (M := mL_holds) dL_holds_191 rfl ?_
    refine Z_bipush (M := mL_holds) dL_holds_193 rfl ?_
    refine Z_ic_ge (M := mL_holds) (tgt := 312) (by first | assumption | exact pI_rg _ | (unfold rg; omega)) (by first | assumption | exact pI_rg _ | (unfold rg; omega)) dL_holds_195 (by decide) (fun c_195 => ?_) (fun c_195 => ?_)
    · omega
    · refine J_iload (M := mL_holds) dL_holds_198 rfl ?_
      first
        | refine Z_pf (M := mL_holds) (tgt := 312) dL_holds_200 (by decide) (fun c_200 => ?_) (fun c_200 => ?_)
        | refine Z_if_eq (M := mL_holds) (tgt := 312) (by first | assumption | exact pI_rg _ | (unfold rg; omega)) dL_holds_200 (by decide) (fun c_200 => ?_) (fun c_200 => ?_)
      · exact absurd c_200 (by decide)
      · refine J_aload_n (M := mL_holds) dL_holds_203 rfl rfl ?_
        refine Z_iconst (M := mL_holds) dL_holds_204 ?_
        refine J_iload (M := mL_holds) dL_holds_205 rfl ?_
        refine Z_imul (M := mL_holds) dL_holds_207 ?_
        refine Z_iconst (M := mL_holds) dL_holds_208 ?_
        refine Z_iadd (M := mL_holds) dL_holds_209 ?_
        refine Z_ldc (M := mL_holds) (z := 10000000) dL_holds_210 kc_222 rfl ?_
        refine J_callS (M := mL_holds) (as := [_, _, _]) dL_holds_212 ca_L_163 ⟨by decide, by decide⟩ rfl (Nat.le_of_ble_eq_true rfl) (k' := 400 + 460 * (a + 1)) (n' := 2400 + 2820 * (a + 1)) (by show _ + 0 ≤ _; omega) (by show _ + 0 ≤ _; omega) (rL_from hL (by omega) (by omega)) (fun v_ h_ hv_ => ?_)
        obtain ⟨⟨y, rfl, y0, y1⟩, rfl⟩ := hv_
        refine J_istore (M := mL_holds) dL_holds_215 (by decide) ?_
        have hj263 : ∀ W : Int, 0 ≤ W → W ≤ 1000 → J X mL_holds 263 [some (vR (some tScr)), some (vI (iI x)), some (vR (some (1, 0))), some (vR (some (30, 0))), some (vR (some (31, 0))), some (vR (some (32, 0))), some (vR (some (33, 0))), some (vR (some (34, 0))), some (vR (some (35, 0))), some (vR (some (36, 0))), some (vR (some (37, 0))), some (vI (iI 1)), some (vI (iI i)), some (vI (iI y))] [vI (iI W), vI (iI (300 + 7 * i)), vR (some tScr), vR (some (37, 0)), vR (some (36, 0)), vR (some (35, 0)), vR (some (34, 0)), vR (some (33, 0)), vR (some (32, 0)), vR (some (31, 0)), vR (some (30, 0)), vR (some (1, 0))] (HW g σ π ρ) (400 + 460 * (a + 1)) (2400 + 2820 * (a + 1)) (rQ (fun o _ => o = some (vI (iI 1)))) := by
          intro W w0 w1
          refine J_iload (M := mL_holds) dL_holds_263 rfl ?_
          refine J_callS (M := mL_holds) (as := [_, _, _, _, _, _, _, _, _, _, _, _, _]) dL_holds_265 ca_L_223 ⟨by decide, by decide⟩ rfl (Nat.le_of_ble_eq_true rfl) (k' := 400 + 460 * a + 400) (n' := 2400 + 2820 * a + 2400) (by show _ + 60 ≤ _; omega) (by show _ + 420 ≤ _; omega) (rL_acts Ii (by omega) ⟨y0, by omega⟩ hL (by omega) ⟨w0, w1⟩) (fun v_ h_ hv_ => ?_)
          obtain ⟨rfl, σ1, π1, g1, ρ1, τ1, rfl, I1⟩ := hv_
          first
            | refine Z_pf (M := mL_holds) (tgt := 303) dL_holds_268 (by decide) (fun c_268 => ?_) (fun c_268 => ?_)
            | refine Z_if_eq (M := mL_holds) (tgt := 303) (by first | assumption | exact pI_rg _ | (unfold rg; omega)) dL_holds_268 (by decide) (fun c_268 => ?_) (fun c_268 => ?_)
          · exact absurd c_268 (by decide)
          · refine J_iload (M := mL_holds) dL_holds_271 rfl ?_
            refine Z_iconst (M := mL_holds) dL_holds_273 ?_
            refine Z_irem (M := mL_holds) (by omega) (by first | assumption | exact pI_rg _ | (unfold rg; omega)) (by decide) (by first | assumption | exact pI_rg _ | (unfold rg; omega)) dL_holds_274 ?_
            refine Z_iconst (M := mL_holds) dL_holds_275 ?_
            refine Z_ic_lt (M := mL_holds) (tgt := 299) (by unfold rg; omega) (by unfold rg; omega) dL_holds_276 (by decide) (fun c_276 => ?_) (fun c_276 => ?_)
            · refine Z_iconst (M := mL_holds) dL_holds_299 ?_
              refine J_goto (M := mL_holds) (tgt := 304) dL_holds_300 (by decide) ?_
              refine J_istore (M := mL_holds) dL_holds_304 (by decide) ?_
              refine Z_iinc (M := mL_holds) dL_holds_306 rfl (by decide) ?_
              refine J_goto (M := mL_holds) (tgt := 191) dL_holds_309 (by decide) ?_
              refine J_le (M := mL_holds) (k' := 400 + 460 * a) (n' := 2400 + 2820 * a) (by omega) (by omega) ?_
              exact J_sub (ih (i + 1) (by omega) _ _ _ _ _ (by rw [show ((i + 1 : Nat) : Int) = (i : Int) + 1 by push_cast; rfl]; assumption) (some (vI (iI y)))) (And.intro rfl (And.intro rfl (And.intro rfl (And.intro rfl (And.intro rfl (And.intro rfl (And.intro rfl (And.intro rfl (And.intro rfl (And.intro rfl (And.intro rfl (And.intro rfl (And.intro (vz (by push_cast; omega)) (And.intro rfl trivial))))))))))))))
            · refine J_aload_n (M := mL_holds) dL_holds_279 rfl rfl ?_
              refine J_aload_n (M := mL_holds) dL_holds_280 rfl rfl ?_
              refine J_aload (M := mL_holds) dL_holds_281 rfl ?_
              refine J_aload (M := mL_holds) dL_holds_283 rfl ?_
              refine J_aload (M := mL_holds) dL_holds_285 rfl ?_
              refine J_aload (M := mL_holds) dL_holds_287 rfl ?_
              refine J_aload (M := mL_holds) dL_holds_289 rfl ?_
              refine J_iload (M := mL_holds) dL_holds_291 rfl ?_
              refine J_callS (M := mL_holds) (as := [_, _, _, _, _, _, _, _]) dL_holds_293 ca_L_227 ⟨by decide, by decide⟩ rfl (Nat.le_of_ble_eq_true rfl) (k' := 400 + 460 * a) (n' := 2400 + 2820 * a) (by show _ + 400 ≤ _; omega) (by show _ + 2400 ≤ _; omega) (rL_isTold I1 ⟨y0, by omega⟩) (fun v_ h_ hv_ => ?_)
              obtain ⟨rfl, σ2, π2, g2, ρ2, τ2, rfl, I2⟩ := hv_
              first
                | refine Z_pf (M := mL_holds) (tgt := 303) dL_holds_296 (by decide) (fun c_296 => ?_) (fun c_296 => ?_)
                | refine Z_if_eq (M := mL_holds) (tgt := 303) (by first | assumption | exact pI_rg _ | (unfold rg; omega)) dL_holds_296 (by decide) (fun c_296 => ?_) (fun c_296 => ?_)
              · exact absurd c_296 (by decide)
              · refine Z_iconst (M := mL_holds) dL_holds_299 ?_
                refine J_goto (M := mL_holds) (tgt := 304) dL_holds_300 (by decide) ?_
                refine J_istore (M := mL_holds) dL_holds_304 (by decide) ?_
                refine Z_iinc (M := mL_holds) dL_holds_306 rfl (by decide) ?_
                refine J_goto (M := mL_holds) (tgt := 191) dL_holds_309 (by decide) ?_
                refine J_le (M := mL_holds) (k' := 400 + 460 * a) (n' := 2400 + 2820 * a) (by omega) (by omega) ?_
                exact J_sub (ih (i + 1) (by omega) _ _ _ _ _ (by rw [show ((i + 1 : Nat) : Int) = (i : Int) + 1 by push_cast; rfl]; assumption) (some (vI (iI y)))) (And.intro rfl (And.intro rfl (And.intro rfl (And.intro rfl (And.intro rfl (And.intro rfl (And.intro rfl (And.intro rfl (And.intro rfl (And.intro rfl (And.intro rfl (And.intro rfl (And.intro (vz (by push_cast; omega)) (And.intro rfl trivial))))))))))))))
        refine J_aload_n (M := mL_holds) dL_holds_217 rfl rfl ?_
        refine J_aload_n (M := mL_holds) dL_holds_218 rfl rfl ?_
        refine J_aload (M := mL_holds) dL_holds_219 rfl ?_
        refine J_aload (M := mL_holds) dL_holds_221 rfl ?_
        refine J_aload (M := mL_holds) dL_holds_223 rfl ?_
        refine J_aload (M := mL_holds) dL_holds_225 rfl ?_
        refine J_aload (M := mL_holds) dL_holds_227 rfl ?_
        refine J_aload (M := mL_holds) dL_holds_229 rfl ?_
        refine J_aload (M := mL_holds) dL_holds_231 rfl ?_
        refine J_aload_n (M := mL_holds) dL_holds_233 rfl rfl ?_
        refine Z_sipush (M := mL_holds) dL_holds_234 rfl ?_
        refine Z_bipush (M := mL_holds) dL_holds_237 rfl ?_
        refine J_iload (M := mL_holds) dL_holds_239 rfl ?_
        refine Z_imul (M := mL_holds) dL_holds_241 ?_
        refine Z_iadd (M := mL_holds) dL_holds_242 ?_
        refine J_iload (M := mL_holds) dL_holds_243 rfl ?_
        refine Z_iconst (M := mL_holds) dL_holds_245 ?_
        refine Z_ic_ge (M := mL_holds) (tgt := 253) (by unfold rg; omega) (by unfold rg; omega) dL_holds_246 (by decide) (fun c_246 => ?_) (fun c_246 => ?_)
        · refine J_aload_n (M := mL_holds) dL_holds_253 rfl rfl ?_
          refine Z_iconst (M := mL_holds) dL_holds_254 ?_
          refine J_iload (M := mL_holds) dL_holds_255 rfl ?_
          refine Z_imul (M := mL_holds) dL_holds_257 ?_
          refine Z_bipush (M := mL_holds) dL_holds_258 rfl ?_
          refine J_callD (M := mL_holds) (as := [_, _, _]) dL_holds_260 ca_L_163 ⟨by decide, by decide⟩ rfl (Nat.le_of_ble_eq_true rfl) rfl (k' := 400 + 460 * (a + 1)) (n' := 2400 + 2820 * (a + 1)) (by show _ + 0 ≤ _; omega) (by show _ + 0 ≤ _; omega) (rL_from hL (by omega) (by omega)) (fun v_ h_ hv_ => ?_)
          obtain ⟨⟨y2, rfl, y20, y21⟩, rfl⟩ := hv_
          exact hj263 y2 y20 (by omega)
        · refine Z_iconst (M := mL_holds) dL_holds_249 ?_
          refine J_goto (M := mL_holds) (tgt := 263) dL_holds_250 (by decide) ?_
          exact hj263 0 (by decide) (by decide)

set_option maxRecDepth 100000 in
set_option maxHeartbeats 4000000 in
theorem hold_f {X : GX} {x : Int} {K N : Nat} {Q : LO → LH → Prop} (kk : ∀ (ρ : TS), RR ρ (fcT x 4) 0 → J X mL_holds 153 [some (vR (some tScr)), some (vI (iI x)), some (vR (some (1, 0))), some (vR (some (30, 0))), some (vR (some (31, 0))), some (vR (some (32, 0))), some (vR (some (33, 0))), some (vR (some (34, 0))), some (vR (some (35, 0))), some (vR (some (36, 0))), some (vR (some (37, 0))), some (vI (iI 1)), none, none] [] (HW (fun _ => none) (S0 x) (fun _ => 0) ρ) K N Q) : ∀ (a i : Nat), i + a = 8 → ∀ (σ ρ : TS), (∀ z : Int, 0 ≤ z → z < i → σ 36 z = -1) → (∀ k, ¬ k = 36 → σ k = S0 x k) → RR ρ (fcT x (if i ≤ 4 then (i : Int) else 4)) 0 → J X mL_holds 107 [some (vR (some tScr)), some (vI (iI x)), some (vR (some (1, 0))), some (vR (some (30, 0))), some (vR (some (31, 0))), some (vR (some (32, 0))), some (vR (some (33, 0))), some (vR (some (34, 0))), some (vR (some (35, 0))), some (vR (some (36, 0))), some (vR (some (37, 0))), some (vI (iI 1)), some (vI (iI i)), none] [] (HW (fun _ => none) σ (fun _ => 0) ρ) (K + 1 * a) (N + 6 * a) Q := by
  intro a
  induction a with
  | zero =>
    intro i hi σ ρ hs hk R
    have e8 : i = 8 := by omega
    subst e8
    refine J_iload (M := mL_holds) dL_holds_107 rfl ?_
    refine Z_bipush (M := mL_holds) dL_holds_109 rfl ?_
    refine Z_ic_ge (M := mL_holds) (tgt := 153) (by first | assumption | exact pI_rg _ | (unfold rg; omega)) (by first | assumption | exact pI_rg _ | (unfold rg; omega)) dL_holds_111 (by decide) (fun c_111 => ?_) (fun c_111 => ?_)
    · refine J_rw (M := mL_holds) (N := 8) (f' := arr (S0 x 36)) lw36 (fun j hj => ?_) ?_
      · show iI (σ 36 (j : Int)) = iI (S0 x 36 (j : Int))
        rw [hs (j : Int) (by omega) (by omega)]
        rfl
      · have hset := HW_set (g := (fun _ => none)) (σ := σ) (π := (fun _ => 0)) (ρ := ρ) (k := 36) (f := S0 x 36) (by decide)
        have hfs : fs σ 36 (S0 x 36) = S0 x := by
          funext k
          by_cases e : k = 36
          · rw [e, fs_s]
          · rw [fs_n e, hk k e]
        rw [hfs] at hset
        refine Z_h (M := mL_holds) hset ?_
        exact J_sub (kk ρ R) (And.intro rfl (And.intro rfl (And.intro rfl (And.intro rfl (And.intro rfl (And.intro rfl (And.intro rfl (And.intro rfl (And.intro rfl (And.intro rfl (And.intro rfl (And.intro rfl trivial))))))))))))
    · omega
  | succ a ih =>
    intro i hi σ ρ hs hk R
    have hs2 : ∀ z : Int, 0 ≤ z → z < ((i + 1 : Nat) : Int) → ts σ 36 i (-1) 36 z = -1 := fun z z0 z1 => by
      rw [ts_s]
      unfold upZ
      by_cases e : z = (i : Int)
      · rw [if_pos e]
      · rw [if_neg e]
        exact hs z z0 (by omega)
    have hk2 : ∀ k, ¬ k = 36 → ts σ 36 i (-1) k = S0 x k := fun k h => by rw [ts_n h]; exact hk k h
    have e1 : i ≤ 4 → fcT x (if i ≤ 4 then (i : Int) else 4) 1 0 = i := fun h => by rw [if_pos h]; exact ts_self
    by_cases h3 : i ≤ 3
    · have e1 := e1 (by omega)
      refine J_iload (M := mL_holds) dL_holds_107 rfl ?_
      refine Z_bipush (M := mL_holds) dL_holds_109 rfl ?_
      refine Z_ic_ge (M := mL_holds) (tgt := 153) (by first | assumption | exact pI_rg _ | (unfold rg; omega)) (by first | assumption | exact pI_rg _ | (unfold rg; omega)) dL_holds_111 (by decide) (fun c_111 => ?_) (fun c_111 => ?_)
      · omega
      · refine J_aload (M := mL_holds) dL_holds_114 rfl ?_
        refine J_iload (M := mL_holds) dL_holds_116 rfl ?_
        refine Z_iconst (M := mL_holds) dL_holds_118 ?_
        refine L_iast (M := mL_holds) (kf := 36) (N := 8) dL_holds_119 (by decide) rfl (by decide) (by omega) (by omega) ?_
        refine J_iload (M := mL_holds) dL_holds_120 rfl ?_
        first
          | refine Z_pf (M := mL_holds) (tgt := 144) dL_holds_122 (by decide) (fun c_122 => ?_) (fun c_122 => ?_)
          | refine Z_if_eq (M := mL_holds) (tgt := 144) (by first | assumption | exact pI_rg _ | (unfold rg; omega)) dL_holds_122 (by decide) (fun c_122 => ?_) (fun c_122 => ?_)
        · exact absurd c_122 (by decide)
        · refine J_iload (M := mL_holds) dL_holds_125 rfl ?_
          refine Z_iconst (M := mL_holds) dL_holds_127 ?_
          refine Z_ic_gt (M := mL_holds) (tgt := 140) (by first | assumption | exact pI_rg _ | (unfold rg; omega)) (by first | assumption | exact pI_rg _ | (unfold rg; omega)) dL_holds_128 (by decide) (fun c_128 => ?_) (fun c_128 => ?_)
          · omega
          · refine J_aload_n (M := mL_holds) dL_holds_131 rfl rfl ?_
            refine J_callV (M := mL_holds) (as := []) dL_holds_132 ca_L_217 ⟨by decide, by decide⟩ lw1 rfl (Nat.le_of_ble_eq_true rfl) (k' := K + 1 * a) (n' := N + 6 * a) (by show _ + 1 ≤ _; omega) (by show _ + 6 ≤ _; omega) (cx0 (p_fencer R) (gl011 ⟨by rw [e1]; omega, by rw [fcT_k (by decide)]; rfl⟩)) (fun v_ h_ hv_ => ?_)
            obtain ⟨rfl, r2, R2, rfl⟩ := hv_
            refine Z_eq (M := mL_holds) (b := (i : Int)) e1 ?_
            rw [fcT_s] at R2
            refine J_iload (M := mL_holds) dL_holds_135 rfl ?_
            refine Z_ic_ne (M := mL_holds) (tgt := 144) (by unfold rg; omega) (by unfold rg; omega) dL_holds_137 (by decide) (fun c_137 => ?_) (fun c_137 => ?_)
            · exact absurd rfl c_137
            · refine Z_iconst (M := mL_holds) dL_holds_140 ?_
              refine J_goto (M := mL_holds) (tgt := 145) dL_holds_141 (by decide) ?_
              refine J_istore (M := mL_holds) dL_holds_145 (by decide) ?_
              refine Z_iinc (M := mL_holds) dL_holds_147 rfl (by decide) ?_
              refine J_goto (M := mL_holds) (tgt := 107) dL_holds_150 (by decide) ?_
              refine J_le (M := mL_holds) (k' := K + 1 * a) (n' := N + 6 * a) (by omega) (by omega) ?_
              exact J_sub (ih (i + 1) (by omega) (ts σ 36 i (-1)) r2 hs2 hk2 (by rw [if_pos (show i + 1 ≤ 4 by omega)]; rw [if_pos (show i ≤ 4 by omega)] at R2; exact R2)) (And.intro rfl (And.intro rfl (And.intro rfl (And.intro rfl (And.intro rfl (And.intro rfl (And.intro rfl (And.intro rfl (And.intro rfl (And.intro rfl (And.intro rfl (And.intro rfl (And.intro (vz (by push_cast; omega)) trivial)))))))))))))
    · have e4 : (if i + 1 ≤ 4 then ((i + 1 : Nat) : Int) else 4) = (if i ≤ 4 then (i : Int) else 4) := by
        by_cases q : i = 4
        · rw [if_neg (show ¬ i + 1 ≤ 4 by omega), if_pos (show i ≤ 4 by omega)]; omega
        · rw [if_neg (show ¬ i + 1 ≤ 4 by omega), if_neg (show ¬ i ≤ 4 by omega)]
      refine J_iload (M := mL_holds) dL_holds_107 rfl ?_
      refine Z_bipush (M := mL_holds) dL_holds_109 rfl ?_
      refine Z_ic_ge (M := mL_holds) (tgt := 153) (by first | assumption | exact pI_rg _ | (unfold rg; omega)) (by first | assumption | exact pI_rg _ | (unfold rg; omega)) dL_holds_111 (by decide) (fun c_111 => ?_) (fun c_111 => ?_)
      · omega
      · refine J_aload (M := mL_holds) dL_holds_114 rfl ?_
        refine J_iload (M := mL_holds) dL_holds_116 rfl ?_
        refine Z_iconst (M := mL_holds) dL_holds_118 ?_
        refine L_iast (M := mL_holds) (kf := 36) (N := 8) dL_holds_119 (by decide) rfl (by decide) (by omega) (by omega) ?_
        refine J_iload (M := mL_holds) dL_holds_120 rfl ?_
        first
          | refine Z_pf (M := mL_holds) (tgt := 144) dL_holds_122 (by decide) (fun c_122 => ?_) (fun c_122 => ?_)
          | refine Z_if_eq (M := mL_holds) (tgt := 144) (by first | assumption | exact pI_rg _ | (unfold rg; omega)) dL_holds_122 (by decide) (fun c_122 => ?_) (fun c_122 => ?_)
        · exact absurd c_122 (by decide)
        · refine J_iload (M := mL_holds) dL_holds_125 rfl ?_
          refine Z_iconst (M := mL_holds) dL_holds_127 ?_
          refine Z_ic_gt (M := mL_holds) (tgt := 140) (by first | assumption | exact pI_rg _ | (unfold rg; omega)) (by first | assumption | exact pI_rg _ | (unfold rg; omega)) dL_holds_128 (by decide) (fun c_128 => ?_) (fun c_128 => ?_)
          · refine Z_iconst (M := mL_holds) dL_holds_140 ?_
            refine J_goto (M := mL_holds) (tgt := 145) dL_holds_141 (by decide) ?_
            refine J_istore (M := mL_holds) dL_holds_145 (by decide) ?_
            refine Z_iinc (M := mL_holds) dL_holds_147 rfl (by decide) ?_
            refine J_goto (M := mL_holds) (tgt := 107) dL_holds_150 (by decide) ?_
            refine J_le (M := mL_holds) (k' := K + 1 * a) (n' := N + 6 * a) (by omega) (by omega) ?_
            exact J_sub (ih (i + 1) (by omega) (ts σ 36 i (-1)) ρ hs2 hk2 (by rw [e4]; exact R)) (And.intro rfl (And.intro rfl (And.intro rfl (And.intro rfl (And.intro rfl (And.intro rfl (And.intro rfl (And.intro rfl (And.intro rfl (And.intro rfl (And.intro rfl (And.intro rfl (And.intro (vz (by push_cast; omega)) trivial)))))))))))))
          · omega

set_option maxRecDepth 100000 in
set_option maxHeartbeats 4000000 in
theorem hold_b {X : GX} {x : Int} (hL : xL X ≤ 260) (hx : x = 0 ∨ x = 1) {ρ : TS} (R : RR ρ (fcT x 4) 0) : J X mL_holds 153 [some (vR (some tScr)), some (vI (iI x)), some (vR (some (1, 0))), some (vR (some (30, 0))), some (vR (some (31, 0))), some (vR (some (32, 0))), some (vR (some (33, 0))), some (vR (some (34, 0))), some (vR (some (35, 0))), some (vR (some (36, 0))), some (vR (some (37, 0))), some (vI (iI 1)), none, none] [] (HW (fun _ => none) (S0 x) (fun _ => 0) ρ) 43000 270000 (rQ (fun o _ => o = some (vI (iI 1)))) := by
  refine J_iload (M := mL_holds) dL_holds_153 rfl ?_
  first
    | refine Z_pf (M := mL_holds) (tgt := 185) dL_holds_155 (by decide) (fun c_155 => ?_) (fun c_155 => ?_)
    | refine Z_if_eq (M := mL_holds) (tgt := 185) (by first | assumption | exact pI_rg _ | (unfold rg; omega)) dL_holds_155 (by decide) (fun c_155 => ?_) (fun c_155 => ?_)
  · exact absurd c_155 (by decide)
  · refine J_aload_n (M := mL_holds) dL_holds_158 rfl rfl ?_
    refine Z_iconst (M := mL_holds) dL_holds_159 ?_
    refine J_callV (M := mL_holds) (as := [_]) dL_holds_160 ca_L_219 ⟨by decide, by decide⟩ lw1 rfl (Nat.le_of_ble_eq_true rfl) (k' := 42200) (n' := 263900) (by decide) (by decide) (cx0 (p_drawPools R (m := 1) (by unfold rg; omega)) (gl01 (by decide) ⟨by decide, by rw [fcT_k (by decide)]; rfl, by rw [show fcT x 4 1 0 = 4 from ts_self]; decide⟩)) (fun v_ h_ hv_ => ?_)
    obtain ⟨rfl, r2, R2, rfl⟩ := hv_
    rw [show fcT x 4 1 0 = 4 from ts_self] at R2
    have hR : RR r2 (beT x) 0 := R2
    refine Z_eq (M := mL_holds) (b := 6) (by rw [show fcT x 4 1 0 = 4 from ts_self, pls_41]; rfl) ?_
    refine Z_bipush (M := mL_holds) dL_holds_163 rfl ?_
    refine Z_ic_ne (M := mL_holds) (tgt := 185) (by unfold rg; omega) (by unfold rg; omega) dL_holds_165 (by decide) (fun c_165 => ?_) (fun c_165 => ?_)
    · exact absurd rfl c_165
    · refine J_aload_n (M := mL_holds) dL_holds_168 rfl rfl ?_
      refine Z_bipush (M := mL_holds) dL_holds_169 rfl ?_
      refine Z_iconst (M := mL_holds) dL_holds_171 ?_
      refine Z_iconst (M := mL_holds) dL_holds_172 ?_
      refine J_callW (M := mL_holds) (as := [_, _, _, _]) dL_holds_173 ca_L_144 ⟨by decide, by decide⟩ rfl (Nat.le_of_ble_eq_true rfl) (k' := 41800) (n' := 256200) (by decide) (by decide) (bg_8 hR beT_9 (by rw [beT_k (by decide)]; rfl)) (fun v_ h_ hv_ => ?_)
      obtain ⟨rfl, rfl⟩ := hv_
      refine Z_bipush (M := mL_holds) dL_holds_176 rfl ?_
      refine Z_ic_ne (M := mL_holds) (tgt := 185) (by unfold rg; omega) (by unfold rg; omega) dL_holds_178 (by decide) (fun c_178 => ?_) (fun c_178 => ?_)
      · exact absurd rfl c_178
      · refine Z_iconst (M := mL_holds) dL_holds_181 ?_
        refine J_goto (M := mL_holds) (tgt := 186) dL_holds_182 (by decide) ?_
        refine J_istore (M := mL_holds) dL_holds_186 (by decide) ?_
        refine Z_iconst (M := mL_holds) dL_holds_188 ?_
        refine J_istore (M := mL_holds) dL_holds_189 (by decide) ?_
        refine J_le (M := mL_holds) (k' := 400 + 460 * 90) (n' := 2400 + 2820 * 90) (by decide) (by decide) ?_
        exact J_sub (hold_l hL 90 0 rfl (S0 x) (fun _ => 0) (fun _ => none) r2 (beT x) (IV_0 hx hR) none) (And.intro rfl (And.intro rfl (And.intro rfl (And.intro rfl (And.intro rfl (And.intro rfl (And.intro rfl (And.intro rfl (And.intro rfl (And.intro rfl (And.intro rfl (And.intro rfl (And.intro rfl trivial)))))))))))))

-- budget left before the loop: 45982 289690
set_option maxRecDepth 100000 in
set_option maxHeartbeats 4000000 in
theorem hold_s {X : GX} {x : Int} (hL : xL X ≤ 260) (hx : x = 0 ∨ x = 1) (hne : x = 1 → ¬ (xL X : Int) = 0 → ¬ sx X 0 = 0) : J X mL_holds 14 [some (vR (some tScr)), none, none, none, none, none, none, none, none, none, none, none, none, none] [vI (iI x)] (fun _ => none) 46000 290000 (rQ (fun o _ => o = some (vI (iI 1)))) := by
  refine J_istore_n (M := mL_holds) dL_holds_14 rfl (by decide) ?_
  obtain ⟨d, hd⟩ : ∃ d, d = (if x = 0 then 0 else if (xL X : Int) = 0 then 1 else sx X 0) := ⟨_, rfl⟩
  have hdr : rg d := by
    rw [hd]
    split
    · unfold rg; omega
    · split
      · unfold rg; omega
      · exact sx_rg
  have hdx : pI (¬ d = 0) = x := by
    rcases hx with e | e
    · rw [pI_f (fun z => z (by rw [hd, if_pos e])), e]
    · rw [pI_t (by rw [hd, if_neg (by omega)]; split <;> omega), e]
  refine J_le (M := mL_holds) (k' := 45999 + 1) (n' := 289990 + 10) (by decide) (by decide) ?_
  refine J_new (M := mL_holds) (t := (1, 0)) dL_holds_15 ni_L_44 rfl (by decide) ?_
  refine J_dup (M := mL_holds) dL_holds_18 rfl ?_
  refine Z_ij (M := mL_holds) (pcB := 39) (d) (fun hj_39 => ?_) ?_
  · refine J_iload_n (M := mL_holds) dL_holds_19 rfl rfl ?_
    refine Z_if_ne (M := mL_holds) (tgt := 27) (by unfold rg; omega) dL_holds_20 (by decide) (fun c_20 => ?_) (fun c_20 => ?_)
    · refine J_aload_n (M := mL_holds) dL_holds_27 rfl rfl ?_
      refine Z_slen (M := mL_holds) dL_holds_28 ?_
      refine Z_if_ne (M := mL_holds) (tgt := 36) (by unfold rg; omega) dL_holds_29 (by decide) (fun c_29 => ?_) (fun c_29 => ?_)
      · refine J_aload_n (M := mL_holds) dL_holds_36 rfl rfl ?_
        refine Z_iconst (M := mL_holds) dL_holds_37 ?_
        refine Z_sld (M := mL_holds) dL_holds_38 hL (by decide) (by omega) ?_
        exact hj_39 _ (by rw [hd]; first | rw [if_pos (by omega)] | rw [if_neg (by omega), if_pos (by omega)] | rw [if_neg (by omega), if_neg (by omega)])
      · refine Z_iconst (M := mL_holds) dL_holds_32 ?_
        refine J_goto (M := mL_holds) (tgt := 39) dL_holds_33 (by decide) ?_
        exact hj_39 _ (by rw [hd]; first | rw [if_pos (by omega)] | rw [if_neg (by omega), if_pos (by omega)] | rw [if_neg (by omega), if_neg (by omega)])
    · refine Z_iconst (M := mL_holds) dL_holds_23 ?_
      refine J_goto (M := mL_holds) (tgt := 39) dL_holds_24 (by decide) ?_
      exact hj_39 _ (by rw [hd]; first | rw [if_pos (by omega)] | rw [if_neg (by omega), if_pos (by omega)] | rw [if_neg (by omega), if_neg (by omega)])
  refine J_callI (M := mL_holds) (t := (1, 0)) (as := [_]) dL_holds_39 ca_L_214 rfl ⟨by decide, by decide⟩ rfl (Nat.le_of_ble_eq_true rfl) (k' := 45990) (n' := 289810) (by decide) (by decide) (kX7_init (h := fun _ => none) hdr (fun _ _ _ _ => rfl)) (fun v_ h_ hv_ => ?_)
  obtain ⟨r, rfl, rfl, rfl⟩ := hv_
  rw [hdx]
  refine J_astore_n (M := mL_holds) dL_holds_42 rfl (by decide) ?_
  refine Z_bipush (M := mL_holds) dL_holds_43 rfl ?_
  refine J_le (M := mL_holds) (k' := 45989 + 1) (n' := 289778 + 32) (by decide) (by decide) ?_
  refine J_newI (M := mL_holds) (t := (30, 0)) dL_holds_45 (by rw [iI_nI]; rfl) (by decide) aw_int (by unfold hk; rw [if_neg (by decide)]) (tg_ne (by decide)) ?_
  refine Z_h (M := mL_holds) (hk_up (show 20 ≤ 30 by decide)) ?_
  refine J_astore_n (M := mL_holds) dL_holds_47 rfl (by decide) ?_
  refine Z_bipush (M := mL_holds) dL_holds_48 rfl ?_
  refine J_le (M := mL_holds) (k' := 45988 + 1) (n' := 289751 + 27) (by decide) (by decide) ?_
  refine J_newL (M := mL_holds) (t := (31, 0)) dL_holds_50 (by rw [iI_nI]; rfl) (by decide) aw_long (by unfold hk; rw [if_neg (by decide), hup_n (tg_ne (by decide))]) (tg_ne (by decide)) ?_
  refine Z_h (M := mL_holds) (hk_up (show 20 ≤ 31 by decide)) ?_
  refine J_astore (M := mL_holds) dL_holds_52 (by decide) ?_
  refine Z_bipush (M := mL_holds) dL_holds_54 rfl ?_
  refine J_le (M := mL_holds) (k' := 45987 + 1) (n' := 289742 + 9) (by decide) (by decide) ?_
  refine J_newI (M := mL_holds) (t := (32, 0)) dL_holds_56 (by rw [iI_nI]; rfl) (by decide) aw_int (by unfold hk; rw [if_neg (by decide), hup_n (tg_ne (by decide)), hup_n (tg_ne (by decide))]) (tg_ne (by decide)) ?_
  refine Z_h (M := mL_holds) (hk_up (show 20 ≤ 32 by decide)) ?_
  refine J_astore (M := mL_holds) dL_holds_58 (by decide) ?_
  refine Z_bipush (M := mL_holds) dL_holds_60 rfl ?_
  refine J_le (M := mL_holds) (k' := 45986 + 1) (n' := 289724 + 18) (by decide) (by decide) ?_
  refine J_newI (M := mL_holds) (t := (33, 0)) dL_holds_62 (by rw [iI_nI]; rfl) (by decide) aw_int (by unfold hk; rw [if_neg (by decide), hup_n (tg_ne (by decide)), hup_n (tg_ne (by decide)), hup_n (tg_ne (by decide))]) (tg_ne (by decide)) ?_
  refine Z_h (M := mL_holds) (hk_up (show 20 ≤ 33 by decide)) ?_
  refine J_astore (M := mL_holds) dL_holds_64 (by decide) ?_
  refine Z_bipush (M := mL_holds) dL_holds_66 rfl ?_
  refine J_le (M := mL_holds) (k' := 45985 + 1) (n' := 289716 + 8) (by decide) (by decide) ?_
  refine J_newI (M := mL_holds) (t := (34, 0)) dL_holds_68 (by rw [iI_nI]; rfl) (by decide) aw_int (by unfold hk; rw [if_neg (by decide), hup_n (tg_ne (by decide)), hup_n (tg_ne (by decide)), hup_n (tg_ne (by decide)), hup_n (tg_ne (by decide))]) (tg_ne (by decide)) ?_
  refine Z_h (M := mL_holds) (hk_up (show 20 ≤ 34 by decide)) ?_
  refine J_astore (M := mL_holds) dL_holds_70 (by decide) ?_
  refine Z_bipush (M := mL_holds) dL_holds_72 rfl ?_
  refine J_le (M := mL_holds) (k' := 45984 + 1) (n' := 289708 + 8) (by decide) (by decide) ?_
  refine J_newI (M := mL_holds) (t := (35, 0)) dL_holds_74 (by rw [iI_nI]; rfl) (by decide) aw_int (by unfold hk; rw [if_neg (by decide), hup_n (tg_ne (by decide)), hup_n (tg_ne (by decide)), hup_n (tg_ne (by decide)), hup_n (tg_ne (by decide)), hup_n (tg_ne (by decide))]) (tg_ne (by decide)) ?_
  refine Z_h (M := mL_holds) (hk_up (show 20 ≤ 35 by decide)) ?_
  refine J_astore (M := mL_holds) dL_holds_76 (by decide) ?_
  refine Z_bipush (M := mL_holds) dL_holds_78 rfl ?_
  refine J_le (M := mL_holds) (k' := 45983 + 1) (n' := 289700 + 8) (by decide) (by decide) ?_
  refine J_newI (M := mL_holds) (t := (36, 0)) dL_holds_80 (by rw [iI_nI]; rfl) (by decide) aw_int (by unfold hk; rw [if_neg (by decide), hup_n (tg_ne (by decide)), hup_n (tg_ne (by decide)), hup_n (tg_ne (by decide)), hup_n (tg_ne (by decide)), hup_n (tg_ne (by decide)), hup_n (tg_ne (by decide))]) (tg_ne (by decide)) ?_
  refine Z_h (M := mL_holds) (hk_up (show 20 ≤ 36 by decide)) ?_
  refine J_astore (M := mL_holds) dL_holds_82 (by decide) ?_
  refine Z_bipush (M := mL_holds) dL_holds_84 rfl ?_
  refine J_le (M := mL_holds) (k' := 45982 + 1) (n' := 289690 + 10) (by decide) (by decide) ?_
  refine J_newI (M := mL_holds) (t := (37, 0)) dL_holds_86 (by rw [iI_nI]; rfl) (by decide) aw_int (by unfold hk; rw [if_neg (by decide), hup_n (tg_ne (by decide)), hup_n (tg_ne (by decide)), hup_n (tg_ne (by decide)), hup_n (tg_ne (by decide)), hup_n (tg_ne (by decide)), hup_n (tg_ne (by decide)), hup_n (tg_ne (by decide))]) (tg_ne (by decide)) ?_
  refine Z_h (M := mL_holds) (hk_up (show 20 ≤ 37 by decide)) ?_
  refine J_astore (M := mL_holds) dL_holds_88 (by decide) ?_
  refine Z_h (M := mL_holds) (congrArg (fun z => hk z (rh0 x)) HL_0) ?_
  refine Z_h (M := mL_holds) (show hk (HL (fun _ _ => 0) (fun _ => 0) (fun _ => none)) (rh0 x) = HW (fun _ => none) (fun _ _ => 0) (fun _ => 0) (rh0 x) from rfl) ?_
  refine Z_iconst (M := mL_holds) dL_holds_90 ?_
  refine J_istore (M := mL_holds) dL_holds_91 (by decide) ?_
  refine J_aload (M := mL_holds) dL_holds_93 rfl ?_
  refine Z_iconst (M := mL_holds) dL_holds_95 ?_
  refine Z_iconst (M := mL_holds) dL_holds_96 ?_
  refine L_iast (M := mL_holds) (kf := 37) (N := 10) dL_holds_97 (by decide) rfl (by decide) (by omega) (by omega) ?_
  refine J_aload (M := mL_holds) dL_holds_98 rfl ?_
  refine Z_bipush (M := mL_holds) dL_holds_100 rfl ?_
  refine J_iload_n (M := mL_holds) dL_holds_102 rfl rfl ?_
  refine L_iast (M := mL_holds) (kf := 37) (N := 10) dL_holds_103 (by decide) rfl (by decide) (by omega) (by omega) ?_
  refine Z_iconst (M := mL_holds) dL_holds_104 ?_
  refine J_istore (M := mL_holds) dL_holds_105 (by decide) ?_
  refine J_le (M := mL_holds) (k' := 43000 + 1 * 8) (n' := 270000 + 6 * 8) (by decide) (by decide) ?_
  refine J_sub (M := mL_holds) (hold_f (x := x) (fun ρ R => hold_b hL hx R) 8 0 rfl (ts (ts (fun _ _ => 0) 37 1 (-1)) 37 9 x) (rh0 x) (fun z z0 z1 => absurd z1 (by omega)) (fun k hk => ?_) (by rw [if_pos (by decide)]; exact fcT_0 ▸ RR_0 hx)) (And.intro rfl (And.intro rfl (And.intro rfl (And.intro rfl (And.intro rfl (And.intro rfl (And.intro rfl (And.intro rfl (And.intro rfl (And.intro rfl (And.intro rfl (And.intro rfl (And.intro rfl trivial)))))))))))))
  by_cases e : k = 37
  · subst e
    funext z
    rw [ts_s, ts_s]
    unfold upZ S0
    rw [if_neg (show ¬ (37 : Nat) = 36 by decide), if_pos rfl]
    by_cases e9 : z = 9
    · rw [if_pos e9, if_neg (show ¬ z = 1 by omega), if_pos e9]
    · rw [if_neg e9, if_neg e9]
  · rw [ts_n e, ts_n e]
    funext z
    unfold S0
    rw [if_neg hk, if_neg e]

set_option maxRecDepth 100000 in
set_option maxHeartbeats 4000000 in
theorem l_holds0 {X : GX} (hL : xL X ≤ 260) : CT X mL_holds [vR (some tScr)] (fun _ => none) (rQ (fun o _ => o = some (vI (iI 1)))) := by
  refine CT_of (by decide +kernel) rfl (Nat.le_of_ble_eq_true rfl) ?_
  refine J_aload_n (M := mL_holds) dL_holds_0 rfl rfl ?_
  refine Z_slen (M := mL_holds) dL_holds_1 ?_
  refine Z_if_ne (M := mL_holds) (tgt := 9) (by unfold rg; omega) dL_holds_2 (by decide) (fun c_2 => ?_) (fun c_2 => ?_)
  · refine J_aload_n (M := mL_holds) dL_holds_9 rfl rfl ?_
    refine Z_iconst (M := mL_holds) dL_holds_10 ?_
    refine Z_sld (M := mL_holds) dL_holds_11 hL (by decide) (by omega) ?_
    refine Z_iconst (M := mL_holds) dL_holds_12 ?_
    refine J_iand (M := mL_holds) dL_holds_13 ?_
    obtain ⟨x, hx0, hx, hx1⟩ := and1 (sx_rg (X := X) (i := 0))
    refine J_eq (M := mL_holds) hx0 ?_
    exact hold_s hL hx (fun z _ => hx1 z)
  · refine Z_iconst (M := mL_holds) dL_holds_5 ?_
    refine J_goto (M := mL_holds) (tgt := 14) dL_holds_6 (by decide) ?_
    exact hold_s hL (Or.inr rfl) (fun _ z => absurd (by omega) z)

set_option maxRecDepth 100000 in
set_option maxHeartbeats 4000000 in
theorem l_isHeld {X : GX} (hL : xL X ≤ 260) : CT X mL_isHeld [vR (some tScr)] (fun _ => none) (rQ (fun o _ => o = some (vI (iI 1)))) := by
  refine CT_of (by decide +kernel) rfl (Nat.le_of_ble_eq_true rfl) ?_
  refine J_aload_n (M := mL_isHeld) dL_isHeld_0 rfl rfl ?_
  refine J_callS (M := mL_isHeld) (as := [_]) dL_isHeld_1 ca_L_230 ⟨by decide, by decide⟩ rfl (Nat.le_of_ble_eq_true rfl) (k' := 0) (n' := 0) (by decide) (by decide) (l_holds0 hL) (fun v_ h_ hv_ => ?_)
  subst hv_
  refine J_zret (M := mL_isHeld) dL_isHeld_4 rfl (by first | exact pI_zb _ | exact zb_of (Or.inl rfl) | exact zb_of (Or.inr rfl) | assumption) ?_
  exact rfl

set_option maxRecDepth 100000 in
set_option maxHeartbeats 4000000 in
theorem law_J {X : GX} (hL : xL X ≤ 260) : J X mL_law 0 [some (vR (some tScr))] [] (fun _ => none) room_1.cells room_1.slots (fun o _ => o = rt (vI 1)) := by
  refine J_le (M := mL_law) (k' := 46000) (n' := 290000) (by decide) (by decide) ?_
  refine J_aload_n (M := mL_law) dL_law_0 rfl rfl ?_
  refine J_callW (M := mL_law) (as := [_]) dL_law_1 ca_L_236 ⟨by decide, by decide⟩ rfl (Nat.le_of_ble_eq_true rfl) (k' := 0) (n' := 0) (by decide) (by decide) (l_isHeld hL) (fun v_ h_ hv_ => ?_)
  subst hv_
  refine J_zret (M := mL_law) dL_law_4 rfl (by first | exact pI_zb _ | exact zb_of (Or.inl rfl) | exact zb_of (Or.inr rfl) | assumption) ?_
  show rt (vI (iI 1)) = rt (vI 1)
  rw [iI_1]

