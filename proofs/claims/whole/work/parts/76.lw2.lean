/-! THE LAW: what its loop keeps -/
/-- the long that is handed on -/
def ob (f : Nat → Int64) : LH := hup (fun _ => none) (30, 0) (cL 2 1 f)
noncomputable def HL (f : Nat → Int64) (ρ τ : TS) : LH := hm (hk (ob f) ρ) τ
theorem ob_30 {f : Nat → Int64} {τ : TS} : hm (ob f) τ (30, 0) = some (cL 2 1 f) := rfl
theorem HL_30 {f : Nat → Int64} {ρ τ : TS} : HL f ρ τ (30, 0) = some (cL 2 1 f) := rfl
theorem hup_ob {f g : Nat → Int64} {τ : TS} : hup (hm (ob f) τ) (30, 0) (cL 2 1 g) = hm (ob g) τ := by
  funext t
  by_cases e : t = (30, 0)
  · rw [e, hup_s]; rfl
  · rw [hup_n e]
    unfold hm
    cases HMd τ t with
    | some c => rfl
    | none =>
      show ob f t = ob g t
      unfold ob
      rw [hup_n e, hup_n e]
theorem LQ_ob {f : Nat → Int64} {ρ τ : TS} {g v : Int} {T : TS → Prop} {o : Option LV} {h' : LH} (q : LQ (hm (ob f) τ) ρ f g v T o h') : o = some (vI (iI g)) ∧ ∃ f' r, h' = HL f' r τ ∧ (¬ g = 0 → r = ρ) ∧ (g = 0 → T r ∧ f' 0 = (iI v).toInt64) := by
  obtain ⟨q1, q2⟩ := q
  refine ⟨q1, ?_⟩
  rcases q2 with ⟨a, b⟩ | ⟨a, r, b, d⟩
  · exact ⟨f, ρ, b.trans hm_hk.symm, fun _ => rfl, fun z => absurd z a⟩
  · exact ⟨vp_updL f 0 (iI v).toInt64, r, by rw [d, hup_ob]; exact hm_hk.symm, fun z => absurd a z, fun _ => ⟨b, by unfold vp_updL; exact if_pos rfl⟩⟩
/-- after both answers -/
def AB (r : TS) (c' : Int) (f' : Nat → Int64) (g v : Int) (o : Option LV) (u : TS) : Prop := ∃ x, o = some (vI (iI x)) ∧ u 33 0 = g ∧ rg g ∧ (g = 0 → f' 0 = (iI x).toInt64 ∧ x = v) ∧ RR r u c'
theorem opA {ρ r τ t u : TS} {c c' a b d v v' : Int} {f' : Nat → Int64} {T : Prop} {o : Option LV} (R : RR ρ τ c) (hc : c ≤ c') (h1 : ¬ gl a b d = 0 → r = ρ) (h2 : gl a b d = 0 → T ∧ f' 0 = (iI v').toInt64) (ev : gl a b d = 0 → v' = v) (hT : T → RR r t c') (h33 : t 33 0 = 0) (h : ans τ (gl a b d) v t o u) : AB r c' f' (gl a b d) v o u := by
  have hg := gl_rg (a := a) (b := b) (c := d)
  have hr : rg (gl a b d) := by unfold rg; omega
  rcases h with ⟨e1, e2, e3⟩ | ⟨e1, e2, e3⟩
  · refine ⟨0, e2, by rw [e3]; exact ts_self, hr, fun z => absurd z e1, ?_⟩
    rw [e3, h1 e1]
    exact RR_mono hc (RR_33 R hg)
  · obtain ⟨y1, y2⟩ := h2 e1
    refine ⟨v, e2, by rw [e3, h33, e1], hr, fun _ => ⟨by rw [y2, ev e1], rfl⟩, ?_⟩
    rw [e3]
    exact hT y1
theorem opQ {ρ r τ t u : TS} {c c' a b d v v' : Int} {f' : Nat → Int64} {T : Prop} {o : Option LV} (R : RR ρ τ c) (hc : c ≤ c') (h1 : ¬ gl a b d = 0 → r = ρ) (h2 : gl a b d = 0 → T ∧ f' 0 = (iI v').toInt64) (ev : gl a b d = 0 → v' = v) (hT : T → RR r t c') (h : ansQ τ (gl a b d) v t o u) : AB r c' f' (gl a b d) v o u := by
  have hg := gl_rg (a := a) (b := b) (c := d)
  have hr : rg (gl a b d) := by unfold rg; omega
  obtain ⟨Wu, h⟩ := h
  rcases h with ⟨e1, e2, e3, e4⟩ | ⟨e1, e2, e3, e4⟩
  · refine ⟨0, e2, e3, hr, fun z => absurd z e1, ?_⟩
    rw [h1 e1]
    exact RR_mono hc (RR_SQ e4 Wu R)
  · obtain ⟨y1, y2⟩ := h2 e1
    refine ⟨v, e2, by rw [e3, e1], hr, fun _ => ⟨by rw [y2, ev e1], rfl⟩, ?_⟩
    exact RR_SQ e4 Wu (hT y1)
theorem opX {ρ r τ u : TS} {c c' a b d v v' : Int} {f' : Nat → Int64} {S : TS → TS} {T : Prop} {o : Option LV} (R : RR ρ τ c) (hc : c ≤ c') (h1 : ¬ gl a b d = 0 → r = ρ) (h2 : gl a b d = 0 → T ∧ f' 0 = (iI v').toInt64) (ev : gl a b d = 0 → v' = v) (hT : T → ∀ w, WF w → SQ w τ → RR r (S w) c') (h : ansX τ (gl a b d) v S o u) : AB r c' f' (gl a b d) v o u := by
  have hg := gl_rg (a := a) (b := b) (c := d)
  have hr : rg (gl a b d) := by unfold rg; omega
  obtain ⟨Wu, h⟩ := h
  rcases h with ⟨e1, e2, e3, e4⟩ | ⟨e1, e2, e3, w, Ww, Sw, e4⟩
  · refine ⟨0, e2, e3, hr, fun z => absurd z e1, ?_⟩
    rw [h1 e1]
    exact RR_mono hc (RR_SQ e4 Wu R)
  · obtain ⟨y1, y2⟩ := h2 e1
    refine ⟨v, e2, by rw [e3, e1], hr, fun _ => ⟨by rw [y2, ev e1], rfl⟩, ?_⟩
    rw [e4]
    exact hT y1 w Ww Sw
/-- the script, in integers -/
noncomputable def sx (X : GX) (i : Int) : Int := (xs X i.toNat).toInt
theorem sx_rg {X : GX} {i : Int} : rg (sx X i) := by
  have h1 := Int32.le_toInt (xs X i.toNat)
  have h2 := Int32.toInt_lt (xs X i.toNat)
  unfold rg sx
  omega
theorem Z_sld {X : GX} {M : MI} {pc : Nat} {ls : List (Option LV)} {st : List LV} {h : LH} {k n : Nat} {Q : LO → LH → Prop} {i : Int} (d : decode (mC M) pc = .ok (.iaload, 1)) (hL : xL X ≤ 2049) (h0 : 0 ≤ i) (h1 : i < xL X) (kk : J X M (pc + 1) ls (vI (iI (sx X i)) :: st) h k n Q) : J X M pc ls (vI (iI i) :: vR (some tScr) :: st) h k n Q := by
  refine J_sld d (ix_iI h0 h1 (by omega)) ?_
  unfold sx at kk
  rw [iI_toInt] at kk
  exact kk
theorem Z_slen {X : GX} {M : MI} {pc : Nat} {ls : List (Option LV)} {st : List LV} {h : LH} {k n : Nat} {Q : LO → LH → Prop} (d : decode (mC M) pc = .ok (.arraylength, 1)) (kk : J X M (pc + 1) ls (vI (iI (xL X)) :: st) h k n Q) : J X M pc ls (vR (some tScr) :: st) h k n Q := by
  refine J_slen d ?_
  rw [← iI_nI] at kk
  exact kk
theorem lg_self (a : Int64) : lg_cmp a a = iI 0 := by
  rw [iI_0]
  unfold lg_cmp
  simp
theorem fol_33 {τ : TS} : fol τ 33 0 = τ 33 0 := by rw [fol_k (by decide)]
theorem inL_33 {τ : TS} {l : List (Int × Int)} : inL τ l 33 0 = τ 33 0 := by rw [inL_k (by decide)]
/-- at the beginning -/
theorem th_z {v : Int} {k : Nat} (h : ¬ k = 0 ∧ ¬ k = 17) (j : Int) : th0 v k j = 0 := by unfold th0; rw [if_neg h.1, if_neg h.2]
theorem WF_0 {v : Int} (hv : v = 0 ∨ v = 1) : WF (th0 v) := by
  intro k i hk hn
  have hc : k = 0 ∨ k = 1 ∨ k = 2 ∨ k = 3 ∨ k = 4 ∨ k = 5 ∨ k = 6 ∨ k = 7 ∨ k = 8 ∨ k = 9 ∨ k = 10 ∨ k = 11 ∨ k = 12 ∨ k = 13 ∨ k = 14 ∨ k = 15 ∨ k = 16 ∨ k = 17 ∨ k = 18 ∨ k = 19 ∨ k = 20 ∨ k = 21 ∨ k = 22 ∨ k = 23 ∨ k = 25 ∨ k = 26 ∨ k = 27 ∨ k = 28 ∨ k = 29 ∨ k = 30 ∨ k = 31 ∨ k = 32 ∨ k = 33 := by omega
  rcases hc with rfl | rfl | rfl | rfl | rfl | rfl | rfl | rfl | rfl | rfl | rfl | rfl | rfl | rfl | rfl | rfl | rfl | rfl | rfl | rfl | rfl | rfl | rfl | rfl | rfl | rfl | rfl | rfl | rfl | rfl | rfl | rfl | rfl
  · show (0 : Int) ≤ v ∧ v ≤ (1 : Int)
    omega
  · rw [show th0 v 1 i = 0 from rfl]
    decide
  · rw [show th0 v 2 i = 0 from rfl]
    decide
  · rw [show th0 v 3 i = 0 from rfl]
    decide
  · rw [show th0 v 4 i = 0 from rfl]
    decide
  · rw [show th0 v 5 i = 0 from rfl]
    decide
  · rw [show th0 v 6 i = 0 from rfl]
    decide
  · rw [show th0 v 7 i = 0 from rfl]
    decide
  · rw [show th0 v 8 i = 0 from rfl]
    decide
  · rw [show th0 v 9 i = 0 from rfl]
    decide
  · rw [show th0 v 10 i = 0 from rfl]
    decide
  · rw [show th0 v 11 i = 0 from rfl]
    decide
  · rw [show th0 v 12 i = 0 from rfl]
    decide
  · rw [show th0 v 13 i = 0 from rfl]
    decide
  · rw [show th0 v 14 i = 0 from rfl]
    decide
  · rw [show th0 v 15 i = 0 from rfl]
    decide
  · rw [show th0 v 16 i = 0 from rfl]
    decide
  · rw [show th0 v 17 i = -1 from rfl]
    decide
  · rw [show th0 v 18 i = 0 from rfl]
    decide
  · rw [show th0 v 19 i = 0 from rfl]
    decide
  · rw [show th0 v 20 i = 0 from rfl]
    decide
  · rw [show th0 v 21 i = 0 from rfl]
    decide
  · rw [show th0 v 22 i = 0 from rfl]
    decide
  · rw [show th0 v 23 i = 0 from rfl]
    decide
  · rw [show th0 v 25 i = 0 from rfl]
    decide
  · rw [show th0 v 26 i = 0 from rfl]
    decide
  · rw [show th0 v 27 i = 0 from rfl]
    decide
  · rw [show th0 v 28 i = 0 from rfl]
    decide
  · rw [show th0 v 29 i = 0 from rfl]
    decide
  · rw [show th0 v 30 i = 0 from rfl]
    decide
  · rw [show th0 v 31 i = 0 from rfl]
    decide
  · rw [show th0 v 32 i = 0 from rfl]
    decide
  · rw [show th0 v 33 i = 0 from rfl]
    decide

theorem WK_0 {v : Int} (hv : v = 0 ∨ v = 1) : WK (rh0 v) := by
  intro k i hk hn
  have hc : k = 0 ∨ k = 1 ∨ k = 2 ∨ k = 3 ∨ k = 4 ∨ k = 5 ∨ k = 6 ∨ k = 7 ∨ k = 8 ∨ k = 9 ∨ k = 10 ∨ k = 11 ∨ k = 12 ∨ k = 13 ∨ k = 14 ∨ k = 15 ∨ k = 16 ∨ k = 17 ∨ k = 18 ∨ k = 19 ∨ k = 20 ∨ k = 21 ∨ k = 22 ∨ k = 23 ∨ k = 24 ∨ k = 25 ∨ k = 26 ∨ k = 27 ∨ k = 28 ∨ k = 29 ∨ k = 30 ∨ k = 31 ∨ k = 32 ∨ k = 33 ∨ k = 34 ∨ k = 35 ∨ k = 36 ∨ k = 37 ∨ k = 38 ∨ k = 39 ∨ k = 40 ∨ k = 41 ∨ k = 42 ∨ k = 43 ∨ k = 45 ∨ k = 46 := by omega
  rcases hc with rfl | rfl | rfl | rfl | rfl | rfl | rfl | rfl | rfl | rfl | rfl | rfl | rfl | rfl | rfl | rfl | rfl | rfl | rfl | rfl | rfl | rfl | rfl | rfl | rfl | rfl | rfl | rfl | rfl | rfl | rfl | rfl | rfl | rfl | rfl | rfl | rfl | rfl | rfl | rfl | rfl | rfl | rfl | rfl | rfl | rfl
  · show (0 : Int) ≤ v ∧ v ≤ (1 : Int)
    omega
  · rw [show rh0 v 1 i = 0 from rfl]
    decide
  · rw [show rh0 v 2 i = 0 from rfl]
    decide
  · rw [show rh0 v 3 i = 0 from rfl]
    decide
  · rw [show rh0 v 4 i = -1 from rfl]
    decide
  · rw [show rh0 v 5 i = -1 from rfl]
    decide
  · rw [show rh0 v 6 i = -1 from rfl]
    decide
  · rw [show rh0 v 7 i = -1 from rfl]
    decide
  · rw [show rh0 v 8 i = 0 from rfl]
    decide
  · rw [show rh0 v 9 i = 0 from rfl]
    decide
  · rw [show rh0 v 10 i = 0 from rfl]
    decide
  · rw [show rh0 v 11 i = 0 from rfl]
    decide
  · rw [show rh0 v 12 i = 0 from rfl]
    decide
  · rw [show rh0 v 13 i = 0 from rfl]
    decide
  · rw [show rh0 v 14 i = 0 from rfl]
    decide
  · rw [show rh0 v 15 i = 0 from rfl]
    decide
  · rw [show rh0 v 16 i = 0 from rfl]
    decide
  · rw [show rh0 v 17 i = 0 from rfl]
    decide
  · rw [show rh0 v 18 i = 0 from rfl]
    decide
  · rw [show rh0 v 19 i = 0 from rfl]
    decide
  · rw [show rh0 v 20 i = 0 from rfl]
    decide
  · rw [show rh0 v 21 i = 0 from rfl]
    decide
  · rw [show rh0 v 22 i = 0 from rfl]
    decide
  · rw [show rh0 v 23 i = 0 from rfl]
    decide
  · rw [show rh0 v 24 i = 0 from rfl]
    decide
  · rw [show rh0 v 25 i = 0 from rfl]
    decide
  · rw [show rh0 v 26 i = 0 from rfl]
    decide
  · rw [show rh0 v 27 i = 0 from rfl]
    decide
  · rw [show rh0 v 28 i = 0 from rfl]
    decide
  · rw [show rh0 v 29 i = 0 from rfl]
    decide
  · rw [show rh0 v 30 i = 0 from rfl]
    decide
  · rw [show rh0 v 31 i = 0 from rfl]
    decide
  · rw [show rh0 v 32 i = 0 from rfl]
    decide
  · rw [show rh0 v 33 i = 0 from rfl]
    decide
  · rw [show rh0 v 34 i = 0 from rfl]
    decide
  · rw [show rh0 v 35 i = 0 from rfl]
    decide
  · rw [show rh0 v 36 i = 0 from rfl]
    decide
  · rw [show rh0 v 37 i = -1 from rfl]
    decide
  · rw [show rh0 v 38 i = -1 from rfl]
    decide
  · rw [show rh0 v 39 i = -1 from rfl]
    decide
  · rw [show rh0 v 40 i = -1 from rfl]
    decide
  · rw [show rh0 v 41 i = -1 from rfl]
    decide
  · rw [show rh0 v 42 i = 0 from rfl]
    decide
  · rw [show rh0 v 43 i = 0 from rfl]
    decide
  · rw [show rh0 v 45 i = 0 from rfl]
    decide
  · rw [show rh0 v 46 i = 0 from rfl]
    decide

theorem RR_0 {v : Int} (hv : v = 0 ∨ v = 1) : RR (rh0 v) (th0 v) 0 := by
  have z : ∀ k : Int, k < 0 → ¬ 0 ≤ k := fun k h => by omega
  have z1 : ∀ k : Int, 1 ≤ k → k < 0 → False := fun k h1 h2 => by omega
  refine ⟨WF_0 hv, WK_0 hv, ⟨⟨rfl, rfl, rfl, rfl, rfl, rfl, Int.le_refl 0, Int.le_refl 0⟩, fun i a b => absurd a (z i b), fun i a b => absurd a (z i b), fun _ _ => rfl, fun i a b => absurd a (z i b), ⟨fun _ => rfl, fun _ => rfl⟩, fun y => absurd y (Int.lt_irrefl 0)⟩, ?_, ⟨fun _ => ⟨rfl, rfl, fun _ => ⟨rfl, rfl, rfl⟩, fun y => absurd rfl y⟩, fun y => absurd rfl y⟩, fun b _ _ _ => ⟨rfl, rfl, rfl, by show ¬ (0 : Int) = 1; decide⟩⟩
  refine ⟨⟨rfl, rfl, rfl⟩, fun k a b => (z1 k a b).elim, fun b hb => ?_, fun k a b => (z1 k a b).elim, fun k a b => (z1 k a b).elim, fun k a b => (z1 k a b).elim, fun k a b => ?_, fun k a b => (z1 k a b).elim, fun k a b => (z1 k a b).elim, fun w a b => absurd a (z w b)⟩
  · have hb1 : (0 ≤ b ∧ b < 0) ∨ (66 < b ∧ b < 66 + 0) := hb
    omega
  · have a1 : 0 ≤ 2 * k := a
    have b1 : k < 0 := b
    omega
theorem and31 (x : Int32) : 0 ≤ (x &&& iI 31).toInt ∧ (x &&& iI 31).toInt ≤ 31 := by
  have e : iI 31 = 31 := by rw [iI_d]; rfl
  rw [e]
  have h1 : (x &&& 31).toBitVec.toNat ≤ 31 := by
    rw [Int32.toBitVec_and, BitVec.toNat_and]
    exact Nat.and_le_right
  have h2 : (x &&& 31).toInt = ((x &&& 31).toBitVec.toNat : Int) := BitVec.toInt_eq_toNat_of_lt (by omega)
  omega
