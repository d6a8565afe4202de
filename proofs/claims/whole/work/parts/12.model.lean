/-! THE REFERENCE: its state is tau, a field and an index to an integer; scalars at the index 0 -/
abbrev TS : Type := Nat → Int → Int
def ts (τ : TS) (k : Nat) (i x : Int) : TS := fun k' => if k' = k then upZ (τ k) i x else τ k'
theorem ts_s {τ : TS} {k : Nat} {i x : Int} : ts τ k i x k = upZ (τ k) i x := if_pos rfl
theorem ts_n {τ : TS} {k k' : Nat} {i x : Int} (h : k' ≠ k) : ts τ k i x k' = τ k' := if_neg h
def aLen : Nat → Nat := fun k => match k with
  | 2 => 24
  | 3 => 24
  | 4 => 24
  | 6 => 66
  | 7 => 66
  | 10 => 82
  | 11 => 164
  | 12 => 984
  | 13 => 1968
  | 14 => 984
  | 15 => 7872
  | 16 => 7872
  | 18 => 2
  | 22 => 32
  | 23 => 32
  | 28 => 16
  | 29 => 12
  | 30 => 12
  | 31 => 12
  | 32 => 12
  | _ => 0
def aKd : Nat → Nat := fun k => match k with
  | 4 => 1
  | 23 => 1
  | _ => 0
noncomputable def mFs (τ : TS) : List LV := [vI (iI (τ 0 0)), vI (iI (τ 1 0)), vR (some (42, 0)), vR (some (43, 0)), vR (some (44, 0)), vI (iI (τ 5 0)), vR (some (46, 0)), vR (some (47, 0)), vI (iI (τ 8 0)), vI (iI (τ 9 0)), vR (some (50, 0)), vR (some (51, 0)), vR (some (52, 0)), vR (some (53, 0)), vR (some (54, 0)), vR (some (55, 0)), vR (some (56, 0)), vI (iI (τ 17 0)), vR (some (58, 0)), vI (iI (τ 19 0)), vI (iI (τ 20 0)), vI (iI (τ 21 0)), vR (some (62, 0)), vR (some (63, 0)), vI (iI (τ 24 0)), vI (iI (τ 25 0)), vI (iI (τ 26 0)), vI (iI (τ 27 0)), vR (some (68, 0)), vR (some (69, 0)), vR (some (70, 0)), vR (some (71, 0)), vR (some (72, 0)), vI (iI (τ 33 0))]
noncomputable def HMd (τ : TS) (t : Tg) : Option LC := if t = (20, 0) then some (cO 8 (mFs τ)) else if t.2 = 0 ∧ 40 ≤ t.1 ∧ aLen (t.1 - 40) ≠ 0 then some (cI (aKd (t.1 - 40)) (aLen (t.1 - 40)) (arr (τ (t.1 - 40)))) else none
noncomputable def hm (h : LH) (τ : TS) : LH := fun t => match HMd τ t with
  | some c => some c
  | none => h t
theorem hm_o {h : LH} {τ : TS} : hm h τ (20, 0) = some (cO 8 (mFs τ)) := rfl
theorem hm_at {h : LH} {τ : TS} {t : Tg} {c : LC} (e : HMd τ t = some c) : hm h τ t = some c := by unfold hm; rw [e]
theorem hm_hm {h : LH} {τ τ' : TS} : hm (hm h τ) τ' = hm h τ' := by
  funext t
  unfold hm HMd
  by_cases h1 : t = (20, 0)
  · rw [if_pos h1, if_pos h1]
  · rw [if_neg h1, if_neg h1]
    by_cases h2 : t.2 = 0 ∧ 40 ≤ t.1 ∧ aLen (t.1 - 40) ≠ 0
    · rw [if_pos h2, if_pos h2]
    · rw [if_neg h2, if_neg h2]
theorem hm_put {h : LH} {τ : TS} {k : Nat} {x : Int} (hk : aLen k = 0) (hs : (mFs τ).set k (vI (iI x)) = mFs (ts τ k 0 x)) : hup (hm h τ) (20, 0) (cO 8 ((mFs τ).set k (vI (iI x)))) = hm h (ts τ k 0 x) := by
  rw [hs]
  funext t
  by_cases h1 : t = (20, 0)
  · rw [h1]; rfl
  · rw [hup_n h1]
    unfold hm HMd
    rw [if_neg h1, if_neg h1]
    by_cases h2 : t.2 = 0 ∧ 40 ≤ t.1 ∧ aLen (t.1 - 40) ≠ 0
    · rw [if_pos h2, if_pos h2, ts_n (fun e => h2.2.2 (by rw [e]; exact hk))]
    · rw [if_neg h2, if_neg h2]
theorem mFs_arr {τ : TS} {k : Nat} {i x : Int} (hk : aLen k ≠ 0) : mFs (ts τ k i x) = mFs τ := by
  have e : ∀ j, aLen j = 0 → ts τ k i x j = τ j := fun j hj => ts_n (fun q => hk (by rw [← q]; exact hj))
  unfold mFs
  rw [e 0 rfl, e 1 rfl, e 5 rfl, e 8 rfl, e 9 rfl, e 17 rfl, e 19 rfl, e 20 rfl, e 21 rfl, e 24 rfl, e 25 rfl, e 26 rfl, e 27 rfl, e 33 rfl]
theorem hm_ast {h : LH} {τ : TS} {k : Nat} {i x : Int} (hk : aLen k ≠ 0) : hup (hm h τ) (40 + k, 0) (cI (aKd k) (aLen k) (arr (upZ (τ k) i x))) = hm h (ts τ k i x) := by
  funext t
  by_cases h1 : t = (40 + k, 0)
  · rw [h1, hup_s]
    unfold hm HMd
    rw [if_neg (fun e => by have := congrArg Prod.fst e; simp at this; omega)]
    have e1 : 40 + k - 40 = k := by omega
    simp only [e1]
    rw [if_pos ⟨trivial, by omega, hk⟩, ts_s]
  · rw [hup_n h1]
    unfold hm HMd
    by_cases h0 : t = (20, 0)
    · rw [if_pos h0, if_pos h0, mFs_arr hk]
    · rw [if_neg h0, if_neg h0]
      by_cases h2 : t.2 = 0 ∧ 40 ≤ t.1 ∧ aLen (t.1 - 40) ≠ 0
      · rw [if_pos h2, if_pos h2, ts_n (fun e => h1 (Prod.ext (show t.1 = 40 + k by omega) h2.1))]
      · rw [if_neg h2, if_neg h2]
/-- what a method of the reference owes at its end -/
def QM (h : LH) (P : Option LV → TS → Prop) : LO → LH → Prop := rQ (fun v h' => ∃ τ', h' = hm h τ' ∧ P v τ')
def CM (X : GX) (M : MI) (as : List LV) (h : LH) (τ : TS) (P : Option LV → TS → Prop) : Prop := CT X M (vR (some (20, 0)) :: as) (hm h τ) (QM h P)
theorem QM_ok {h : LH} {P : Option LV → TS → Prop} {v : Option LV} {τ : TS} (hp : P v τ) : QM h P (.inl v) (hm h τ) := ⟨τ, rfl, hp⟩
theorem CM_mono {X : GX} {M : MI} {as : List LV} {h : LH} {τ : TS} {P P' : Option LV → TS → Prop} (hq : ∀ v t, P v t → P' v t) (hc : CM X M as h τ P) : CM X M as h τ P' := CT.mono (fun o h' => by
  cases o with
  | inl v => exact fun ⟨τ', e, hp⟩ => ⟨τ', e, hq _ _ hp⟩
  | inr k => exact fun e => e) hc
section JM
variable {X : GX} {M M' : MI} {pc : Nat} {ls : List (Option LV)} {st rest as : List LV} {h : LH} {τ : TS} {k n : Nat} {P : Option LV → TS → Prop} {Q : LO → LH → Prop} {a x : Int}
theorem M_get {kf idx : Nat} {ft : FieldType} {fin : Bool} {v : LV} (d : decode (mC M) pc = .ok (.getfield idx, 3)) (f : FI (mN M).cls idx 8 kf ft fin) (hv : (mFs τ)[kf]? = some v) (kk : J X M (pc + 3) ls (v :: st) (hm h τ) k n Q) : J X M pc ls (vR (some (20, 0)) :: st) (hm h τ) k n Q := J_getf d f hm_o hv kk
theorem M_puti {kf idx : Nat} (d : decode (mC M) pc = .ok (.putfield idx, 3)) (f : FI (mN M).cls idx 8 kf .int false) (hk : aLen kf = 0) (hl : kf < 34) (hs : (mFs τ).set kf (vI (iI x)) = mFs (ts τ kf 0 x)) (kk : J X M (pc + 3) ls st (hm h (ts τ kf 0 x)) k n Q) : J X M pc ls (vI (iI x) :: vR (some (20, 0)) :: st) (hm h τ) k n Q := J_putI d f hm_o hl (by rw [hm_put hk hs]; exact kk)
theorem M_putz {kf idx : Nat} (d : decode (mC M) pc = .ok (.putfield idx, 3)) (f : FI (mN M).cls idx 8 kf .boolean false) (hx : x = 0 ∨ x = 1) (hk : aLen kf = 0) (hl : kf < 34) (hs : (mFs τ).set kf (vI (iI x)) = mFs (ts τ kf 0 x)) (kk : J X M (pc + 3) ls st (hm h (ts τ kf 0 x)) k n Q) : J X M pc ls (vI (iI x) :: vR (some (20, 0)) :: st) (hm h τ) k n Q := J_putZ d f (zb_of hx) hm_o hl (by rw [hm_put hk hs]; exact kk)
theorem M_iald {kt kf N : Nat} (d : decode (mC M) pc = .ok (.iaload, 1)) (hh : HMd τ (kt, 0) = some (cI 0 N (arr (τ kf)))) (hN : N < 2147483648) (h0 : 0 ≤ a) (h1 : a < N) (kk : J X M (pc + 1) ls (vI (iI (τ kf a)) :: st) (hm h τ) k n Q) : J X M pc ls (vI (iI a) :: vR (some (kt, 0)) :: st) (hm h τ) k n Q := Z_iald d (hm_at hh) hN h0 h1 kk
theorem M_zald {kt kf N : Nat} (d : decode (mC M) pc = .ok (.baload, 1)) (hh : HMd τ (kt, 0) = some (cI 1 N (arr (τ kf)))) (hN : N < 2147483648) (h0 : 0 ≤ a) (h1 : a < N) (kk : J X M (pc + 1) ls (vI (iI (τ kf a)) :: st) (hm h τ) k n Q) : J X M pc ls (vI (iI a) :: vR (some (kt, 0)) :: st) (hm h τ) k n Q := Z_zald d (hm_at hh) hN h0 h1 kk
theorem M_iast {kt kf N : Nat} (d : decode (mC M) pc = .ok (.iastore, 1)) (hh : HMd τ (kt, 0) = some (cI 0 N (arr (τ kf)))) (hkt : kt = 40 + kf) (hN1 : N = aLen kf) (hK : aKd kf = 0) (hN0 : aLen kf ≠ 0) (hN : N < 2147483648) (h0 : 0 ≤ a) (h1 : a < N) (kk : J X M (pc + 1) ls st (hm h (ts τ kf a x)) k n Q) : J X M pc ls (vI (iI x) :: vI (iI a) :: vR (some (kt, 0)) :: st) (hm h τ) k n Q := Z_iast d (hm_at hh) hN h0 h1 (by subst hkt; subst hN1; have e := hm_ast (h := h) (τ := τ) (i := a) (x := x) hN0; rw [hK] at e; rw [e]; exact kk)
theorem M_zast {kt kf N : Nat} (d : decode (mC M) pc = .ok (.bastore, 1)) (hx : x = 0 ∨ x = 1) (hh : HMd τ (kt, 0) = some (cI 1 N (arr (τ kf)))) (hkt : kt = 40 + kf) (hN1 : N = aLen kf) (hK : aKd kf = 1) (hN0 : aLen kf ≠ 0) (hN : N < 2147483648) (h0 : 0 ≤ a) (h1 : a < N) (kk : J X M (pc + 1) ls st (hm h (ts τ kf a x)) k n Q) : J X M pc ls (vI (iI x) :: vI (iI a) :: vR (some (kt, 0)) :: st) (hm h τ) k n Q := Z_zast d hx (hm_at hh) hN h0 h1 (by subst hkt; subst hN1; have e := hm_ast (h := h) (τ := τ) (i := a) (x := x) hN0; rw [hK] at e; rw [e]; exact kk)
theorem M_call {idx : Nat} {P' : Option LV → TS → Prop} (d : decode (mC M) pc = .ok (.invokevirtual idx, 3)) (f : VI (mN M).cls idx M' as.length 8) (hrm : rmOK M M') (hst : st = as.reverse ++ vR (some (20, 0)) :: rest) (hlen : rest.length ≤ 4) (hk : (mR M').cells = 0) (hn : (mR M').slots = 0)
    (hc : CM X M' as h τ P') (kk : ∀ v τ', P' v τ' → J X M (pc + 3) ls (v.toList ++ rest) (hm h τ') k n Q) : J X M pc ls st (hm h τ) k n Q := J_callV d f hrm hm_o hst hlen (k' := k) (n' := n) (by omega) (by omega) hc (fun v h' ⟨τ', e, hp⟩ => by rw [e]; exact kk v τ' hp)
theorem M_callS {idx : Nat} {r : Option LV} (d : decode (mC M) pc = .ok (.invokestatic idx, 3)) (f : SI (mN M).cls idx M' as.length) (hrm : rmOK M M') (hst : st = as.reverse ++ rest) (hlen : rest.length ≤ 4) (hk : (mR M').cells = 0) (hn : (mR M').slots = 0)
    (hc : CT X M' as h (rQ (fun v h' => v = r ∧ h' = h))) (kk : J X M (pc + 3) ls (r.toList ++ rest) h k n Q) : J X M pc ls st h k n Q := J_callS d f hrm hst hlen (k' := k) (n' := n) (by omega) (by omega) hc (fun v h' ⟨e1, e2⟩ => by rw [e1, e2]; exact kk)
theorem M_iret (d : decode (mC M) pc = .ok (.ireturn, 1)) (hT : mT M = some .int) (hq : P (some (vI (iI x))) τ) : J X M pc ls [vI (iI x)] (hm h τ) k n (QM h P) := J_iret d hT (QM_ok hq)
theorem M_zret (d : decode (mC M) pc = .ok (.ireturn, 1)) (hT : mT M = some .boolean) (hx : x = 0 ∨ x = 1) (hq : P (some (vI (iI x))) τ) : J X M pc ls [vI (iI x)] (hm h τ) k n (QM h P) := J_zret d hT (zb_of hx) (QM_ok hq)
theorem M_vret (d : decode (mC M) pc = .ok (.return_, 1)) (hT : mT M = none) (hq : P none τ) : J X M pc ls [] (hm h τ) k n (QM h P) := J_vret d hT (QM_ok hq)
theorem CM_of {X : GX} {M : MI} {as : List LV} {h : LH} {τ : TS} {P : Option LV → TS → Prop} (hy : plainName (mN M).cls = true) (hc : as.all c1 = true) (hlen : as.length + 1 ≤ mL M) (body : J X M 0 ((vR (some (20, 0)) :: as).map some ++ List.replicate (mL M - (as.length + 1)) none) [] (hm h τ) (mR M).cells (mR M).slots (QM h P)) : CM X M as h τ P := CT_of hy (by simp [c1, hc]) hlen body
end JM
def f_names : List String := ["foil", "fencers", "owners", "marks", "early", "weapons", "firsts", "seconds", "pools", "bouts", "ended", "used", "counts", "arms", "bench", "codes", "times", "piste", "held", "on", "fresh", "size", "winners", "changed", "gone", "one", "other", "won", "seeds", "fought", "wins", "given", "got", "last"]
