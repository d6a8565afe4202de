/-! THE REFERENCE: WHAT A PHRASE IS JUDGED, SCORES -/
def lsub : List (Option LV) → List (Option LV) → Prop
  | [], _ => True
  | none :: a, _ :: b => lsub a b
  | none :: a, [] => lsub a []
  | some v :: a, some w :: b => v = w ∧ lsub a b
  | some _ :: _, _ => False
theorem lsub_at : ∀ (a b : List (Option LV)), lsub a b → ∀ (i : Nat) (v : LV), a[i]? = some (some v) → b[i]? = some (some v)
  | [], _, _, i, v, hv => by simp at hv
  | none :: a, x :: b, h, i, v, hv => by
    cases i with
    | zero => simp at hv
    | succ i => exact lsub_at a b h i v hv
  | none :: a, [], h, i, v, hv => by
    cases i with
    | zero => simp at hv
    | succ i =>
      have := lsub_at a [] h i v hv
      simp at this
  | some w :: a, some x :: b, h, i, v, hv => by
    cases i with
    | zero => simp at hv ⊢; rw [← h.1]; exact hv
    | succ i => exact lsub_at a b h.2 i v hv
  | some w :: a, none :: b, h, i, v, hv => h.elim
  | some w :: a, [], h, i, v, hv => h.elim
theorem J_sub {X : GX} {M : MI} {pc : Nat} {ls ls' : List (Option LV)} {st : List LV} {h : LH} {k n : Nat} {Q : LO → LH → Prop} (kk : J X M pc ls' st h k n Q) (hs : lsub ls' ls) : J X M pc ls st h k n Q := J_ls (lsub_at ls' ls hs) kk
theorem vz {a b : Int} (e : a = b) : vI (iI a) = vI (iI b) := by rw [e]
/-- an event is a contact of a side that counts -/
abbrev cntF (F : Int) (c : Int → Int) (e s : Int) : Prop := c e / 2 = s ∧ (¬ F = 0 ∨ c e % 2 = 1)
abbrev litF (F : Int) (c : Int → Int) (e : Int) : Prop := cntF F c e 0 ∨ cntF F c e 1
/-- the first light, and who had the right ahead of it -/
def jl (F : Int) (c : Int → Int) (f : Int) : Nat → Int × Int
  | 0 => (-1, -1)
  | i + 1 => if (jl F c f i).1 = -1 then (if litF F c (f + i) then f + i else -1, if 4 ≤ c (f + i) then c (f + i) - 5 else (jl F c f i).2) else jl F c f i
/-- the other side's light -/
def js (F : Int) (c : Int → Int) (s f : Int) : Nat → Int
  | 0 => -1
  | i + 1 => if js F c s f i = -1 then (if cntF F c (f + 1 + i) (1 - s) then f + 1 + i else -1) else js F c s f i
theorem jl_stay {F : Int} {c : Int → Int} {f : Int} {i : Nat} (h : ¬ (jl F c f i).1 = -1) : ∀ m, jl F c f (i + m) = jl F c f i
  | 0 => rfl
  | m + 1 => by
    have e := jl_stay h m
    show (if (jl F c f (i + m)).1 = -1 then _ else jl F c f (i + m)) = _
    rw [e, if_neg h]
theorem js_stay {F : Int} {c : Int → Int} {s f : Int} {i : Nat} (h : ¬ js F c s f i = -1) : ∀ m, js F c s f (i + m) = js F c s f i
  | 0 => rfl
  | m + 1 => by
    have e := js_stay h m
    show (if js F c s f (i + m) = -1 then _ else js F c s f (i + m)) = _
    rw [e, if_neg h]
theorem jl_in {F : Int} {c : Int → Int} {f : Int} (hf : 0 ≤ f) (hc : ∀ i, 0 ≤ c i ∧ c i ≤ 6) : ∀ i : Nat, ((jl F c f i).1 = -1 ∨ (f ≤ (jl F c f i).1 ∧ (jl F c f i).1 < f + i ∧ litF F c (jl F c f i).1)) ∧ -1 ≤ (jl F c f i).2 ∧ (jl F c f i).2 ≤ 1
  | 0 => ⟨Or.inl rfl, by show (-1 : Int) ≤ -1 ∧ (-1 : Int) ≤ 1; omega⟩
  | i + 1 => by
    have ih := jl_in hf hc i (F := F)
    have hci := hc (f + i)
    unfold jl
    by_cases h1 : (jl F c f i).1 = -1
    · rw [if_pos h1]
      refine ⟨?_, ?_⟩
      · by_cases h2 : litF F c (f + i)
        · simp only [if_pos h2]; exact Or.inr ⟨by omega, by omega, h2⟩
        · simp only [if_neg h2]; exact Or.inl trivial
      · by_cases h3 : 4 ≤ c (f + i)
        · simp only [if_pos h3]; omega
        · simp only [if_neg h3]; exact ih.2
    · rw [if_neg h1]
      rcases ih.1 with h | ⟨h2, h3, h4⟩
      · exact absurd h h1
      · exact ⟨Or.inr ⟨h2, by omega, h4⟩, ih.2⟩
theorem js_in {F : Int} {c : Int → Int} {s f : Int} (hf : 0 ≤ f) : ∀ i : Nat, js F c s f i = -1 ∨ (f < js F c s f i ∧ js F c s f i < f + 1 + i ∧ cntF F c (js F c s f i) (1 - s))
  | 0 => Or.inl rfl
  | i + 1 => by
    have ih := js_in (F := F) (c := c) (s := s) hf i
    unfold js
    by_cases h1 : js F c s f i = -1
    · rw [if_pos h1]
      by_cases h2 : cntF F c (f + 1 + i) (1 - s)
      · simp only [if_pos h2]; exact Or.inr ⟨by omega, by omega, h2⟩
      · simp only [if_neg h2]; exact Or.inl trivial
    · rw [if_neg h1]
      rcases ih with h | ⟨h2, h3, h4⟩
      · exact absurd h h1
      · exact Or.inr ⟨h2, by omega, h4⟩
def jdF (F : Int) (cn bn c t : Int → Int) (ph : Int) : Int :=
  let fr := jl F c (8 * ph) (cn ph).toNat
  if fr.1 = -1 then 0 else
    let sd := c fr.1 / 2
    let s := js F c sd fr.1 (8 * ph + cn ph - fr.1 - 1).toNat
    let r := if bn ph = -2 then fr.2 else bn ph
    if s = -1 ∨ (if F = 0 then 40 else 300) < t s - t fr.1 then (if c fr.1 % 2 = 1 then sd + 1 else 0)
    else if F = 0 then 3 else if ¬ r = -1 ∧ c (if r = sd then fr.1 else s) % 2 = 1 then r + 1 else 0
def jd (τ : TS) (ph : Int) : Int := jdF (τ 0 0) (τ 12) (τ 14) (τ 15) (τ 16) ph
theorem shl_1 {s : Int} (h : s = 0 ∨ s = 1) : iI 1 <<< (iI s &&& 31) = iI (s + 1) := by rcases h with rfl | rfl <;> simp only [iI_d] <;> decide +kernel

set_option maxRecDepth 100000 in
set_option maxHeartbeats 4000000 in
theorem c_counts {X : GX} {h : LH} {τ : TS} (W : WF τ) {e s : Int} (he0 : 0 ≤ e) (he1 : e < 7872) (hs : rg s) : CM X mX8_counts [vI (iI e), vI (iI s)] h τ (fun v t => v = some (vI (iI (pI (cntF (τ 0 0) (τ 15) e s)))) ∧ t = τ) := by
  have b1 := wf15 W e
  have b2 := wf0 W 0
  refine CM_of (by decide +kernel) rfl (Nat.le_of_ble_eq_true rfl) ?_
  refine J_aload_n (M := mX8_counts) dX8_counts_0 rfl rfl ?_
  refine M_get (M := mX8_counts) (v := vR (some (55, 0))) dX8_counts_1 fi_X8_41 rfl ?_
  refine J_iload_n (M := mX8_counts) dX8_counts_4 rfl rfl ?_
  refine M_iald (M := mX8_counts) (kf := 15) (N := 7872) dX8_counts_5 rfl (by decide) (by omega) (by omega) ?_
  refine Z_iconst (M := mX8_counts) dX8_counts_6 ?_
  refine Z_idiv (M := mX8_counts) (by omega) (by first | assumption | exact pI_rg _ | (unfold rg; omega)) (by decide) (by first | assumption | exact pI_rg _ | (unfold rg; omega)) dX8_counts_7 ?_
  refine J_iload_n (M := mX8_counts) dX8_counts_8 rfl rfl ?_
  refine Z_ic_ne (M := mX8_counts) (tgt := 35) (by first | assumption | exact pI_rg _ | (unfold rg; omega)) (by first | assumption | exact pI_rg _ | (unfold rg; omega)) dX8_counts_9 (by decide) (fun c_9 => ?_) (fun c_9 => ?_)
  · refine Z_iconst (M := mX8_counts) dX8_counts_35 ?_
    refine M_zret (M := mX8_counts) dX8_counts_36 rfl (by first | exact pI_01 _ | exact Or.inl rfl | exact Or.inr rfl | omega) ?_
    exact And.intro (r0 (by omega)) rfl
  · refine J_aload_n (M := mX8_counts) dX8_counts_12 rfl rfl ?_
    refine M_get (M := mX8_counts) dX8_counts_13 fi_X8_75 rfl ?_
    first
      | refine Z_pt (M := mX8_counts) (tgt := 31) dX8_counts_16 (by decide) (fun c_16 => ?_) (fun c_16 => ?_)
      | refine Z_if_ne (M := mX8_counts) (tgt := 31) (by first | assumption | exact pI_rg _ | (unfold rg; omega)) dX8_counts_16 (by decide) (fun c_16 => ?_) (fun c_16 => ?_)
    · refine Z_iconst (M := mX8_counts) dX8_counts_31 ?_
      refine J_goto (M := mX8_counts) (tgt := 36) dX8_counts_32 (by decide) ?_
      refine M_zret (M := mX8_counts) dX8_counts_36 rfl (by first | exact pI_01 _ | exact Or.inl rfl | exact Or.inr rfl | omega) ?_
      exact And.intro (r1 (by omega)) rfl
    · refine J_aload_n (M := mX8_counts) dX8_counts_19 rfl rfl ?_
      refine M_get (M := mX8_counts) (v := vR (some (55, 0))) dX8_counts_20 fi_X8_41 rfl ?_
      refine J_iload_n (M := mX8_counts) dX8_counts_23 rfl rfl ?_
      refine M_iald (M := mX8_counts) (kf := 15) (N := 7872) dX8_counts_24 rfl (by decide) (by omega) (by omega) ?_
      refine Z_iconst (M := mX8_counts) dX8_counts_25 ?_
      refine Z_irem (M := mX8_counts) (by omega) (by first | assumption | exact pI_rg _ | (unfold rg; omega)) (by decide) (by first | assumption | exact pI_rg _ | (unfold rg; omega)) dX8_counts_26 ?_
      refine Z_iconst (M := mX8_counts) dX8_counts_27 ?_
      refine Z_ic_ne (M := mX8_counts) (tgt := 35) (by first | assumption | exact pI_rg _ | (unfold rg; omega)) (by first | assumption | exact pI_rg _ | (unfold rg; omega)) dX8_counts_28 (by decide) (fun c_28 => ?_) (fun c_28 => ?_)
      · refine Z_iconst (M := mX8_counts) dX8_counts_35 ?_
        refine M_zret (M := mX8_counts) dX8_counts_36 rfl (by first | exact pI_01 _ | exact Or.inl rfl | exact Or.inr rfl | omega) ?_
        exact And.intro (r0 (by omega)) rfl
      · refine Z_iconst (M := mX8_counts) dX8_counts_31 ?_
        refine J_goto (M := mX8_counts) (tgt := 36) dX8_counts_32 (by decide) ?_
        refine M_zret (M := mX8_counts) dX8_counts_36 rfl (by first | exact pI_01 _ | exact Or.inl rfl | exact Or.inr rfl | omega) ?_
        exact And.intro (r1 (by omega)) rfl

set_option maxRecDepth 100000 in
set_option maxHeartbeats 4000000 in
theorem judged_l1 {X : GX} {h : LH} {τ : TS} {k n : Nat} {Q : LO → LH → Prop} (W : WF τ) {ph : Int} (hp0 : 0 ≤ ph) (hp1 : ph < 984) : ∀ (m i : Nat), (i : Int) + m = τ 12 ph → J X mX8_judged 96 [some (vR (some (20, 0))), some (vI (iI ph)), some (vI (iI (8 * ph))), some (vI (iI (8 * ph + τ 12 ph))), some (vI (iI (jl (τ 0 0) (τ 15) (8 * ph) (τ 12 ph).toNat).1)), some (vI (iI (jl (τ 0 0) (τ 15) (8 * ph) (τ 12 ph).toNat).2)), none, none, none, none] [] (hm h τ) k n Q → J X mX8_judged 23 [some (vR (some (20, 0))), some (vI (iI ph)), some (vI (iI (8 * ph))), some (vI (iI (8 * ph + τ 12 ph))), some (vI (iI (jl (τ 0 0) (τ 15) (8 * ph) i).1)), some (vI (iI (jl (τ 0 0) (τ 15) (8 * ph) i).2)), some (vI (iI (8 * ph + i))), none, none, none] [] (hm h τ) k n Q := by
  have b1 := wf12 W ph
  have b2 := wf15 W
  have b3 := jl_in (F := τ 0 0) (c := τ 15) (f := 8 * ph) (by omega) b2
  intro m
  induction m with
  | zero =>
    intro i hi kk
    have ei : i = (τ 12 ph).toNat := by omega
    subst ei
    refine J_iload (M := mX8_judged) dX8_judged_23 rfl ?_
    refine J_iload_n (M := mX8_judged) dX8_judged_25 rfl rfl ?_
    refine Z_ic_ge (M := mX8_judged) (tgt := 96) (by first | assumption | exact pI_rg _ | (unfold rg; omega)) (by first | assumption | exact pI_rg _ | (unfold rg; omega)) dX8_judged_26 (by decide) (fun c_26 => ?_) (fun c_26 => ?_)
    · exact J_sub kk (And.intro rfl (And.intro rfl (And.intro rfl (And.intro rfl (And.intro rfl (And.intro rfl trivial))))))
    · omega
  | succ m ih =>
    intro i hi kk
    have b4 := b3 i
    have b5 := b2 (8 * ph + i)
    refine J_iload (M := mX8_judged) dX8_judged_23 rfl ?_
    refine J_iload_n (M := mX8_judged) dX8_judged_25 rfl rfl ?_
    refine Z_ic_ge (M := mX8_judged) (tgt := 96) (by first | assumption | exact pI_rg _ | (unfold rg; omega)) (by first | assumption | exact pI_rg _ | (unfold rg; omega)) dX8_judged_26 (by decide) (fun c_26 => ?_) (fun c_26 => ?_)
    · omega
    · refine J_iload (M := mX8_judged) dX8_judged_29 rfl ?_
      refine Z_iconst (M := mX8_judged) dX8_judged_31 ?_
      refine Z_ic_ne (M := mX8_judged) (tgt := 96) (by first | assumption | exact pI_rg _ | (unfold rg; omega)) (by first | assumption | exact pI_rg _ | (unfold rg; omega)) dX8_judged_32 (by decide) (fun c_32 => ?_) (fun c_32 => ?_)
      · have e9 : i + (m + 1) = (τ 12 ph).toNat := by omega
        exact J_sub kk (And.intro rfl (And.intro rfl (And.intro rfl (And.intro rfl (And.intro (vz (by rw [← e9, jl_stay c_32])) (And.intro (vz (by rw [← e9, jl_stay c_32])) trivial))))))
      · have hj61 : ∀ z : Int, z = (if litF (τ 0 0) (τ 15) (8 * ph + i) then 8 * ph + i else -1) → J X mX8_judged 61 [some (vR (some (20, 0))), some (vI (iI ph)), some (vI (iI (8 * ph))), some (vI (iI (8 * ph + τ 12 ph))), some (vI (iI (jl (τ 0 0) (τ 15) (8 * ph) i).1)), some (vI (iI (jl (τ 0 0) (τ 15) (8 * ph) i).2)), some (vI (iI (8 * ph + i))), none, none, none] [vI (iI z)] (hm h τ) k n Q := by
          intro z hz
          have hj88 : ∀ y : Int, y = (if 4 ≤ τ 15 (8 * ph + i) then τ 15 (8 * ph + i) - 5 else (jl (τ 0 0) (τ 15) (8 * ph) i).2) → J X mX8_judged 88 [some (vR (some (20, 0))), some (vI (iI ph)), some (vI (iI (8 * ph))), some (vI (iI (8 * ph + τ 12 ph))), some (vI (iI z)), some (vI (iI (jl (τ 0 0) (τ 15) (8 * ph) i).2)), some (vI (iI (8 * ph + i))), none, none, none] [vI (iI y)] (hm h τ) k n Q := by
            intro y hy
            refine J_istore (M := mX8_judged) dX8_judged_88 (by decide) ?_
            refine Z_iinc (M := mX8_judged) dX8_judged_90 rfl (by decide) ?_
            refine J_goto (M := mX8_judged) (tgt := 23) dX8_judged_93 (by decide) ?_
            exact J_sub (ih (i + 1) (by omega) kk) (And.intro rfl (And.intro rfl (And.intro rfl (And.intro rfl (And.intro (vz (by show (if _ then _ else _ : Int × Int).1 = _; rw [if_pos c_32]; exact hz.symm)) (And.intro (vz (by show (if _ then _ else _ : Int × Int).2 = _; rw [if_pos c_32]; exact hy.symm)) (And.intro (vz (by push_cast; omega)) trivial)))))))
          refine J_istore (M := mX8_judged) dX8_judged_61 (by decide) ?_
          refine J_aload_n (M := mX8_judged) dX8_judged_63 rfl rfl ?_
          refine M_get (M := mX8_judged) (v := vR (some (55, 0))) dX8_judged_64 fi_X8_41 rfl ?_
          refine J_iload (M := mX8_judged) dX8_judged_67 rfl ?_
          refine M_iald (M := mX8_judged) (kf := 15) (N := 7872) dX8_judged_69 rfl (by decide) (by omega) (by omega) ?_
          refine Z_iconst (M := mX8_judged) dX8_judged_70 ?_
          refine Z_ic_lt (M := mX8_judged) (tgt := 86) (by first | assumption | exact pI_rg _ | (unfold rg; omega)) (by first | assumption | exact pI_rg _ | (unfold rg; omega)) dX8_judged_71 (by decide) (fun c_71 => ?_) (fun c_71 => ?_)
          · refine J_iload (M := mX8_judged) dX8_judged_86 rfl ?_
            first | exact hj88 _ (by rw [if_pos (by omega)]) | exact hj88 _ (by rw [if_neg (by omega)])
          · refine J_aload_n (M := mX8_judged) dX8_judged_74 rfl rfl ?_
            refine M_get (M := mX8_judged) (v := vR (some (55, 0))) dX8_judged_75 fi_X8_41 rfl ?_
            refine J_iload (M := mX8_judged) dX8_judged_78 rfl ?_
            refine M_iald (M := mX8_judged) (kf := 15) (N := 7872) dX8_judged_80 rfl (by decide) (by omega) (by omega) ?_
            refine Z_iconst (M := mX8_judged) dX8_judged_81 ?_
            refine Z_isub (M := mX8_judged) dX8_judged_82 ?_
            refine J_goto (M := mX8_judged) (tgt := 88) dX8_judged_83 (by decide) ?_
            first | exact hj88 _ (by rw [if_pos (by omega)]) | exact hj88 _ (by rw [if_neg (by omega)])
        refine J_aload_n (M := mX8_judged) dX8_judged_35 rfl rfl ?_
        refine J_iload (M := mX8_judged) dX8_judged_36 rfl ?_
        refine Z_iconst (M := mX8_judged) dX8_judged_38 ?_
        refine M_call (M := mX8_judged) (as := [_, _]) dX8_judged_39 ca_X8_118 ⟨by decide, by decide⟩ rfl (Nat.le_of_ble_eq_true rfl) rfl rfl (c_counts W (by omega) (by omega) (by unfold rg; omega)) (fun v_39 t_39 hv_39 => ?_)
        obtain ⟨rfl, e_39⟩ := hv_39
        rw [e_39]
        first
          | refine Z_pt (M := mX8_judged) (tgt := 55) dX8_judged_42 (by decide) (fun c_42 => ?_) (fun c_42 => ?_)
          | refine Z_if_ne (M := mX8_judged) (tgt := 55) (by first | assumption | exact pI_rg _ | (unfold rg; omega)) dX8_judged_42 (by decide) (fun c_42 => ?_) (fun c_42 => ?_)
        · refine J_iload (M := mX8_judged) dX8_judged_55 rfl ?_
          refine J_goto (M := mX8_judged) (tgt := 61) dX8_judged_57 (by decide) ?_
          first | exact hj61 _ (by rw [if_pos (by first | exact Or.inl c_42 | exact Or.inr c_52)]) | exact hj61 _ (by rw [if_neg (by intro q; rcases q with q | q; exact c_42 q; exact c_52 q)])
        · refine J_aload_n (M := mX8_judged) dX8_judged_45 rfl rfl ?_
          refine J_iload (M := mX8_judged) dX8_judged_46 rfl ?_
          refine Z_iconst (M := mX8_judged) dX8_judged_48 ?_
          refine M_call (M := mX8_judged) (as := [_, _]) dX8_judged_49 ca_X8_118 ⟨by decide, by decide⟩ rfl (Nat.le_of_ble_eq_true rfl) rfl rfl (c_counts W (by omega) (by omega) (by unfold rg; omega)) (fun v_49 t_49 hv_49 => ?_)
          obtain ⟨rfl, e_49⟩ := hv_49
          rw [e_49]
          first
            | refine Z_pf (M := mX8_judged) (tgt := 60) dX8_judged_52 (by decide) (fun c_52 => ?_) (fun c_52 => ?_)
            | refine Z_if_eq (M := mX8_judged) (tgt := 60) (by first | assumption | exact pI_rg _ | (unfold rg; omega)) dX8_judged_52 (by decide) (fun c_52 => ?_) (fun c_52 => ?_)
          · refine Z_iconst (M := mX8_judged) dX8_judged_60 ?_
            first | exact hj61 _ (by rw [if_pos (by first | exact Or.inl c_42 | exact Or.inr c_52)]) | exact hj61 _ (by rw [if_neg (by intro q; rcases q with q | q; exact c_42 q; exact c_52 q)])
          · refine J_iload (M := mX8_judged) dX8_judged_55 rfl ?_
            refine J_goto (M := mX8_judged) (tgt := 61) dX8_judged_57 (by decide) ?_
            first | exact hj61 _ (by rw [if_pos (by first | exact Or.inl c_42 | exact Or.inr c_52)]) | exact hj61 _ (by rw [if_neg (by intro q; rcases q with q | q; exact c_42 q; exact c_52 q)])
        

set_option maxRecDepth 100000 in
set_option maxHeartbeats 4000000 in
theorem judged_l2 {X : GX} {h : LH} {τ : TS} {k n : Nat} {Q : LO → LH → Prop} (W : WF τ) {ph f s r : Int} (hp0 : 0 ≤ ph) (hp1 : ph < 984) (hf0 : 8 * ph ≤ f) (hf1 : f < 8 * ph + τ 12 ph) (hs0 : 0 ≤ s) (hs1 : s ≤ 1) : ∀ (m i : Nat), (i : Int) + m = 8 * ph + τ 12 ph - f - 1 → J X mX8_judged 163 [some (vR (some (20, 0))), some (vI (iI ph)), some (vI (iI (8 * ph))), some (vI (iI (8 * ph + τ 12 ph))), some (vI (iI f)), some (vI (iI r)), some (vI (iI s)), some (vI (iI (js (τ 0 0) (τ 15) s f (8 * ph + τ 12 ph - f - 1).toNat))), none, none] [] (hm h τ) k n Q → J X mX8_judged 124 [some (vR (some (20, 0))), some (vI (iI ph)), some (vI (iI (8 * ph))), some (vI (iI (8 * ph + τ 12 ph))), some (vI (iI f)), some (vI (iI r)), some (vI (iI s)), some (vI (iI (js (τ 0 0) (τ 15) s f i))), some (vI (iI (f + 1 + i))), none] [] (hm h τ) k n Q := by
  have b1 := wf12 W ph
  have b2 := wf15 W
  have b3 := js_in (F := τ 0 0) (c := τ 15) (s := s) (f := f) (by omega)
  intro m
  induction m with
  | zero =>
    intro i hi kk
    have ei : i = (8 * ph + τ 12 ph - f - 1).toNat := by omega
    subst ei
    refine J_iload (M := mX8_judged) dX8_judged_124 rfl ?_
    refine J_iload_n (M := mX8_judged) dX8_judged_126 rfl rfl ?_
    refine Z_ic_ge (M := mX8_judged) (tgt := 163) (by first | assumption | exact pI_rg _ | (unfold rg; omega)) (by first | assumption | exact pI_rg _ | (unfold rg; omega)) dX8_judged_127 (by decide) (fun c_127 => ?_) (fun c_127 => ?_)
    · exact J_sub kk (And.intro rfl (And.intro rfl (And.intro rfl (And.intro rfl (And.intro rfl (And.intro rfl (And.intro rfl (And.intro rfl trivial))))))))
    · omega
  | succ m ih =>
    intro i hi kk
    have b4 := b3 i
    have b5 := b2 (f + 1 + i)
    refine J_iload (M := mX8_judged) dX8_judged_124 rfl ?_
    refine J_iload_n (M := mX8_judged) dX8_judged_126 rfl rfl ?_
    refine Z_ic_ge (M := mX8_judged) (tgt := 163) (by first | assumption | exact pI_rg _ | (unfold rg; omega)) (by first | assumption | exact pI_rg _ | (unfold rg; omega)) dX8_judged_127 (by decide) (fun c_127 => ?_) (fun c_127 => ?_)
    · omega
    · refine J_iload (M := mX8_judged) dX8_judged_130 rfl ?_
      refine Z_iconst (M := mX8_judged) dX8_judged_132 ?_
      refine Z_ic_ne (M := mX8_judged) (tgt := 163) (by first | assumption | exact pI_rg _ | (unfold rg; omega)) (by first | assumption | exact pI_rg _ | (unfold rg; omega)) dX8_judged_133 (by decide) (fun c_133 => ?_) (fun c_133 => ?_)
      · have e9 : i + (m + 1) = (8 * ph + τ 12 ph - f - 1).toNat := by omega
        exact J_sub kk (And.intro rfl (And.intro rfl (And.intro rfl (And.intro rfl (And.intro rfl (And.intro rfl (And.intro rfl (And.intro (vz (by rw [← e9, js_stay c_133])) trivial))))))))
      · have hj155 : ∀ z : Int, z = (if cntF (τ 0 0) (τ 15) (f + 1 + i) (1 - s) then f + 1 + i else -1) → J X mX8_judged 155 [some (vR (some (20, 0))), some (vI (iI ph)), some (vI (iI (8 * ph))), some (vI (iI (8 * ph + τ 12 ph))), some (vI (iI f)), some (vI (iI r)), some (vI (iI s)), some (vI (iI (js (τ 0 0) (τ 15) s f i))), some (vI (iI (f + 1 + i))), none] [vI (iI z)] (hm h τ) k n Q := by
          intro z hz
          refine J_istore (M := mX8_judged) dX8_judged_155 (by decide) ?_
          refine Z_iinc (M := mX8_judged) dX8_judged_157 rfl (by decide) ?_
          refine J_goto (M := mX8_judged) (tgt := 124) dX8_judged_160 (by decide) ?_
          exact J_sub (ih (i + 1) (by omega) kk) (And.intro rfl (And.intro rfl (And.intro rfl (And.intro rfl (And.intro rfl (And.intro rfl (And.intro rfl (And.intro (vz (by show (if _ then _ else _ : Int) = _; rw [if_pos c_133]; exact hz.symm)) (And.intro (vz (by push_cast; omega)) trivial)))))))))
        refine J_aload_n (M := mX8_judged) dX8_judged_136 rfl rfl ?_
        refine J_iload (M := mX8_judged) dX8_judged_137 rfl ?_
        refine Z_iconst (M := mX8_judged) dX8_judged_139 ?_
        refine J_iload (M := mX8_judged) dX8_judged_140 rfl ?_
        refine Z_isub (M := mX8_judged) dX8_judged_142 ?_
        refine M_call (M := mX8_judged) (as := [_, _]) dX8_judged_143 ca_X8_118 ⟨by decide, by decide⟩ rfl (Nat.le_of_ble_eq_true rfl) rfl rfl (c_counts W (by omega) (by omega) (by unfold rg; omega)) (fun v_143 t_143 hv_143 => ?_)
        obtain ⟨rfl, e_143⟩ := hv_143
        rw [e_143]
        first
          | refine Z_pf (M := mX8_judged) (tgt := 154) dX8_judged_146 (by decide) (fun c_146 => ?_) (fun c_146 => ?_)
          | refine Z_if_eq (M := mX8_judged) (tgt := 154) (by first | assumption | exact pI_rg _ | (unfold rg; omega)) dX8_judged_146 (by decide) (fun c_146 => ?_) (fun c_146 => ?_)
        · refine Z_iconst (M := mX8_judged) dX8_judged_154 ?_
          first | exact hj155 _ (by rw [if_pos c_146]) | exact hj155 _ (by rw [if_neg c_146])
        · refine J_iload (M := mX8_judged) dX8_judged_149 rfl ?_
          refine J_goto (M := mX8_judged) (tgt := 155) dX8_judged_151 (by decide) ?_
          first | exact hj155 _ (by rw [if_pos c_146]) | exact hj155 _ (by rw [if_neg c_146])
        

set_option maxRecDepth 100000 in
set_option maxHeartbeats 4000000 in
theorem c_judged {X : GX} {h : LH} {τ : TS} (W : WF τ) {ph : Int} (hp0 : 0 ≤ ph) (hp1 : ph < 984) : CM X mX8_judged [vI (iI ph)] h τ (fun v t => v = some (vI (iI (jd τ ph))) ∧ t = τ) := by
  have b1 := wf12 W ph
  have b2 := wf15 W
  have b3 := jl_in (F := τ 0 0) (c := τ 15) (f := 8 * ph) (by omega) b2 (τ 12 ph).toNat
  have hjd : jd τ ph = jd τ ph := rfl
  conv at hjd => rhs; unfold jd jdF
  simp only [] at hjd
  refine CM_of (by decide +kernel) rfl (Nat.le_of_ble_eq_true rfl) ?_
  refine Z_bipush (M := mX8_judged) dX8_judged_0 rfl ?_
  refine J_iload_n (M := mX8_judged) dX8_judged_2 rfl rfl ?_
  refine Z_imul (M := mX8_judged) dX8_judged_3 ?_
  refine J_istore_n (M := mX8_judged) dX8_judged_4 rfl (by decide) ?_
  refine J_iload_n (M := mX8_judged) dX8_judged_5 rfl rfl ?_
  refine J_aload_n (M := mX8_judged) dX8_judged_6 rfl rfl ?_
  refine M_get (M := mX8_judged) (v := vR (some (52, 0))) dX8_judged_7 fi_X8_32 rfl ?_
  refine J_iload_n (M := mX8_judged) dX8_judged_10 rfl rfl ?_
  refine M_iald (M := mX8_judged) (kf := 12) (N := 984) dX8_judged_11 rfl (by decide) (by omega) (by omega) ?_
  refine Z_iadd (M := mX8_judged) dX8_judged_12 ?_
  refine J_istore_n (M := mX8_judged) dX8_judged_13 rfl (by decide) ?_
  refine Z_iconst (M := mX8_judged) dX8_judged_14 ?_
  refine J_istore (M := mX8_judged) dX8_judged_15 (by decide) ?_
  refine Z_iconst (M := mX8_judged) dX8_judged_17 ?_
  refine J_istore (M := mX8_judged) dX8_judged_18 (by decide) ?_
  refine J_iload_n (M := mX8_judged) dX8_judged_20 rfl rfl ?_
  refine J_istore (M := mX8_judged) dX8_judged_21 (by decide) ?_
  refine J_sub (M := mX8_judged) (judged_l1 W hp0 hp1 (τ 12 ph).toNat 0 (by omega) ?_) (And.intro rfl (And.intro rfl (And.intro rfl (And.intro rfl (And.intro rfl (And.intro rfl (And.intro (vz (by push_cast; omega)) trivial)))))))
  generalize hfr : jl (τ 0 0) (τ 15) (8 * ph) (τ 12 ph).toNat = fr at b3 hjd ⊢
  refine J_iload (M := mX8_judged) dX8_judged_96 rfl ?_
  refine Z_iconst (M := mX8_judged) dX8_judged_98 ?_
  refine Z_ic_ne (M := mX8_judged) (tgt := 104) (by first | assumption | exact pI_rg _ | (unfold rg; omega)) (by first | assumption | exact pI_rg _ | (unfold rg; omega)) dX8_judged_99 (by decide) (fun c_99 => ?_) (fun c_99 => ?_)
  · have b5 := b2 fr.1
    have b6 := wf16 W
    have b9 := b6 fr.1
    have hlt : τ 15 fr.1 ≤ 3 := by
      rcases b3.1 with q | ⟨_, _, q⟩
      · exact absurd q c_99
      · rcases q with q | q <;> omega
    have hin : 8 * ph ≤ fr.1 ∧ fr.1 < 8 * ph + τ 12 ph := by omega
    have b8 := js_in (F := τ 0 0) (c := τ 15) (s := τ 15 fr.1 / 2) (f := fr.1) (by omega) (8 * ph + τ 12 ph - fr.1 - 1).toNat
    have b11 := wf14 W ph
    have b12 := wf0 W 0
    refine J_aload_n (M := mX8_judged) dX8_judged_104 rfl rfl ?_
    refine M_get (M := mX8_judged) (v := vR (some (55, 0))) dX8_judged_105 fi_X8_41 rfl ?_
    refine J_iload (M := mX8_judged) dX8_judged_108 rfl ?_
    refine M_iald (M := mX8_judged) (kf := 15) (N := 7872) dX8_judged_110 rfl (by decide) (by omega) (by omega) ?_
    refine Z_iconst (M := mX8_judged) dX8_judged_111 ?_
    refine Z_idiv (M := mX8_judged) (by omega) (by first | assumption | exact pI_rg _ | (unfold rg; omega)) (by decide) (by first | assumption | exact pI_rg _ | (unfold rg; omega)) dX8_judged_112 ?_
    refine J_istore (M := mX8_judged) dX8_judged_113 (by decide) ?_
    refine Z_iconst (M := mX8_judged) dX8_judged_115 ?_
    refine J_istore (M := mX8_judged) dX8_judged_116 (by decide) ?_
    refine J_iload (M := mX8_judged) dX8_judged_118 rfl ?_
    refine Z_iconst (M := mX8_judged) dX8_judged_120 ?_
    refine Z_iadd (M := mX8_judged) dX8_judged_121 ?_
    refine J_istore (M := mX8_judged) dX8_judged_122 (by decide) ?_
    refine J_sub (M := mX8_judged) (judged_l2 W hp0 hp1 hin.1 hin.2 (s := τ 15 fr.1 / 2) (r := fr.2) (by omega) (by omega) (8 * ph + τ 12 ph - fr.1 - 1).toNat 0 (by omega) ?_) (And.intro rfl (And.intro rfl (And.intro rfl (And.intro rfl (And.intro rfl (And.intro rfl (And.intro rfl (And.intro rfl (And.intro (vz (by push_cast; omega)) trivial)))))))))
    obtain ⟨s, hs⟩ : ∃ s : Int, s = js (τ 0 0) (τ 15) (τ 15 fr.1 / 2) fr.1 (8 * ph + τ 12 ph - fr.1 - 1).toNat := ⟨_, rfl⟩
    rw [← hs] at b8 ⊢
    obtain ⟨lim, hlim⟩ : ∃ l : Int, l = (if τ 0 0 = 0 then 40 else 300) := ⟨_, rfl⟩
    rw [← hs, ← hlim] at hjd
    have hlr : 0 ≤ lim ∧ lim ≤ 300 := by
      rw [hlim]; split <;> omega
    have b10 := b6 s
    have hj207 : J X mX8_judged 207 [some (vR (some (20, 0))), some (vI (iI ph)), some (vI (iI (8 * ph))), some (vI (iI (8 * ph + τ 12 ph))), some (vI (iI fr.1)), some (vI (iI fr.2)), some (vI (iI (τ 15 fr.1 / 2))), some (vI (iI s)), none, none] [vI (iI (pI (¬ s = -1 ∧ τ 16 s - τ 16 fr.1 ≤ lim)))] (hm h τ) 0 0 (QM h (fun v t => v = some (vI (iI (jd τ ph))) ∧ t = τ)) := by
      have hj231 : ∀ y : Int, y = (if τ 14 ph = -2 then fr.2 else τ 14 ph) → J X mX8_judged 231 [some (vR (some (20, 0))), some (vI (iI ph)), some (vI (iI (8 * ph))), some (vI (iI (8 * ph + τ 12 ph))), some (vI (iI fr.1)), some (vI (iI fr.2)), some (vI (iI (τ 15 fr.1 / 2))), some (vI (iI s)), some (vI (iI (pI (¬ s = -1 ∧ τ 16 s - τ 16 fr.1 ≤ lim)))), none] [vI (iI y)] (hm h τ) 0 0 (QM h (fun v t => v = some (vI (iI (jd τ ph))) ∧ t = τ)) := by
        intro y hy
        have hyr : -1 ≤ y ∧ y ≤ 1 := by
          rw [hy]; split <;> omega
        rw [← hy] at hjd
        refine J_istore (M := mX8_judged) dX8_judged_231 (by decide) ?_
        refine J_iload (M := mX8_judged) dX8_judged_233 rfl ?_
        first
          | refine Z_pt (M := mX8_judged) (tgt := 260) dX8_judged_235 (by decide) (fun c_235 => ?_) (fun c_235 => ?_)
          | refine Z_if_ne (M := mX8_judged) (tgt := 260) (by first | assumption | exact pI_rg _ | (unfold rg; omega)) dX8_judged_235 (by decide) (fun c_235 => ?_) (fun c_235 => ?_)
        · have hnb : ¬ (s = -1 ∨ lim < τ 16 s - τ 16 fr.1) := by omega
          refine J_aload_n (M := mX8_judged) dX8_judged_260 rfl rfl ?_
          refine M_get (M := mX8_judged) dX8_judged_261 fi_X8_75 rfl ?_
          first
            | refine Z_pt (M := mX8_judged) (tgt := 269) dX8_judged_264 (by decide) (fun c_264 => ?_) (fun c_264 => ?_)
            | refine Z_if_ne (M := mX8_judged) (tgt := 269) (by first | assumption | exact pI_rg _ | (unfold rg; omega)) dX8_judged_264 (by decide) (fun c_264 => ?_) (fun c_264 => ?_)
          · have hj283 : ∀ z : Int, z = (if y = τ 15 fr.1 / 2 then fr.1 else s) → J X mX8_judged 283 [some (vR (some (20, 0))), some (vI (iI ph)), some (vI (iI (8 * ph))), some (vI (iI (8 * ph + τ 12 ph))), some (vI (iI fr.1)), some (vI (iI y)), some (vI (iI (τ 15 fr.1 / 2))), some (vI (iI s)), some (vI (iI (pI (¬ s = -1 ∧ τ 16 s - τ 16 fr.1 ≤ lim)))), none] [vI (iI z)] (hm h τ) 0 0 (QM h (fun v t => v = some (vI (iI (jd τ ph))) ∧ t = τ)) := by
              intro z hz
              have hzr : 0 ≤ z ∧ z < 7872 := by
                rw [hz]; split <;> omega
              have b7 := b2 z
              refine J_istore (M := mX8_judged) dX8_judged_283 (by decide) ?_
              refine J_iload (M := mX8_judged) dX8_judged_285 rfl ?_
              refine Z_iconst (M := mX8_judged) dX8_judged_287 ?_
              refine Z_ic_eq (M := mX8_judged) (tgt := 311) (by first | assumption | exact pI_rg _ | (unfold rg; omega)) (by first | assumption | exact pI_rg _ | (unfold rg; omega)) dX8_judged_288 (by decide) (fun c_288 => ?_) (fun c_288 => ?_)
              · refine Z_iconst (M := mX8_judged) dX8_judged_311 ?_
                refine M_iret (M := mX8_judged) dX8_judged_312 rfl ?_
                exact And.intro (by rw [hjd, if_neg c_99, if_neg hnb, if_neg c_264, ← hz]; first | rw [if_pos (show ¬ y = -1 ∧ τ 15 z % 2 = 1 from And.intro c_288 c_301)] | rw [if_neg (show ¬ (¬ y = -1 ∧ τ 15 z % 2 = 1) from fun q => absurd q.2 c_301)] | rw [if_neg (show ¬ (¬ y = -1 ∧ τ 15 z % 2 = 1) from fun q => q.1 c_288)]) rfl
              · refine J_aload_n (M := mX8_judged) dX8_judged_291 rfl rfl ?_
                refine M_get (M := mX8_judged) (v := vR (some (55, 0))) dX8_judged_292 fi_X8_41 rfl ?_
                refine J_iload (M := mX8_judged) dX8_judged_295 rfl ?_
                refine M_iald (M := mX8_judged) (kf := 15) (N := 7872) dX8_judged_297 rfl (by decide) (by omega) (by omega) ?_
                refine Z_iconst (M := mX8_judged) dX8_judged_298 ?_
                refine Z_irem (M := mX8_judged) (by omega) (by first | assumption | exact pI_rg _ | (unfold rg; omega)) (by decide) (by first | assumption | exact pI_rg _ | (unfold rg; omega)) dX8_judged_299 ?_
                refine Z_iconst (M := mX8_judged) dX8_judged_300 ?_
                refine Z_ic_ne (M := mX8_judged) (tgt := 311) (by first | assumption | exact pI_rg _ | (unfold rg; omega)) (by first | assumption | exact pI_rg _ | (unfold rg; omega)) dX8_judged_301 (by decide) (fun c_301 => ?_) (fun c_301 => ?_)
                · refine Z_iconst (M := mX8_judged) dX8_judged_311 ?_
                  refine M_iret (M := mX8_judged) dX8_judged_312 rfl ?_
                  exact And.intro (by rw [hjd, if_neg c_99, if_neg hnb, if_neg c_264, ← hz]; first | rw [if_pos (show ¬ y = -1 ∧ τ 15 z % 2 = 1 from And.intro c_288 c_301)] | rw [if_neg (show ¬ (¬ y = -1 ∧ τ 15 z % 2 = 1) from fun q => absurd q.2 c_301)] | rw [if_neg (show ¬ (¬ y = -1 ∧ τ 15 z % 2 = 1) from fun q => q.1 c_288)]) rfl
                · refine Z_iconst (M := mX8_judged) dX8_judged_304 ?_
                  refine J_iload (M := mX8_judged) dX8_judged_305 rfl ?_
                  refine J_ishl (M := mX8_judged) dX8_judged_307 ?_
                  refine J_eq (M := mX8_judged) (shl_1 (by omega)) ?_
                  refine J_goto (M := mX8_judged) (tgt := 312) dX8_judged_308 (by decide) ?_
                  refine M_iret (M := mX8_judged) dX8_judged_312 rfl ?_
                  exact And.intro (by rw [hjd, if_neg c_99, if_neg hnb, if_neg c_264, ← hz]; first | rw [if_pos (show ¬ y = -1 ∧ τ 15 z % 2 = 1 from And.intro c_288 c_301)] | rw [if_neg (show ¬ (¬ y = -1 ∧ τ 15 z % 2 = 1) from fun q => absurd q.2 c_301)] | rw [if_neg (show ¬ (¬ y = -1 ∧ τ 15 z % 2 = 1) from fun q => q.1 c_288)]) rfl
            refine J_iload (M := mX8_judged) dX8_judged_269 rfl ?_
            refine J_iload (M := mX8_judged) dX8_judged_271 rfl ?_
            refine Z_ic_ne (M := mX8_judged) (tgt := 281) (by first | assumption | exact pI_rg _ | (unfold rg; omega)) (by first | assumption | exact pI_rg _ | (unfold rg; omega)) dX8_judged_273 (by decide) (fun c_273 => ?_) (fun c_273 => ?_)
            · refine J_iload (M := mX8_judged) dX8_judged_281 rfl ?_
              first | exact hj283 _ (by rw [if_pos c_273]) | exact hj283 _ (by rw [if_neg c_273])
            · refine J_iload (M := mX8_judged) dX8_judged_276 rfl ?_
              refine J_goto (M := mX8_judged) (tgt := 283) dX8_judged_278 (by decide) ?_
              first | exact hj283 _ (by rw [if_pos c_273]) | exact hj283 _ (by rw [if_neg c_273])
            
          · refine Z_iconst (M := mX8_judged) dX8_judged_267 ?_
            refine M_iret (M := mX8_judged) dX8_judged_268 rfl ?_
            exact And.intro (by rw [hjd, if_neg c_99, if_neg hnb, if_pos c_264]) rfl
          
        · have hnb : s = -1 ∨ lim < τ 16 s - τ 16 fr.1 := by omega
          refine J_aload_n (M := mX8_judged) dX8_judged_238 rfl rfl ?_
          refine M_get (M := mX8_judged) (v := vR (some (55, 0))) dX8_judged_239 fi_X8_41 rfl ?_
          refine J_iload (M := mX8_judged) dX8_judged_242 rfl ?_
          refine M_iald (M := mX8_judged) (kf := 15) (N := 7872) dX8_judged_244 rfl (by decide) (by omega) (by omega) ?_
          refine Z_iconst (M := mX8_judged) dX8_judged_245 ?_
          refine Z_irem (M := mX8_judged) (by omega) (by first | assumption | exact pI_rg _ | (unfold rg; omega)) (by decide) (by first | assumption | exact pI_rg _ | (unfold rg; omega)) dX8_judged_246 ?_
          refine Z_iconst (M := mX8_judged) dX8_judged_247 ?_
          refine Z_ic_ne (M := mX8_judged) (tgt := 258) (by first | assumption | exact pI_rg _ | (unfold rg; omega)) (by first | assumption | exact pI_rg _ | (unfold rg; omega)) dX8_judged_248 (by decide) (fun c_248 => ?_) (fun c_248 => ?_)
          · refine Z_iconst (M := mX8_judged) dX8_judged_258 ?_
            refine M_iret (M := mX8_judged) dX8_judged_259 rfl ?_
            exact And.intro (by rw [hjd, if_neg c_99, if_pos hnb]; first | rw [if_pos c_248] | rw [if_neg c_248]) rfl
          · refine Z_iconst (M := mX8_judged) dX8_judged_251 ?_
            refine J_iload (M := mX8_judged) dX8_judged_252 rfl ?_
            refine J_ishl (M := mX8_judged) dX8_judged_254 ?_
            refine J_eq (M := mX8_judged) (shl_1 (by omega)) ?_
            refine J_goto (M := mX8_judged) (tgt := 259) dX8_judged_255 (by decide) ?_
            refine M_iret (M := mX8_judged) dX8_judged_259 rfl ?_
            exact And.intro (by rw [hjd, if_neg c_99, if_pos hnb]; first | rw [if_pos c_248] | rw [if_neg c_248]) rfl
          
      refine J_istore (M := mX8_judged) dX8_judged_207 (by decide) ?_
      refine J_aload_n (M := mX8_judged) dX8_judged_209 rfl rfl ?_
      refine M_get (M := mX8_judged) (v := vR (some (54, 0))) dX8_judged_210 fi_X8_38 rfl ?_
      refine J_iload_n (M := mX8_judged) dX8_judged_213 rfl rfl ?_
      refine M_iald (M := mX8_judged) (kf := 14) (N := 984) dX8_judged_214 rfl (by decide) (by omega) (by omega) ?_
      refine Z_bipush (M := mX8_judged) dX8_judged_215 rfl ?_
      refine Z_ic_ne (M := mX8_judged) (tgt := 225) (by first | assumption | exact pI_rg _ | (unfold rg; omega)) (by first | assumption | exact pI_rg _ | (unfold rg; omega)) dX8_judged_217 (by decide) (fun c_217 => ?_) (fun c_217 => ?_)
      · refine J_aload_n (M := mX8_judged) dX8_judged_225 rfl rfl ?_
        refine M_get (M := mX8_judged) (v := vR (some (54, 0))) dX8_judged_226 fi_X8_38 rfl ?_
        refine J_iload_n (M := mX8_judged) dX8_judged_229 rfl rfl ?_
        refine M_iald (M := mX8_judged) (kf := 14) (N := 984) dX8_judged_230 rfl (by decide) (by omega) (by omega) ?_
        first | exact hj231 _ (by rw [if_pos c_217]) | exact hj231 _ (by rw [if_neg c_217])
      · refine J_iload (M := mX8_judged) dX8_judged_220 rfl ?_
        refine J_goto (M := mX8_judged) (tgt := 231) dX8_judged_222 (by decide) ?_
        first | exact hj231 _ (by rw [if_pos c_217]) | exact hj231 _ (by rw [if_neg c_217])
    have hj199 : ¬ s = -1 → J X mX8_judged 199 [some (vR (some (20, 0))), some (vI (iI ph)), some (vI (iI (8 * ph))), some (vI (iI (8 * ph + τ 12 ph))), some (vI (iI fr.1)), some (vI (iI fr.2)), some (vI (iI (τ 15 fr.1 / 2))), some (vI (iI s)), none, none] [vI (iI lim), vI (iI (τ 16 s - τ 16 fr.1))] (hm h τ) 0 0 (QM h (fun v t => v = some (vI (iI (jd τ ph))) ∧ t = τ)) := by
      intro hsn
      refine Z_ic_gt (M := mX8_judged) (tgt := 206) (by first | assumption | exact pI_rg _ | (unfold rg; omega)) (by first | assumption | exact pI_rg _ | (unfold rg; omega)) dX8_judged_199 (by decide) (fun c_199 => ?_) (fun c_199 => ?_)
      · refine Z_iconst (M := mX8_judged) dX8_judged_206 ?_
        refine Z_eq (M := mX8_judged) (pI_f (p := (¬ s = -1 ∧ τ 16 s - τ 16 fr.1 ≤ lim)) (by omega)).symm ?_
        exact hj207
      · refine Z_iconst (M := mX8_judged) dX8_judged_202 ?_
        refine J_goto (M := mX8_judged) (tgt := 207) dX8_judged_203 (by decide) ?_
        refine Z_eq (M := mX8_judged) (pI_t (p := (¬ s = -1 ∧ τ 16 s - τ 16 fr.1 ≤ lim)) (by omega)).symm ?_
        exact hj207
    refine J_iload (M := mX8_judged) dX8_judged_163 rfl ?_
    refine Z_iconst (M := mX8_judged) dX8_judged_165 ?_
    refine Z_ic_eq (M := mX8_judged) (tgt := 206) (by first | assumption | exact pI_rg _ | (unfold rg; omega)) (by first | assumption | exact pI_rg _ | (unfold rg; omega)) dX8_judged_166 (by decide) (fun c_166 => ?_) (fun c_166 => ?_)
    · refine Z_iconst (M := mX8_judged) dX8_judged_206 ?_
      refine Z_eq (M := mX8_judged) (pI_f (p := (¬ s = -1 ∧ τ 16 s - τ 16 fr.1 ≤ lim)) (fun q => q.1 c_166)).symm ?_
      exact hj207
    · refine J_aload_n (M := mX8_judged) dX8_judged_169 rfl rfl ?_
      refine M_get (M := mX8_judged) (v := vR (some (56, 0))) dX8_judged_170 fi_X8_44 rfl ?_
      refine J_iload (M := mX8_judged) dX8_judged_173 rfl ?_
      refine M_iald (M := mX8_judged) (kf := 16) (N := 7872) dX8_judged_175 rfl (by decide) (by omega) (by omega) ?_
      refine J_aload_n (M := mX8_judged) dX8_judged_176 rfl rfl ?_
      refine M_get (M := mX8_judged) (v := vR (some (56, 0))) dX8_judged_177 fi_X8_44 rfl ?_
      refine J_iload (M := mX8_judged) dX8_judged_180 rfl ?_
      refine M_iald (M := mX8_judged) (kf := 16) (N := 7872) dX8_judged_182 rfl (by decide) (by omega) (by omega) ?_
      refine Z_isub (M := mX8_judged) dX8_judged_183 ?_
      refine J_aload_n (M := mX8_judged) dX8_judged_184 rfl rfl ?_
      refine M_get (M := mX8_judged) dX8_judged_185 fi_X8_75 rfl ?_
      first
        | refine Z_pf (M := mX8_judged) (tgt := 197) dX8_judged_188 (by decide) (fun c_188 => ?_) (fun c_188 => ?_)
        | refine Z_if_eq (M := mX8_judged) (tgt := 197) (by first | assumption | exact pI_rg _ | (unfold rg; omega)) dX8_judged_188 (by decide) (fun c_188 => ?_) (fun c_188 => ?_)
      · refine Z_bipush (M := mX8_judged) dX8_judged_197 rfl ?_
        first
          | (rw [if_pos c_188] at hlim; rw [hlim] at hj199; exact hj199 c_166)
          | (rw [if_neg c_188] at hlim; rw [hlim] at hj199; exact hj199 c_166)
      · refine Z_sipush (M := mX8_judged) dX8_judged_191 rfl ?_
        refine J_goto (M := mX8_judged) (tgt := 199) dX8_judged_194 (by decide) ?_
        first
          | (rw [if_pos c_188] at hlim; rw [hlim] at hj199; exact hj199 c_166)
          | (rw [if_neg c_188] at hlim; rw [hlim] at hj199; exact hj199 c_166)
    
    
  · refine Z_iconst (M := mX8_judged) dX8_judged_102 ?_
    refine M_iret (M := mX8_judged) dX8_judged_103 rfl ?_
    exact And.intro (by rw [hjd, if_pos c_99]) rfl
  

def mand (a b : Int) : Int := ((a.toNat &&& b.toNat : Nat) : Int)
theorem mand_rg {a b : Int} : 0 ≤ mand a b ∧ mand a b ≤ b.toNat := by
  unfold mand
  have := Nat.and_le_right (n := a.toNat) (m := b.toNat)
  omega
theorem iI_and {a b : Int} (ha : 0 ≤ a ∧ a ≤ 3) (hb : 0 ≤ b ∧ b ≤ 3) : iI a &&& iI b = iI (mand a b) := by
  have h1 : a = 0 ∨ a = 1 ∨ a = 2 ∨ a = 3 := by omega
  have h2 : b = 0 ∨ b = 1 ∨ b = 2 ∨ b = 3 := by omega
  rcases h1 with rfl | rfl | rfl | rfl <;> rcases h2 with rfl | rfl | rfl | rfl <;> simp only [iI_d] <;> decide +kernel
theorem iI_shr1 {a : Int} (ha : 0 ≤ a ∧ a ≤ 3) : iI a >>> (iI 1 &&& 31) = iI (a / 2) := by
  have h1 : a = 0 ∨ a = 1 ∨ a = 2 ∨ a = 3 := by omega
  rcases h1 with rfl | rfl | rfl | rfl <;> simp only [iI_d] <;> decide +kernel
theorem jd_rg {τ : TS} (W : WF τ) {ph : Int} (hp : 0 ≤ ph) : 0 ≤ jd τ ph ∧ jd τ ph ≤ 3 := by
  have b1 := wf12 W ph
  have b2 := wf15 W
  have b3 := jl_in (F := τ 0 0) (c := τ 15) (f := 8 * ph) (by omega) b2 (τ 12 ph).toNat
  unfold jd jdF
  simp only []
  generalize jl (τ 0 0) (τ 15) (8 * ph) (τ 12 ph).toNat = fr at b3 ⊢
  have b5 := b2 fr.1
  have b11 := wf14 W ph
  by_cases h1 : fr.1 = -1
  · rw [if_pos h1]; omega
  · rw [if_neg h1]
    have hlt : τ 15 fr.1 ≤ 3 := by
      rcases b3.1 with q | ⟨_, _, q⟩
      · exact absurd q h1
      · rcases q with q | q <;> omega
    generalize hr : (if τ 14 ph = -2 then fr.2 else τ 14 ph) = r
    have hrr : -1 ≤ r ∧ r ≤ 1 := by
      rw [← hr]; split <;> omega
    split
    · split <;> omega
    · split
      · omega
      · split <;> omega
/-- a weapon strikes what its side has -/
abbrev stk (τ : TS) (w s : Int) : Prop := τ 3 w = 2 ∧ (¬ s < 66 ∨ ¬ τ 4 w = 0)
def tch (τ : TS) (s n : Int) : Int := mand (mand (jd τ (12 * s + n)) (if stk τ (τ 13 (2 * (12 * s + n))) s then 2 else 3)) (if stk τ (τ 13 (2 * (12 * s + n) + 1)) s then 1 else 3)
theorem tch_rg {τ : TS} (s n : Int) : 0 ≤ tch τ s n ∧ tch τ s n ≤ 3 := by
  have := mand_rg (a := mand (jd τ (12 * s + n)) (if stk τ (τ 13 (2 * (12 * s + n))) s then 2 else 3)) (b := if stk τ (τ 13 (2 * (12 * s + n) + 1)) s then 1 else 3)
  unfold tch
  refine ⟨this.1, Int.le_trans this.2 ?_⟩
  split <;> decide
set_option maxRecDepth 100000 in
set_option maxHeartbeats 4000000 in
theorem c_strikes {X : GX} {h : LH} {τ : TS} (W : WF τ) {w b : Int} (hw0 : 0 ≤ w) (hw1 : w < 24) (hb : b = 0 ∨ b = 1) : CM X mX8_strikes [vI (iI w), vI (iI b)] h τ (fun v t => v = some (vI (iI (pI (τ 3 w = 2 ∧ (b = 0 ∨ ¬ τ 4 w = 0))))) ∧ t = τ) := by
  have b1 := wf3 W w
  have b2 := wf4 W w
  refine CM_of (by decide +kernel) rfl (Nat.le_of_ble_eq_true rfl) ?_
  refine J_aload_n (M := mX8_strikes) dX8_strikes_0 rfl rfl ?_
  refine M_get (M := mX8_strikes) (v := vR (some (43, 0))) dX8_strikes_1 fi_X8_13 rfl ?_
  refine J_iload_n (M := mX8_strikes) dX8_strikes_4 rfl rfl ?_
  refine M_iald (M := mX8_strikes) (kf := 3) (N := 24) dX8_strikes_5 rfl (by decide) (by omega) (by omega) ?_
  refine Z_iconst (M := mX8_strikes) dX8_strikes_6 ?_
  refine Z_ic_ne (M := mX8_strikes) (tgt := 27) (by first | assumption | exact pI_rg _ | (unfold rg; omega)) (by first | assumption | exact pI_rg _ | (unfold rg; omega)) dX8_strikes_7 (by decide) (fun c_7 => ?_) (fun c_7 => ?_)
  · refine Z_iconst (M := mX8_strikes) dX8_strikes_27 ?_
    refine M_zret (M := mX8_strikes) dX8_strikes_28 rfl (by first | exact pI_01 _ | exact Or.inl rfl | exact Or.inr rfl | omega) ?_
    exact And.intro (r0 (by omega)) rfl
  · refine J_iload_n (M := mX8_strikes) dX8_strikes_10 rfl rfl ?_
    first
      | refine Z_pf (M := mX8_strikes) (tgt := 23) dX8_strikes_11 (by decide) (fun c_11 => ?_) (fun c_11 => ?_)
      | refine Z_if_eq (M := mX8_strikes) (tgt := 23) (by first | assumption | exact pI_rg _ | (unfold rg; omega)) dX8_strikes_11 (by decide) (fun c_11 => ?_) (fun c_11 => ?_)
    · refine Z_iconst (M := mX8_strikes) dX8_strikes_23 ?_
      refine J_goto (M := mX8_strikes) (tgt := 28) dX8_strikes_24 (by decide) ?_
      refine M_zret (M := mX8_strikes) dX8_strikes_28 rfl (by first | exact pI_01 _ | exact Or.inl rfl | exact Or.inr rfl | omega) ?_
      exact And.intro (r1 (by omega)) rfl
    · refine J_aload_n (M := mX8_strikes) dX8_strikes_14 rfl rfl ?_
      refine M_get (M := mX8_strikes) (v := vR (some (44, 0))) dX8_strikes_15 fi_X8_16 rfl ?_
      refine J_iload_n (M := mX8_strikes) dX8_strikes_18 rfl rfl ?_
      refine M_zald (M := mX8_strikes) (kf := 4) (N := 24) dX8_strikes_19 rfl (by decide) (by omega) (by omega) ?_
      first
        | refine Z_pf (M := mX8_strikes) (tgt := 27) dX8_strikes_20 (by decide) (fun c_20 => ?_) (fun c_20 => ?_)
        | refine Z_if_eq (M := mX8_strikes) (tgt := 27) (by first | assumption | exact pI_rg _ | (unfold rg; omega)) dX8_strikes_20 (by decide) (fun c_20 => ?_) (fun c_20 => ?_)
      · refine Z_iconst (M := mX8_strikes) dX8_strikes_27 ?_
        refine M_zret (M := mX8_strikes) dX8_strikes_28 rfl (by first | exact pI_01 _ | exact Or.inl rfl | exact Or.inr rfl | omega) ?_
        exact And.intro (r0 (by omega)) rfl
      · refine Z_iconst (M := mX8_strikes) dX8_strikes_23 ?_
        refine J_goto (M := mX8_strikes) (tgt := 28) dX8_strikes_24 (by decide) ?_
        refine M_zret (M := mX8_strikes) dX8_strikes_28 rfl (by first | exact pI_01 _ | exact Or.inl rfl | exact Or.inr rfl | omega) ?_
        exact And.intro (r1 (by omega)) rfl

set_option maxRecDepth 100000 in
set_option maxHeartbeats 4000000 in
theorem c_touched {X : GX} {h : LH} {τ : TS} (W : WF τ) {s n : Int} (hs0 : 0 ≤ s) (hs1 : s < 82) (hn0 : 0 ≤ n) (hn1 : n < 12) : CM X mX8_touched [vI (iI s), vI (iI n)] h τ (fun v t => v = some (vI (iI (tch τ s n))) ∧ t = τ) := by
  have b0 := jd_rg W (ph := 12 * s + n) (by omega)
  have b1 := wf13 W (2 * (12 * s + n))
  have b2 := wf13 W (2 * (12 * s + n) + 1)
  have hj48 : ∀ y : Int, y = (mand (jd τ (12 * s + n)) (if stk τ (τ 13 (2 * (12 * s + n))) s then 2 else 3)) → J X mX8_touched 48 [some (vR (some (20, 0))), some (vI (iI s)), some (vI (iI n)), some (vI (iI (12 * s + n))), some (vI (iI (jd τ (12 * s + n))))] [vI (iI y)] (hm h τ) 0 0 (QM h (fun v t => v = some (vI (iI (tch τ s n))) ∧ t = τ)) := by
    intro y hy
    have hyr : 0 ≤ y ∧ y ≤ 3 := by
      rw [hy]; exact ⟨mand_rg.1, Int.le_trans mand_rg.2 (by split <;> decide)⟩
    have hj85 : ∀ z : Int, z = (if stk τ (τ 13 (2 * (12 * s + n) + 1)) s then 1 else 3) → J X mX8_touched 85 [some (vR (some (20, 0))), some (vI (iI s)), some (vI (iI n)), some (vI (iI (12 * s + n))), some (vI (iI y))] [vI (iI z), vI (iI y)] (hm h τ) 0 0 (QM h (fun v t => v = some (vI (iI (tch τ s n))) ∧ t = τ)) := by
      intro z hz
      have hzr : 0 ≤ z ∧ z ≤ 3 := by
        rw [hz]; split <;> omega
      refine J_iand (M := mX8_touched) dX8_touched_85 ?_
      refine J_eq (M := mX8_touched) (iI_and (by omega) (by omega)) ?_
      refine M_iret (M := mX8_touched) dX8_touched_86 rfl ?_
      exact And.intro (by unfold tch; rw [← hz, ← hy]) rfl
    refine J_istore (M := mX8_touched) dX8_touched_48 (by decide) ?_
    refine J_iload (M := mX8_touched) dX8_touched_50 rfl ?_
    refine J_aload_n (M := mX8_touched) dX8_touched_52 rfl rfl ?_
    refine J_aload_n (M := mX8_touched) dX8_touched_53 rfl rfl ?_
    refine M_get (M := mX8_touched) (v := vR (some (53, 0))) dX8_touched_54 fi_X8_35 rfl ?_
    refine Z_iconst (M := mX8_touched) dX8_touched_57 ?_
    refine J_iload_n (M := mX8_touched) dX8_touched_58 rfl rfl ?_
    refine Z_imul (M := mX8_touched) dX8_touched_59 ?_
    refine Z_iconst (M := mX8_touched) dX8_touched_60 ?_
    refine Z_iadd (M := mX8_touched) dX8_touched_61 ?_
    refine M_iald (M := mX8_touched) (kf := 13) (N := 1968) dX8_touched_62 rfl (by decide) (by omega) (by omega) ?_
    refine J_iload_n (M := mX8_touched) dX8_touched_63 rfl rfl ?_
    refine Z_bipush (M := mX8_touched) dX8_touched_64 rfl ?_
    refine Z_ic_ge (M := mX8_touched) (tgt := 73) (by first | assumption | exact pI_rg _ | (unfold rg; omega)) (by first | assumption | exact pI_rg _ | (unfold rg; omega)) dX8_touched_66 (by decide) (fun c_66 => ?_) (fun c_66 => ?_)
    · refine Z_iconst (M := mX8_touched) dX8_touched_73 ?_
      refine M_call (M := mX8_touched) (as := [_, _]) dX8_touched_74 ca_X8_125 ⟨by decide, by decide⟩ rfl (Nat.le_of_ble_eq_true rfl) rfl rfl (c_strikes W (by omega) (by omega) (by first | exact Or.inl rfl | exact Or.inr rfl)) (fun v_74 t_74 hv_74 => ?_)
      obtain ⟨rfl, e_74⟩ := hv_74
      rw [e_74]
      first
        | refine Z_pf (M := mX8_touched) (tgt := 84) dX8_touched_77 (by decide) (fun c_77 => ?_) (fun c_77 => ?_)
        | refine Z_if_eq (M := mX8_touched) (tgt := 84) (by first | assumption | exact pI_rg _ | (unfold rg; omega)) dX8_touched_77 (by decide) (fun c_77 => ?_) (fun c_77 => ?_)
      · refine Z_iconst (M := mX8_touched) dX8_touched_84 ?_
        first | exact hj85 _ (by rw [if_pos (by omega)]) | exact hj85 _ (by rw [if_neg (by omega)])
      · refine Z_iconst (M := mX8_touched) dX8_touched_80 ?_
        refine J_goto (M := mX8_touched) (tgt := 85) dX8_touched_81 (by decide) ?_
        first | exact hj85 _ (by rw [if_pos (by omega)]) | exact hj85 _ (by rw [if_neg (by omega)])
    · refine Z_iconst (M := mX8_touched) dX8_touched_69 ?_
      refine J_goto (M := mX8_touched) (tgt := 74) dX8_touched_70 (by decide) ?_
      refine M_call (M := mX8_touched) (as := [_, _]) dX8_touched_74 ca_X8_125 ⟨by decide, by decide⟩ rfl (Nat.le_of_ble_eq_true rfl) rfl rfl (c_strikes W (by omega) (by omega) (by first | exact Or.inl rfl | exact Or.inr rfl)) (fun v_74 t_74 hv_74 => ?_)
      obtain ⟨rfl, e_74⟩ := hv_74
      rw [e_74]
      first
        | refine Z_pf (M := mX8_touched) (tgt := 84) dX8_touched_77 (by decide) (fun c_77 => ?_) (fun c_77 => ?_)
        | refine Z_if_eq (M := mX8_touched) (tgt := 84) (by first | assumption | exact pI_rg _ | (unfold rg; omega)) dX8_touched_77 (by decide) (fun c_77 => ?_) (fun c_77 => ?_)
      · refine Z_iconst (M := mX8_touched) dX8_touched_84 ?_
        first | exact hj85 _ (by rw [if_pos (by omega)]) | exact hj85 _ (by rw [if_neg (by omega)])
      · refine Z_iconst (M := mX8_touched) dX8_touched_80 ?_
        refine J_goto (M := mX8_touched) (tgt := 85) dX8_touched_81 (by decide) ?_
        first | exact hj85 _ (by rw [if_pos (by omega)]) | exact hj85 _ (by rw [if_neg (by omega)])
  have hj47 : ∀ z : Int, z = (if stk τ (τ 13 (2 * (12 * s + n))) s then 2 else 3) → J X mX8_touched 47 [some (vR (some (20, 0))), some (vI (iI s)), some (vI (iI n)), some (vI (iI (12 * s + n))), some (vI (iI (jd τ (12 * s + n))))] [vI (iI z), vI (iI (jd τ (12 * s + n)))] (hm h τ) 0 0 (QM h (fun v t => v = some (vI (iI (tch τ s n))) ∧ t = τ)) := by
    intro z hz
    have hzr : 0 ≤ z ∧ z ≤ 3 := by
      rw [hz]; split <;> omega
    refine J_iand (M := mX8_touched) dX8_touched_47 ?_
    refine J_eq (M := mX8_touched) (iI_and (by omega) (by omega)) ?_
    exact hj48 _ (by rw [hz])
  refine CM_of (by decide +kernel) rfl (Nat.le_of_ble_eq_true rfl) ?_
  refine Z_bipush (M := mX8_touched) dX8_touched_0 rfl ?_
  refine J_iload_n (M := mX8_touched) dX8_touched_2 rfl rfl ?_
  refine Z_imul (M := mX8_touched) dX8_touched_3 ?_
  refine J_iload_n (M := mX8_touched) dX8_touched_4 rfl rfl ?_
  refine Z_iadd (M := mX8_touched) dX8_touched_5 ?_
  refine J_istore_n (M := mX8_touched) dX8_touched_6 rfl (by decide) ?_
  refine J_aload_n (M := mX8_touched) dX8_touched_7 rfl rfl ?_
  refine J_iload_n (M := mX8_touched) dX8_touched_8 rfl rfl ?_
  refine M_call (M := mX8_touched) (as := [_]) dX8_touched_9 ca_X8_121 ⟨by decide, by decide⟩ rfl (Nat.le_of_ble_eq_true rfl) rfl rfl (c_judged W (by omega) (by omega)) (fun v_9 t_9 hv_9 => ?_)
  obtain ⟨rfl, e_9⟩ := hv_9
  rw [e_9]
  refine J_istore (M := mX8_touched) dX8_touched_12 (by decide) ?_
  refine J_iload (M := mX8_touched) dX8_touched_14 rfl ?_
  refine J_aload_n (M := mX8_touched) dX8_touched_16 rfl rfl ?_
  refine J_aload_n (M := mX8_touched) dX8_touched_17 rfl rfl ?_
  refine M_get (M := mX8_touched) (v := vR (some (53, 0))) dX8_touched_18 fi_X8_35 rfl ?_
  refine Z_iconst (M := mX8_touched) dX8_touched_21 ?_
  refine J_iload_n (M := mX8_touched) dX8_touched_22 rfl rfl ?_
  refine Z_imul (M := mX8_touched) dX8_touched_23 ?_
  refine M_iald (M := mX8_touched) (kf := 13) (N := 1968) dX8_touched_24 rfl (by decide) (by omega) (by omega) ?_
  refine J_iload_n (M := mX8_touched) dX8_touched_25 rfl rfl ?_
  refine Z_bipush (M := mX8_touched) dX8_touched_26 rfl ?_
  refine Z_ic_ge (M := mX8_touched) (tgt := 35) (by first | assumption | exact pI_rg _ | (unfold rg; omega)) (by first | assumption | exact pI_rg _ | (unfold rg; omega)) dX8_touched_28 (by decide) (fun c_28 => ?_) (fun c_28 => ?_)
  · refine Z_iconst (M := mX8_touched) dX8_touched_35 ?_
    refine M_call (M := mX8_touched) (as := [_, _]) dX8_touched_36 ca_X8_125 ⟨by decide, by decide⟩ rfl (Nat.le_of_ble_eq_true rfl) rfl rfl (c_strikes W (by omega) (by omega) (by first | exact Or.inl rfl | exact Or.inr rfl)) (fun v_36 t_36 hv_36 => ?_)
    obtain ⟨rfl, e_36⟩ := hv_36
    rw [e_36]
    first
      | refine Z_pf (M := mX8_touched) (tgt := 46) dX8_touched_39 (by decide) (fun c_39 => ?_) (fun c_39 => ?_)
      | refine Z_if_eq (M := mX8_touched) (tgt := 46) (by first | assumption | exact pI_rg _ | (unfold rg; omega)) dX8_touched_39 (by decide) (fun c_39 => ?_) (fun c_39 => ?_)
    · refine Z_iconst (M := mX8_touched) dX8_touched_46 ?_
      first | exact hj47 _ (by rw [if_pos (by omega)]) | exact hj47 _ (by rw [if_neg (by omega)])
    · refine Z_iconst (M := mX8_touched) dX8_touched_42 ?_
      refine J_goto (M := mX8_touched) (tgt := 47) dX8_touched_43 (by decide) ?_
      first | exact hj47 _ (by rw [if_pos (by omega)]) | exact hj47 _ (by rw [if_neg (by omega)])
  · refine Z_iconst (M := mX8_touched) dX8_touched_31 ?_
    refine J_goto (M := mX8_touched) (tgt := 36) dX8_touched_32 (by decide) ?_
    refine M_call (M := mX8_touched) (as := [_, _]) dX8_touched_36 ca_X8_125 ⟨by decide, by decide⟩ rfl (Nat.le_of_ble_eq_true rfl) rfl rfl (c_strikes W (by omega) (by omega) (by first | exact Or.inl rfl | exact Or.inr rfl)) (fun v_36 t_36 hv_36 => ?_)
    obtain ⟨rfl, e_36⟩ := hv_36
    rw [e_36]
    first
      | refine Z_pf (M := mX8_touched) (tgt := 46) dX8_touched_39 (by decide) (fun c_39 => ?_) (fun c_39 => ?_)
      | refine Z_if_eq (M := mX8_touched) (tgt := 46) (by first | assumption | exact pI_rg _ | (unfold rg; omega)) dX8_touched_39 (by decide) (fun c_39 => ?_) (fun c_39 => ?_)
    · refine Z_iconst (M := mX8_touched) dX8_touched_46 ?_
      first | exact hj47 _ (by rw [if_pos (by omega)]) | exact hj47 _ (by rw [if_neg (by omega)])
    · refine Z_iconst (M := mX8_touched) dX8_touched_42 ?_
      refine J_goto (M := mX8_touched) (tgt := 47) dX8_touched_43 (by decide) ?_
      first | exact hj47 _ (by rw [if_pos (by omega)]) | exact hj47 _ (by rw [if_neg (by omega)])

/-- a score after a phrase; who has come to the goal -/
def tadd (g its : Int) (s : Int × Int × Int) : Int × Int := if its < 3 ∨ s.1 + 1 < g ∨ s.2.1 + 1 < g then (s.1 + mand its 1, s.2.1 + its / 2) else (s.1, s.2.1)
def twon (g a b : Int) : Int := if a = g then 0 else if b = g then 1 else -1
def tlF (g : Int) (T : Int → Int) : Nat → Int × Int × Int
  | 0 => (0, 0, -1)
  | k + 1 => if (tlF g T k).2.2 = -1 then ((tadd g (T k) (tlF g T k)).1, (tadd g (T k) (tlF g T k)).2, twon g (tadd g (T k) (tlF g T k)).1 (tadd g (T k) (tlF g T k)).2) else tlF g T k
theorem tlF_stay {g : Int} {T : Int → Int} {i : Nat} (h : ¬ (tlF g T i).2.2 = -1) : ∀ m, tlF g T (i + m) = tlF g T i
  | 0 => rfl
  | m + 1 => by
    have e := tlF_stay h m
    show (if (tlF g T (i + m)).2.2 = -1 then _ else tlF g T (i + m)) = _
    rw [e, if_neg h]
theorem mand1 {a : Int} : 0 ≤ mand a 1 ∧ mand a 1 ≤ 1 := mand_rg
theorem tlF_rg {g : Int} {T : Int → Int} (hT : ∀ i, 0 ≤ T i ∧ T i ≤ 3) : ∀ i : Nat, 0 ≤ (tlF g T i).1 ∧ (tlF g T i).1 ≤ i ∧ 0 ≤ (tlF g T i).2.1 ∧ (tlF g T i).2.1 ≤ i ∧ -1 ≤ (tlF g T i).2.2 ∧ (tlF g T i).2.2 ≤ 1
  | 0 => by show (0 : Int) ≤ 0 ∧ (0 : Int) ≤ 0 ∧ (0 : Int) ≤ 0 ∧ (0 : Int) ≤ 0 ∧ (-1 : Int) ≤ -1 ∧ (-1 : Int) ≤ 1; omega
  | i + 1 => by
    have ih := tlF_rg hT i (g := g)
    have h1 := hT i
    have h2 := mand1 (a := T i)
    unfold tlF
    generalize tlF g T i = s at ih ⊢
    split
    · have h3 : 0 ≤ (tadd g (T i) s).1 ∧ (tadd g (T i) s).1 ≤ i + 1 ∧ 0 ≤ (tadd g (T i) s).2 ∧ (tadd g (T i) s).2 ≤ i + 1 := by
        unfold tadd
        split
        · show 0 ≤ s.1 + mand (T i) 1 ∧ s.1 + mand (T i) 1 ≤ i + 1 ∧ 0 ≤ s.2.1 + T i / 2 ∧ s.2.1 + T i / 2 ≤ i + 1; omega
        · show 0 ≤ s.1 ∧ s.1 ≤ i + 1 ∧ 0 ≤ s.2.1 ∧ s.2.1 ≤ i + 1; omega
      have h4 : -1 ≤ twon g (tadd g (T i) s).1 (tadd g (T i) s).2 ∧ twon g (tadd g (T i) s).1 (tadd g (T i) s).2 ≤ 1 := by
        unfold twon
        split
        · omega
        · split <;> omega
      push_cast
      omega
    · push_cast
      omega
def gl3 (s : Int) : Int := if s < 66 then 3 else 5
/-- the score of a bout, and who has won -/
def te (τ : TS) (s : Int) : Int × Int × Int :=
  let z := tlF (gl3 s) (tch τ s) (τ 10 s).toNat
  (z.1, z.2.1, if z.2.2 = -1 ∧ τ 10 s = 12 then (if z.1 < z.2.1 then 1 else 0) else z.2.2)
def t3 (τ : TS) (z : Int × Int × Int) : TS := ts (ts (ts τ 25 0 z.1) 26 0 z.2.1) 27 0 z.2.2
theorem upZ_upZ {g : Int → Int} {e x y : Int} : upZ (upZ g e x) e y = upZ g e y := by
  funext z
  unfold upZ
  by_cases h : z = e
  · rw [if_pos h, if_pos h]
  · rw [if_neg h, if_neg h, if_neg h]
theorem ts_ts {τ : TS} {k : Nat} {i x y : Int} : ts (ts τ k i x) k i y = ts τ k i y := by
  funext k'
  by_cases h : k' = k
  · subst h; rw [ts_s, ts_s, ts_s, upZ_upZ]
  · rw [ts_n h, ts_n h, ts_n h]
theorem ts_cm {τ : TS} {k j : Nat} {i i' x y : Int} (h : k ≠ j) : ts (ts τ k i x) j i' y = ts (ts τ j i' y) k i x := by
  funext k'
  by_cases h1 : k' = k
  · subst h1; rw [ts_n h, ts_s, ts_s, ts_n h]
  · by_cases h2 : k' = j
    · subst h2; rw [ts_s, ts_n h1, ts_n h1, ts_s]
    · rw [ts_n h2, ts_n h1, ts_n h1, ts_n h2]
theorem t3_25 {τ : TS} {a b w x : Int} : ts (t3 τ (a, b, w)) 25 0 x = t3 τ (x, b, w) := by
  unfold t3
  rw [ts_cm (k := 27) (j := 25) (by decide), ts_cm (k := 26) (j := 25) (by decide), ts_ts]
theorem t3_26 {τ : TS} {a b w x : Int} : ts (t3 τ (a, b, w)) 26 0 x = t3 τ (a, x, w) := by
  unfold t3
  rw [ts_cm (k := 27) (j := 26) (by decide), ts_ts]
theorem t3_27 {τ : TS} {a b w x : Int} : ts (t3 τ (a, b, w)) 27 0 x = t3 τ (a, b, x) := by
  unfold t3
  rw [ts_ts]
theorem t3_at25 {τ : TS} {z : Int × Int × Int} : t3 τ z 25 0 = z.1 := rfl
theorem t3_at26 {τ : TS} {z : Int × Int × Int} : t3 τ z 26 0 = z.2.1 := rfl
theorem t3_at27 {τ : TS} {z : Int × Int × Int} : t3 τ z 27 0 = z.2.2 := rfl
theorem WF_t3 {τ : TS} (W : WF τ) {z : Int × Int × Int} (h : 0 ≤ z.1 ∧ z.1 ≤ 12 ∧ 0 ≤ z.2.1 ∧ z.2.1 ≤ 12 ∧ -1 ≤ z.2.2 ∧ z.2.2 ≤ 1) : WF (t3 τ z) := WF_ts (WF_ts (WF_ts W ⟨h.1, h.2.1⟩) ⟨h.2.2.1, h.2.2.2.1⟩) ⟨h.2.2.2.2.1, h.2.2.2.2.2⟩
theorem tch_t3 {τ : TS} {z : Int × Int × Int} : tch (t3 τ z) = tch τ := rfl
theorem te_t3 {τ : TS} {z : Int × Int × Int} : te (t3 τ z) = te τ := rfl
