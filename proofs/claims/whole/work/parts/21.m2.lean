/-! THE REFERENCE: WHAT A PHRASE IS JUDGED, SCORES -/
def lsub : List (Option LV) → List (Option LV) → Prop
  | [], _ => True
  | none :: a, _ :: b => lsub a b
  | none :: a, [] => lsub a []
  | some v :: a, some w :: b => v = w ∧ lsub a b
  | some _ :: _, _ => False
theorem lsub_at : ∀ (a b : List (Option LV)), lsub a b → ∀ (i : Nat) (v : LV), a[i]? = some (some v) → b[i]? = some (some v)
  | [], _, _, i, v, hv => by simp at hv
  | none :: a, x :: b, h, i, v, hv => by
    cases i with
    | zero => simp at hv
    | succ i => exact lsub_at a b h i v hv
  | none :: a, [], h, i, v, hv => by
    cases i with
    | zero => simp at hv
    | succ i =>
      have := lsub_at a [] h i v hv
      simp at this
  | some w :: a, some x :: b, h, i, v, hv => by
    cases i with
    | zero => simp at hv ⊢; rw [← h.1]; exact hv
    | succ i => exact lsub_at a b h.2 i v hv
  | some w :: a, none :: b, h, i, v, hv => h.elim
  | some w :: a, [], h, i, v, hv => h.elim
theorem J_sub {X : GX} {M : MI} {pc : Nat} {ls ls' : List (Option LV)} {st : List LV} {h : LH} {k n : Nat} {Q : LO → LH → Prop} (kk : J X M pc ls' st h k n Q) (hs : lsub ls' ls) : J X M pc ls st h k n Q := J_ls (lsub_at ls' ls hs) kk
theorem vz {a b : Int} (e : a = b) : vI (iI a) = vI (iI b) := by rw [e]
/-- an event is a contact of a side that counts -/
abbrev cntF (F : Int) (c : Int → Int) (e s : Int) : Prop := c e / 2 = s ∧ (¬ F = 0 ∨ c e % 2 = 1)
abbrev litF (F : Int) (c : Int → Int) (e : Int) : Prop := cntF F c e 0 ∨ cntF F c e 1
/-- the first light, and who had the right ahead of it -/
def jl (F : Int) (c : Int → Int) (f : Int) : Nat → Int × Int
  | 0 => (-1, -1)
  | i + 1 => if (jl F c f i).1 = -1 then (if litF F c (f + i) then f + i else -1, if 4 ≤ c (f + i) then c (f + i) - 5 else (jl F c f i).2) else jl F c f i
/-- the other side's light -/
def js (F : Int) (c : Int → Int) (s f : Int) : Nat → Int
  | 0 => -1
  | i + 1 => if js F c s f i = -1 then (if cntF F c (f + 1 + i) (1 - s) then f + 1 + i else -1) else js F c s f i
theorem jl_stay {F : Int} {c : Int → Int} {f : Int} {i : Nat} (h : ¬ (jl F c f i).1 = -1) : ∀ m, jl F c f (i + m) = jl F c f i
  | 0 => rfl
  | m + 1 => by
    have e := jl_stay h m
    show (if (jl F c f (i + m)).1 = -1 then _ else jl F c f (i + m)) = _
    rw [e, if_neg h]
theorem js_stay {F : Int} {c : Int → Int} {s f : Int} {i : Nat} (h : ¬ js F c s f i = -1) : ∀ m, js F c s f (i + m) = js F c s f i
  | 0 => rfl
  | m + 1 => by
    have e := js_stay h m
    show (if js F c s f (i + m) = -1 then _ else js F c s f (i + m)) = _
    rw [e, if_neg h]
theorem jl_in {F : Int} {c : Int → Int} {f : Int} (hf : 0 ≤ f) (hc : ∀ i, 0 ≤ c i ∧ c i ≤ 6) : ∀ i : Nat, ((jl F c f i).1 = -1 ∨ (f ≤ (jl F c f i).1 ∧ (jl F c f i).1 < f + i ∧ litF F c (jl F c f i).1)) ∧ -1 ≤ (jl F c f i).2 ∧ (jl F c f i).2 ≤ 1
  | 0 => ⟨Or.inl rfl, by show (-1 : Int) ≤ -1 ∧ (-1 : Int) ≤ 1; omega⟩
  | i + 1 => by
    have ih := jl_in hf hc i (F := F)
    have hci := hc (f + i)
    unfold jl
    by_cases h1 : (jl F c f i).1 = -1
    · rw [if_pos h1]
      refine ⟨?_, ?_⟩
      · by_cases h2 : litF F c (f + i)
        · simp only [if_pos h2]; exact Or.inr ⟨by omega, by omega, h2⟩
        · simp only [if_neg h2]; exact Or.inl trivial
      · by_cases h3 : 4 ≤ c (f + i)
        · simp only [if_pos h3]; omega
        · simp only [if_neg h3]; exact ih.2
    · rw [if_neg h1]
      rcases ih.1 with h | ⟨h2, h3, h4⟩
      · exact absurd h h1
      · exact ⟨Or.inr ⟨h2, by omega, h4⟩, ih.2⟩
theorem js_in {F : Int} {c : Int → Int} {s f : Int} (hf : 0 ≤ f) : ∀ i : Nat, js F c s f i = -1 ∨ (f < js F c s f i ∧ js F c s f i < f + 1 + i ∧ cntF F c (js F c s f i) (1 - s))
  | 0 => Or.inl rfl
  | i + 1 => by
    have ih := js_in (F := F) (c := c) (s := s) hf i
    unfold js
    by_cases h1 : js F c s f i = -1
    · rw [if_pos h1]
      by_cases h2 : cntF F c (f + 1 + i) (1 - s)
      · simp only [if_pos h2]; exact Or.inr ⟨by omega, by omega, h2⟩
      · simp only [if_neg h2]; exact Or.inl trivial
    · rw [if_neg h1]
      rcases ih with h | ⟨h2, h3, h4⟩
      · exact absurd h h1
      · exact Or.inr ⟨h2, by omega, h4⟩
def jdF (F : Int) (cn bn c t : Int → Int) (ph : Int) : Int :=
  let fr := jl F c (8 * ph) (cn ph).toNat
  if fr.1 = -1 then 0 else
    let sd := c fr.1 / 2
    let s := js F c sd fr.1 (8 * ph + cn ph - fr.1 - 1).toNat
    let r := if bn ph = -2 then fr.2 else bn ph
    if s = -1 ∨ (if F = 0 then 40 else 300) < t s - t fr.1 then (if c fr.1 % 2 = 1 then sd + 1 else 0)
    else if F = 0 then 3 else if ¬ r = -1 ∧ c (if r = sd then fr.1 else s) % 2 = 1 then r + 1 else 0
def jd (τ : TS) (ph : Int) : Int := jdF (τ 0 0) (τ 12) (τ 14) (τ 15) (τ 16) ph
theorem shl_1 {s : Int} (h : s = 0 ∨ s = 1) : iI 1 <<< (iI s &&& 31) = iI (s + 1) := by rcases h with rfl | rfl <;> simp only [iI_d] <;> decide +kernel

set_option maxRecDepth 100000 in
set_option maxHeartbeats 4000000 in
theorem c_counts {X : GX} {h : LH} {τ : TS} (W : WF τ) {e s : Int} (he0 : 0 ≤ e) (he1 : e < 7872) (hs : rg s) : CM X mX8_counts [vI (iI e), vI (iI s)] h τ (fun v t => v = some (vI (iI (pI (cntF (τ 0 0) (τ 15) e s)))) ∧ t = τ) := by
  have b1 := wf15 W e
  have b2 := wf0 W 0
  refine CM_of (by decide +kernel) rfl (Nat.le_of_ble_eq_true rfl) ?_
  refine J_aload_n (M := mX8_counts) dX8_counts_0 rfl rfl ?_
  refine M_get (M := mX8_counts) (v := vR (some (55, 0))) dX8_counts_1 fi_X8_41 rfl ?_
  refine J_iload_n (M := mX8_counts) dX8_counts_4 rfl rfl ?_
  refine M_iald (M := mX8_counts) (kf := 15) (N := 7872) dX8_counts_5 rfl (by decide) (by omega) (by omega) ?_
  refine Z_iconst (M := mX8_counts) dX8_counts_6 ?_
  refine Z_idiv (M := mX8_counts) (by omega) (by first | assumption | exact pI_rg _ | (unfold rg; omega)) (by decide) (by first | assumption | exact pI_rg _ | (unfold rg; omega)) dX8_counts_7 ?_
  refine J_iload_n (M := mX8_counts) dX8_counts_8 rfl rfl ?_
  refine Z_ic_ne (M := mX8_counts) (tgt := 35) (by first | assumption | exact pI_rg _ | (unfold rg; omega)) (by first | assumption | exact pI_rg _ | (unfold rg; omega)) dX8_counts_9 (by decide) (fun c_9 => ?_) (fun c_9 => ?_)
  · refine Z_iconst (M := mX8_counts) dX8_counts_35 ?_
    refine M_zret (M := mX8_counts) dX8_counts_36 rfl (by first | exact pI_01 _ | exact Or.inl rfl | exact Or.inr rfl | omega) ?_
    exact And.intro (r0 (by omega)) rfl
  · refine J_aload_n (M := mX8_counts) dX8_counts_12 rfl rfl ?_
    refine M_get (M := mX8_counts) dX8_counts_13 fi_X8_75 rfl ?_
    first
      | refine Z_pt (M := mX8_counts) (tgt := 31) dX8_counts_16 (by decide) (fun c_16 => ?_) (fun c_16 => ?_)
      | refine Z_if_ne (M := mX8_counts) (tgt := 31) (by first | assumption | exact pI_rg _ | (unfold rg; omega)) dX8_counts_16 (by decide) (fun c_16 => ?_) (fun c_16 => ?_)
    · refine Z_iconst (M := mX8_counts) dX8_counts_31 ?_
      refine J_goto (M := mX8_counts) (tgt := 36) dX8_counts_32 (by decide) ?_
      refine M_zret (M := mX8_counts) dX8_counts_36 rfl (by first | exact pI_01 _ | exact Or.inl rfl | exact Or.inr rfl | omega) ?_
      exact And.intro (r1 (by omega)) rfl
    · refine J_aload_n (M := mX8_counts) dX8_counts_19 rfl rfl ?_
      refine M_get (M := mX8_counts) (v := vR (some (55, 0))) dX8_counts_20 fi_X8_41 rfl ?_
      refine J_iload_n (M := mX8_counts) dX8_counts_23 rfl rfl ?_
      refine M_iald (M := mX8_counts) (kf := 15) (N := 7872) dX8_counts_24 rfl (by decide) (by omega) (by omega) ?_
      refine Z_iconst (M := mX8_counts) dX8_counts_25 ?_
      refine Z_irem (M := mX8_counts) (by omega) (by first | assumption | exact pI_rg _ | (unfold rg; omega)) (by decide) (by first | assumption | exact pI_rg _ | (unfold rg; omega)) dX8_counts_26 ?_
      refine Z_iconst (M := mX8_counts) dX8_counts_27 ?_
      refine Z_ic_ne (M := mX8_counts) (tgt := 35) (by first | assumption | exact pI_rg _ | (unfold rg; omega)) (by first | assumption | exact pI_rg _ | (unfold rg; omega)) dX8_counts_28 (by decide) (fun c_28 => ?_) (fun c_28 => ?_)
      · refine Z_iconst (M := mX8_counts) dX8_counts_35 ?_
        refine M_zret (M := mX8_counts) dX8_counts_36 rfl (by first | exact pI_01 _ | exact Or.inl rfl | exact Or.inr rfl | omega) ?_
        exact And.intro (r0 (by omega)) rfl
      · refine Z_iconst (M := mX8_counts) dX8_counts_31 ?_
        refine J_goto (M := mX8_counts) (tgt := 36) dX8_counts_32 (by decide) ?_
        refine M_zret (M := mX8_counts) dX8_counts_36 rfl (by first | exact pI_01 _ | exact Or.inl rfl | exact Or.inr rfl | omega) ?_
        exact And.intro (r1 (by omega)) rfl

set_option maxRecDepth 100000 in
set_option maxHeartbeats 4000000 in
theorem judged_l1 {X : GX} {h : LH} {τ : TS} {k n : Nat} {Q : LO → LH → Prop} (W : WF τ) {ph : Int} (hp0 : 0 ≤ ph) (hp1 : ph < 984) : ∀ (m i : Nat), (i : Int) + m = τ 12 ph → J X mX8_judged 96 [some (vR (some (20, 0))), some (vI (iI ph)), some (vI (iI (8 * ph))), some (vI (iI (8 * ph + τ 12 ph))), some (vI (iI (jl (τ 0 0) (τ 15) (8 * ph) (τ 12 ph).toNat).1)), some (vI (iI (jl (τ 0 0) (τ 15) (8 * ph) (τ 12 ph).toNat).2)), none, none, none, none] [] (hm h τ) k n Q → J X mX8_judged 23 [some (vR (some (20, 0))), some (vI (iI ph)), some (vI (iI (8 * ph))), some (vI (iI (8 * ph + τ 12 ph))), some (vI (iI (jl (τ 0 0) (τ 15) (8 * ph) i).1)), some (vI (iI (jl (τ 0 0) (τ 15) (8 * ph) i).2)), some (vI (iI (8 * ph + i))), none, none, none] [] (hm h τ) k n Q := by
  have b1 := wf12 W ph
  have b2 := wf15 W
  have b3 := jl_in (F := τ 0 0) (c := τ 15) (f := 8 * ph) (by omega) b2
  intro m
  induction m with
  | zero =>
    intro i hi kk
    have ei : i = (τ 12 ph).toNat := by omega
    subst ei
    refine J_iload (M := mX8_judged) dX8_judged_23 rfl ?_
    refine J_iload_n (M := mX8_judged) dX8_judged_25 rfl rfl ?_
    refine Z_ic_ge (M := mX8_judged) (tgt := 96) (by first | assumption | exact pI_rg _ | (unfold rg; omega)) (by first | assumption | exact pI_rg _ | (unfold rg; omega)) dX8_judged_26 (by decide) (fun c_26 => ?_) (fun c_26 => ?_)
    · exact J_sub kk (And.intro rfl (And.intro rfl (And.intro rfl (And.intro rfl (And.intro rfl (And.intro rfl trivial))))))
    · omega
  | succ m ih =>
    intro i hi kk
    have b4 := b3 i
    have b5 := b2 (8 * ph + i)
    refine J_iload (M := mX8_judged) dX8_judged_23 rfl ?_
    refine J_iload_n (M := mX8_judged) dX8_judged_25 rfl rfl ?_
    refine Z_ic_ge (M := mX8_judged) (tgt := 96) (by first | assumption | exact pI_rg _ | (unfold rg; omega)) (by first | assumption | exact pI_rg _ | (unfold rg; omega)) dX8_judged_26 (by decide) (fun c_26 => ?_) (fun c_26 => ?_)
    · omega
    · refine J_iload (M := mX8_judged) dX8_judged_29 rfl ?_
      refine Z_iconst (M := mX8_judged) dX8_judged_31 ?_
      refine Z_ic_ne (M := mX8_judged) (tgt := 96) (by first | assumption | exact pI_rg _ | (unfold rg; omega)) (by first | assumption | exact pI_rg _ | (unfold rg; omega)) dX8_judged_32 (by decide) (fun c_32 => ?_) (fun c_32 => ?_)
      · have e9 : i + (m + 1) = (τ 12 ph).toNat := by omega
        exact J_sub kk (And.intro rfl (And.intro rfl (And.intro rfl (And.intro rfl (And.intro (vz (by rw [← e9, jl_stay c_32])) (And.intro (vz (by rw [← e9, jl_stay c_32])) trivial))))))
      · have hj61 : ∀ z : Int, z = (if litF (τ 0 0) (τ 15) (8 * ph + i) then 8 * ph + i else -1) → J X mX8_judged 61 [some (vR (some (20, 0))), some (vI (iI ph)), some (vI (iI (8 * ph))), some (vI (iI (8 * ph + τ 12 ph))), some (vI (iI (jl (τ 0 0) (τ 15) (8 * ph) i).1)), some (vI (iI (jl (τ 0 0) (τ 15) (8 * ph) i).2)), some (vI (iI (8 * ph + i))), none, none, none] [vI (iI z)] (hm h τ) k n Q := by
          intro z hz
          have hj88 : ∀ y : Int, y = (if 4 ≤ τ 15 (8 * ph + i) then τ 15 (8 * ph + i) - 5 else (jl (τ 0 0) (τ 15) (8 * ph) i).2) → J X mX8_judged 88 [some (vR (some (20, 0))), some (vI (iI ph)), some (vI (iI (8 * ph))), some (vI (iI (8 * ph + τ 12 ph))), some (vI (iI z)), some (vI (iI (jl (τ 0 0) (τ 15) (8 * ph) i).2)), some (vI (iI (8 * ph + i))), none, none, none] [vI (iI y)] (hm h τ) k n Q := by
            intro y hy
            refine J_istore (M := mX8_judged) dX8_judged_88 (by decide) ?_
            refine Z_iinc (M := mX8_judged) dX8_judged_90 rfl (by decide) ?_
            refine J_goto (M := mX8_judged) (tgt := 23) dX8_judged_93 (by decide) ?_
            exact J_sub (ih (i + 1) (by omega) kk) (And.intro rfl (And.intro rfl (And.intro rfl (And.intro rfl (And.intro (vz (by show (if _ then _ else _ : Int × Int).1 = _; rw [if_pos c_32]; exact hz.symm)) (And.intro (vz (by show (if _ then _ else _ : Int × Int).2 = _; rw [if_pos c_32]; exact hy.symm)) (And.intro (vz (by push_cast; omega)) trivial)))))))
          refine J_istore (M := mX8_judged) dX8_judged_61 (by decide) ?_
          refine J_aload_n (M := mX8_judged) dX8_judged_63 rfl rfl ?_
          refine M_get (M := mX8_judged) (v := vR (some (55, 0))) dX8_judged_64 fi_X8_41 rfl ?_
          refine J_iload (M := mX8_judged) dX8_judged_67 rfl ?_
          refine M_iald (M := mX8_judged) (kf := 15) (N := 7872) dX8_judged_69 rfl (by decide) (by omega) (by omega) ?_
          refine Z_iconst (M := mX8_judged) dX8_judged_70 ?_
          refine Z_ic_lt (M := mX8_judged) (tgt := 86) (by first | assumption | exact pI_rg _ | (unfold rg; omega)) (by first | assumption | exact pI_rg _ | (unfold rg; omega)) dX8_judged_71 (by decide) (fun c_71 => ?_) (fun c_71 => ?_)
          · refine J_iload (M := mX8_judged) dX8_judged_86 rfl ?_
            first | exact hj88 _ (by rw [if_pos (by omega)]) | exact hj88 _ (by rw [if_neg (by omega)])
          · refine J_aload_n (M := mX8_judged) dX8_judged_74 rfl rfl ?_
            refine M_get (M := mX8_judged) (v := vR (some (55, 0))) dX8_judged_75 fi_X8_41 rfl ?_
            refine J_iload (M := mX8_judged) dX8_judged_78 rfl ?_
            refine M_iald (M := mX8_judged) (kf := 15) (N := 7872) dX8_judged_80 rfl (by decide) (by omega) (by omega) ?_
            refine Z_iconst (M := mX8_judged) dX8_judged_81 ?_
            refine Z_isub (M := mX8_judged) dX8_judged_82 ?_
            refine J_goto (M := mX8_judged) (tgt := 88) dX8_judged_83 (by decide) ?_
            first | exact hj88 _ (by rw [if_pos (by omega)]) | exact hj88 _ (by rw [if_neg (by omega)])
        refine J_aload_n (M := mX8_judged) dX8_judged_35 rfl rfl ?_
        refine J_iload (M := mX8_judged) dX8_judged_36 rfl ?_
        refine Z_iconst (M := mX8_judged) dX8_judged_38 ?_
        refine M_call (M := mX8_judged) (as := [_, _]) dX8_judged_39 ca_X8_118 ⟨by decide, by decide⟩ rfl (by decide) rfl rfl (c_counts W (by omega) (by omega) (by unfold rg; omega)) (fun v_39 t_39 hv_39 => ?_)
        obtain ⟨rfl, rfl⟩ := hv_39
        first
          | refine Z_pt (M := mX8_judged) (tgt := 55) dX8_judged_42 (by decide) (fun c_42 => ?_) (fun c_42 => ?_)
          | refine Z_if_ne (M := mX8_judged) (tgt := 55) (by first | assumption | exact pI_rg _ | (unfold rg; omega)) dX8_judged_42 (by decide) (fun c_42 => ?_) (fun c_42 => ?_)
        · refine J_iload (M := mX8_judged) dX8_judged_55 rfl ?_
          refine J_goto (M := mX8_judged) (tgt := 61) dX8_judged_57 (by decide) ?_
          first | exact hj61 _ (by rw [if_pos (by first | exact Or.inl c_42 | exact Or.inr c_52)]) | exact hj61 _ (by rw [if_neg (by intro q; rcases q with q | q; exact c_42 q; exact c_52 q)])
        · refine J_aload_n (M := mX8_judged) dX8_judged_45 rfl rfl ?_
          refine J_iload (M := mX8_judged) dX8_judged_46 rfl ?_
          refine Z_iconst (M := mX8_judged) dX8_judged_48 ?_
          refine M_call (M := mX8_judged) (as := [_, _]) dX8_judged_49 ca_X8_118 ⟨by decide, by decide⟩ rfl (by decide) rfl rfl (c_counts W (by omega) (by omega) (by unfold rg; omega)) (fun v_49 t_49 hv_49 => ?_)
          obtain ⟨rfl, rfl⟩ := hv_49
          first
            | refine Z_pf (M := mX8_judged) (tgt := 60) dX8_judged_52 (by decide) (fun c_52 => ?_) (fun c_52 => ?_)
            | refine Z_if_eq (M := mX8_judged) (tgt := 60) (by first | assumption | exact pI_rg _ | (unfold rg; omega)) dX8_judged_52 (by decide) (fun c_52 => ?_) (fun c_52 => ?_)
          · refine Z_iconst (M := mX8_judged) dX8_judged_60 ?_
            first | exact hj61 _ (by rw [if_pos (by first | exact Or.inl c_42 | exact Or.inr c_52)]) | exact hj61 _ (by rw [if_neg (by intro q; rcases q with q | q; exact c_42 q; exact c_52 q)])
          · refine J_iload (M := mX8_judged) dX8_judged_55 rfl ?_
            refine J_goto (M := mX8_judged) (tgt := 61) dX8_judged_57 (by decide) ?_
            first | exact hj61 _ (by rw [if_pos (by first | exact Or.inl c_42 | exact Or.inr c_52)]) | exact hj61 _ (by rw [if_neg (by intro q; rcases q with q | q; exact c_42 q; exact c_52 q)])
        

set_option maxRecDepth 100000 in
set_option maxHeartbeats 4000000 in
theorem judged_l2 {X : GX} {h : LH} {τ : TS} {k n : Nat} {Q : LO → LH → Prop} (W : WF τ) {ph f s r : Int} (hp0 : 0 ≤ ph) (hp1 : ph < 984) (hf0 : 8 * ph ≤ f) (hf1 : f < 8 * ph + τ 12 ph) (hs0 : 0 ≤ s) (hs1 : s ≤ 1) : ∀ (m i : Nat), (i : Int) + m = 8 * ph + τ 12 ph - f - 1 → J X mX8_judged 163 [some (vR (some (20, 0))), some (vI (iI ph)), some (vI (iI (8 * ph))), some (vI (iI (8 * ph + τ 12 ph))), some (vI (iI f)), some (vI (iI r)), some (vI (iI s)), some (vI (iI (js (τ 0 0) (τ 15) s f (8 * ph + τ 12 ph - f - 1).toNat))), none, none] [] (hm h τ) k n Q → J X mX8_judged 124 [some (vR (some (20, 0))), some (vI (iI ph)), some (vI (iI (8 * ph))), some (vI (iI (8 * ph + τ 12 ph))), some (vI (iI f)), some (vI (iI r)), some (vI (iI s)), some (vI (iI (js (τ 0 0) (τ 15) s f i))), some (vI (iI (f + 1 + i))), none] [] (hm h τ) k n Q := by
  have b1 := wf12 W ph
  have b2 := wf15 W
  have b3 := js_in (F := τ 0 0) (c := τ 15) (s := s) (f := f) (by omega)
  intro m
  induction m with
  | zero =>
    intro i hi kk
    have ei : i = (8 * ph + τ 12 ph - f - 1).toNat := by omega
    subst ei
    refine J_iload (M := mX8_judged) dX8_judged_124 rfl ?_
    refine J_iload_n (M := mX8_judged) dX8_judged_126 rfl rfl ?_
    refine Z_ic_ge (M := mX8_judged) (tgt := 163) (by first | assumption | exact pI_rg _ | (unfold rg; omega)) (by first | assumption | exact pI_rg _ | (unfold rg; omega)) dX8_judged_127 (by decide) (fun c_127 => ?_) (fun c_127 => ?_)
    · exact J_sub kk (And.intro rfl (And.intro rfl (And.intro rfl (And.intro rfl (And.intro rfl (And.intro rfl (And.intro rfl (And.intro rfl trivial))))))))
    · omega
  | succ m ih =>
    intro i hi kk
    have b4 := b3 i
    have b5 := b2 (f + 1 + i)
    refine J_iload (M := mX8_judged) dX8_judged_124 rfl ?_
    refine J_iload_n (M := mX8_judged) dX8_judged_126 rfl rfl ?_
    refine Z_ic_ge (M := mX8_judged) (tgt := 163) (by first | assumption | exact pI_rg _ | (unfold rg; omega)) (by first | assumption | exact pI_rg _ | (unfold rg; omega)) dX8_judged_127 (by decide) (fun c_127 => ?_) (fun c_127 => ?_)
    · omega
    · refine J_iload (M := mX8_judged) dX8_judged_130 rfl ?_
      refine Z_iconst (M := mX8_judged) dX8_judged_132 ?_
      refine Z_ic_ne (M := mX8_judged) (tgt := 163) (by first | assumption | exact pI_rg _ | (unfold rg; omega)) (by first | assumption | exact pI_rg _ | (unfold rg; omega)) dX8_judged_133 (by decide) (fun c_133 => ?_) (fun c_133 => ?_)
      · have e9 : i + (m + 1) = (8 * ph + τ 12 ph - f - 1).toNat := by omega
        exact J_sub kk (And.intro rfl (And.intro rfl (And.intro rfl (And.intro rfl (And.intro rfl (And.intro rfl (And.intro rfl (And.intro (vz (by rw [← e9, js_stay c_133])) trivial))))))))
      · have hj155 : ∀ z : Int, z = (if cntF (τ 0 0) (τ 15) (f + 1 + i) (1 - s) then f + 1 + i else -1) → J X mX8_judged 155 [some (vR (some (20, 0))), some (vI (iI ph)), some (vI (iI (8 * ph))), some (vI (iI (8 * ph + τ 12 ph))), some (vI (iI f)), some (vI (iI r)), some (vI (iI s)), some (vI (iI (js (τ 0 0) (τ 15) s f i))), some (vI (iI (f + 1 + i))), none] [vI (iI z)] (hm h τ) k n Q := by
          intro z hz
          refine J_istore (M := mX8_judged) dX8_judged_155 (by decide) ?_
          refine Z_iinc (M := mX8_judged) dX8_judged_157 rfl (by decide) ?_
          refine J_goto (M := mX8_judged) (tgt := 124) dX8_judged_160 (by decide) ?_
          exact J_sub (ih (i + 1) (by omega) kk) (And.intro rfl (And.intro rfl (And.intro rfl (And.intro rfl (And.intro rfl (And.intro rfl (And.intro rfl (And.intro (vz (by show (if _ then _ else _ : Int) = _; rw [if_pos c_133]; exact hz.symm)) (And.intro (vz (by push_cast; omega)) trivial)))))))))
        refine J_aload_n (M := mX8_judged) dX8_judged_136 rfl rfl ?_
        refine J_iload (M := mX8_judged) dX8_judged_137 rfl ?_
        refine Z_iconst (M := mX8_judged) dX8_judged_139 ?_
        refine J_iload (M := mX8_judged) dX8_judged_140 rfl ?_
        refine Z_isub (M := mX8_judged) dX8_judged_142 ?_
        refine M_call (M := mX8_judged) (as := [_, _]) dX8_judged_143 ca_X8_118 ⟨by decide, by decide⟩ rfl (by decide) rfl rfl (c_counts W (by omega) (by omega) (by unfold rg; omega)) (fun v_143 t_143 hv_143 => ?_)
        obtain ⟨rfl, rfl⟩ := hv_143
        first
          | refine Z_pf (M := mX8_judged) (tgt := 154) dX8_judged_146 (by decide) (fun c_146 => ?_) (fun c_146 => ?_)
          | refine Z_if_eq (M := mX8_judged) (tgt := 154) (by first | assumption | exact pI_rg _ | (unfold rg; omega)) dX8_judged_146 (by decide) (fun c_146 => ?_) (fun c_146 => ?_)
        · refine Z_iconst (M := mX8_judged) dX8_judged_154 ?_
          first | exact hj155 _ (by rw [if_pos c_146]) | exact hj155 _ (by rw [if_neg c_146])
        · refine J_iload (M := mX8_judged) dX8_judged_149 rfl ?_
          refine J_goto (M := mX8_judged) (tgt := 155) dX8_judged_151 (by decide) ?_
          first | exact hj155 _ (by rw [if_pos c_146]) | exact hj155 _ (by rw [if_neg c_146])
        

