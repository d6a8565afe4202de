/-! RULES OF J THAT DON'T TOUCH THE HEAP -/
def c1 (v : LV) : Bool := match v with
  | .inr (.inl _) => false
  | _ => true
theorem c1_cat {ψ : Tg → Nat} {v : LV} (h : c1 v = true) : (ph ψ v).category = 1 := by
  match v, h with
  | .inl x, _ => rfl
  | .inr (.inr none), _ => rfl
  | .inr (.inr (some t)), _ => rfl
def toL (ψ : Tg → Nat) (ls : List (Option LV)) : List (Nat × Value) := (List.range ls.length).filterMap (fun j => match ls[j]? with
  | some (some v) => some (j, ph ψ v)
  | _ => none)
theorem toL_in {ψ : Tg → Nat} {ls : List (Option LV)} {j : Nat} {v : LV} (h : ls[j]? = some (some v)) : (j, ph ψ v) ∈ toL ψ ls := by
  refine List.mem_filterMap.mpr ⟨j, List.mem_range.mpr (List.getElem?_eq_some_iff.mp h).1, ?_⟩
  rw [h]
theorem toL_of {ψ : Tg → Nat} {ls : List (Option LV)} {q : Nat × Value} (h : q ∈ toL ψ ls) : ∃ v, ls[q.1]? = some (some v) ∧ q.2 = ph ψ v := by
  obtain ⟨j, hj, he⟩ := List.mem_filterMap.mp h
  split at he
  next v hv => cases he; exact ⟨v, hv, rfl⟩
  next => cases he
theorem LRel_has {ψ : Tg → Nat} {ls : List (Option LV)} {la : Array Slot} {nL : Nat} (r : LRel ψ ls la nL) : lv_has la nL (toL ψ ls) := by
  refine ⟨r.1, r.2.1, fun q hq => ?_⟩
  obtain ⟨v, h1, h2⟩ := toL_of hq
  rw [h2]
  exact r.2.2 q.1 v h1
/-- no long lies just ahead of the local i -/
def nlg (ls : List (Option LV)) : Nat → Bool
  | 0 => true
  | i + 1 => match ls[i]? with
    | some (some v) => c1 v
    | _ => true
theorem nlg_cat {ψ : Tg → Nat} {ls : List (Option LV)} {i j : Nat} {w : LV} (hp : nlg ls i = true) (e : j + 1 = i) (hw : ls[j]? = some (some w)) : (ph ψ w).category = 1 := by
  subst e
  have hp2 : (match ls[j]? with
    | some (some v) => c1 v
    | _ => true) = true := hp
  rw [hw] at hp2
  exact c1_cat hp2
theorem LRel_set {ψ : Tg → Nat} {ls : List (Option LV)} {la la' : Array Slot} {nL i : Nat} {v : LV} (hp : nlg ls i = true) (r : LRel ψ ls la nL)
    (h : lv_has la' nL ((i, ph ψ v) :: (toL ψ ls).filter (fun q => !(q.1 == i) && !(q.1 + 1 == i && q.2.category == 2)))) : LRel ψ (ls.set i (some v)) la' nL := by
  refine ⟨h.1, h.2.1, fun j w hw => ?_⟩
  by_cases hj : j = i
  · subst hj
    have hl : j < ls.length := by
      have := (List.getElem?_eq_some_iff.mp hw).1
      simpa using this
    rw [List.getElem?_set_self hl] at hw
    cases hw
    exact h.2.2 (j, ph ψ v) List.mem_cons_self
  · rw [List.getElem?_set_ne (Ne.symm hj)] at hw
    refine h.2.2 (j, ph ψ w) (List.mem_cons_of_mem _ (List.mem_filter.mpr ⟨toL_in hw, ?_⟩))
    by_cases e : j + 1 = i
    · have hc := nlg_cat (ψ := ψ) hp e hw
      simp [hj, hc]
    · simp [hj, e]
theorem LRel_setL {ψ : Tg → Nat} {ls : List (Option LV)} {la la' : Array Slot} {nL i : Nat} {v : LV} (hp : nlg ls i = true) (r : LRel ψ ls la nL)
    (h : lv_has la' nL ((i, ph ψ v) :: (toL ψ ls).filter (fun q => !(q.1 == i) && (!(q.1 == i + 1) && !(q.1 + 1 == i && q.2.category == 2))))) : LRel ψ ((ls.set i (some v)).set (i + 1) none) la' nL := by
  refine ⟨h.1, h.2.1, fun j w hw => ?_⟩
  by_cases hj1 : j = i + 1
  · subst hj1
    by_cases hl : i + 1 < (ls.set i (some v)).length
    · rw [List.getElem?_set_self hl] at hw
      cases hw
    · have := (List.getElem?_eq_some_iff.mp hw).1
      rw [List.length_set] at this
      exact absurd this hl
  · rw [List.getElem?_set_ne (Ne.symm hj1)] at hw
    by_cases hj : j = i
    · subst hj
      have hl : j < ls.length := by
        have := (List.getElem?_eq_some_iff.mp hw).1
        simpa using this
      rw [List.getElem?_set_self hl] at hw
      cases hw
      exact h.2.2 (j, ph ψ v) List.mem_cons_self
    · rw [List.getElem?_set_ne (Ne.symm hj)] at hw
      refine h.2.2 (j, ph ψ w) (List.mem_cons_of_mem _ (List.mem_filter.mpr ⟨toL_in hw, ?_⟩))
      by_cases e : j + 1 = i
      · have hc := nlg_cat (ψ := ψ) hp e hw
        simp [hj, hj1, hc]
      · simp [hj, hj1, e]
theorem lv_cons {h : LH} {v : LV} {st : List LV} (hv : Lv h v) (hs : ∀ v ∈ st, Lv h v) : ∀ w ∈ v :: st, Lv h w := List.forall_mem_cons.mpr ⟨hv, hs⟩
theorem lv_set_in {h : LH} {ls : List (Option LV)} {i : Nat} {v : LV} (hv : Lv h v) (hl : ∀ w, some w ∈ ls → Lv h w) : ∀ w, some w ∈ ls.set i (some v) → Lv h w := by
  intro w hw
  rcases List.mem_or_eq_of_mem_set hw with h1 | h1
  · exact hl w h1
  · cases h1; exact hv
section JR
variable {X : GX} {M : MI} {pc : Nat} {ls : List (Option LV)} {st : List LV} {h : LH} {k n : Nat} {Q : LO → LH → Prop}
theorem J_le {k' n' : Nat} (h1 : k' ≤ k) (h2 : n' ≤ n) (kk : J X M pc ls st h k' n' Q) : J X M pc ls st h k n Q := by
  simp only [J_def] at *
  intro p e R s m args below meth c ψ0 h0 F ψ H locs cells slots la hR hE hL hs hl hz hc hn
  exact kk p e R s m args below meth c ψ0 h0 F ψ H locs cells slots la hR hE hL hs hl hz (by omega) (by omega)
theorem J_mono {Q' : LO → LH → Prop} (hq : ∀ o h', Q' o h' → Q o h') (kk : J X M pc ls st h k n Q') : J X M pc ls st h k n Q := by
  simp only [J_def] at *
  intro p e R s m args below meth c ψ0 h0 F ψ H locs cells slots la hR hE hL hs hl hz hc hn
  intro T hT Y
  obtain ⟨t, a, o, b1, b2, b3⟩ := kk p e R s m args below meth c ψ0 h0 F ψ H locs cells slots la hR hE hL hs hl hz hc hn T hT Y
  refine ⟨t, a, o, b1, b2, ?_⟩
  rcases b3 with ⟨⟨v, h', ψ', e1, e2, e3⟩, L⟩ | ⟨q, e0, E, ce, L, ⟨k, h', ψ', e1, e2, e3⟩, r⟩
  · exact Or.inl ⟨⟨v, h', ψ', e1, hq _ _ e2, e3⟩, L⟩
  · exact Or.inr ⟨q, e0, E, ce, L, ⟨k, h', ψ', e1, hq _ _ e2, e3⟩, r⟩
/-- forget locals, in any way -/
theorem J_ls {ls' : List (Option LV)} (hh : ∀ (i : Nat) (v : LV), ls'[i]? = some (some v) → ls[i]? = some (some v)) (kk : J X M pc ls' st h k n Q) : J X M pc ls st h k n Q := by
  simp only [J_def] at *
  intro p e R s m args below meth c ψ0 h0 F ψ H locs cells slots la hR hE hL hs hl hz hc hn
  refine kk p e R s m args below meth c ψ0 h0 F ψ H locs cells slots la hR hE ⟨hL.1, hL.2.1, fun i v hv => hL.2.2 i v (hh i v hv)⟩ hs (fun v hv => ?_) hz hc hn
  obtain ⟨i, hi⟩ := List.getElem?_of_mem hv
  exact hl v (List.mem_of_getElem? (hh i v hi))

theorem J_iconst {z : Int} {x : Int32} (d : decode (mC M) pc = .ok (.iconst z, 1)) (hv : Int32.ofInt z = x) (kk : J X M (pc + 1) ls (vI x :: st) h k n Q) : J X M pc ls st h k n Q := by
  simp only [J_def] at *
  intro p e R s m args below meth c ψ0 h0 F ψ H locs cells slots la hR hE hL hs hl hz hc hn
  exact lv_iconst F.1 F.2.1 d hv (kk p e R s m args below meth c ψ0 h0 F ψ H locs cells slots la hR hE hL (lv_cons trivial hs) hl hz hc hn)
theorem J_bipush {z : Int} {x : Int32} (d : decode (mC M) pc = .ok (.bipush z, 2)) (hv : (Int8.ofInt z).toInt32 = x) (kk : J X M (pc + 2) ls (vI x :: st) h k n Q) : J X M pc ls st h k n Q := by
  simp only [J_def] at *
  intro p e R s m args below meth c ψ0 h0 F ψ H locs cells slots la hR hE hL hs hl hz hc hn
  exact lv_bipush F.1 F.2.1 d hv (kk p e R s m args below meth c ψ0 h0 F ψ H locs cells slots la hR hE hL (lv_cons trivial hs) hl hz hc hn)
theorem J_sipush {z : Int} {x : Int32} (d : decode (mC M) pc = .ok (.sipush z, 3)) (hv : (Int16.ofInt z).toInt32 = x) (kk : J X M (pc + 3) ls (vI x :: st) h k n Q) : J X M pc ls st h k n Q := by
  simp only [J_def] at *
  intro p e R s m args below meth c ψ0 h0 F ψ H locs cells slots la hR hE hL hs hl hz hc hn
  exact lv_sipush F.1 F.2.1 d hv (kk p e R s m args below meth c ψ0 h0 F ψ H locs cells slots la hR hE hL (lv_cons trivial hs) hl hz hc hn)
theorem J_lconst {z : Fin 2} {x : Int64} (d : decode (mC M) pc = .ok (.lconst z, 1)) (hv : Int64.ofNat (z : Nat) = x) (kk : J X M (pc + 1) ls (vL x :: st) h k n Q) : J X M pc ls st h k n Q := by
  simp only [J_def] at *
  intro p e R s m args below meth c ψ0 h0 F ψ H locs cells slots la hR hE hL hs hl hz hc hn
  exact lv_lconst F.1 F.2.1 d hv (kk p e R s m args below meth c ψ0 h0 F ψ H locs cells slots la hR hE hL (lv_cons trivial hs) hl hz hc hn)
theorem J_null (d : decode (mC M) pc = .ok (.aconst_null, 1)) (kk : J X M (pc + 1) ls (vR none :: st) h k n Q) : J X M pc ls st h k n Q := by
  simp only [J_def] at *
  intro p e R s m args below meth c ψ0 h0 F ψ H locs cells slots la hR hE hL hs hl hz hc hn
  exact lv_null F.1 F.2.1 d (kk p e R s m args below meth c ψ0 h0 F ψ H locs cells slots la hR hE hL (lv_cons trivial hs) hl hz hc hn)
theorem J_iload_n {q : Fin 4} {i : Nat} {x : Int32} (d : decode (mC M) pc = .ok (.iload_n q, 1)) (hi : (q : Nat) = i) (hv : ls[i]? = some (some (vI x))) (kk : J X M (pc + 1) ls (vI x :: st) h k n Q) : J X M pc ls st h k n Q := by
  simp only [J_def] at *
  intro p e R s m args below meth c ψ0 h0 F ψ H locs cells slots la hR hE hL hs hl hz hc hn
  exact lv_iload_n F.1 F.2.1 d hi (hL.2.2 i _ hv) (kk p e R s m args below meth c ψ0 h0 F ψ H locs cells slots la hR hE hL (lv_cons trivial hs) hl hz hc hn)
theorem J_iload {i : Nat} {x : Int32} (d : decode (mC M) pc = .ok (.iload i, 2)) (hv : ls[i]? = some (some (vI x))) (kk : J X M (pc + 2) ls (vI x :: st) h k n Q) : J X M pc ls st h k n Q := by
  simp only [J_def] at *
  intro p e R s m args below meth c ψ0 h0 F ψ H locs cells slots la hR hE hL hs hl hz hc hn
  exact lv_iload F.1 F.2.1 d (hL.2.2 i _ hv) (kk p e R s m args below meth c ψ0 h0 F ψ H locs cells slots la hR hE hL (lv_cons trivial hs) hl hz hc hn)
theorem J_aload_n {q : Fin 4} {i : Nat} {r : Option Tg} (d : decode (mC M) pc = .ok (.aload_n q, 1)) (hi : (q : Nat) = i) (hv : ls[i]? = some (some (vR r))) (kk : J X M (pc + 1) ls (vR r :: st) h k n Q) : J X M pc ls st h k n Q := by
  simp only [J_def] at *
  intro p e R s m args below meth c ψ0 h0 F ψ H locs cells slots la hR hE hL hs hl hz hc hn
  have h1 := hL.2.2 i _ hv
  have h2 := hl _ (List.mem_of_getElem? hv)
  have h3 := kk p e R s m args below meth c ψ0 h0 F ψ H locs cells slots la hR hE hL (lv_cons h2 hs) hl hz hc hn
  cases r with
  | none => exact lv_aload_nN F.1 F.2.1 d hi h1 h3
  | some t => exact lv_aload_n F.1 F.2.1 d hi h1 h3
theorem J_aload {i : Nat} {r : Option Tg} (d : decode (mC M) pc = .ok (.aload i, 2)) (hv : ls[i]? = some (some (vR r))) (kk : J X M (pc + 2) ls (vR r :: st) h k n Q) : J X M pc ls st h k n Q := by
  simp only [J_def] at *
  intro p e R s m args below meth c ψ0 h0 F ψ H locs cells slots la hR hE hL hs hl hz hc hn
  have h1 := hL.2.2 i _ hv
  have h2 := hl _ (List.mem_of_getElem? hv)
  have h3 := kk p e R s m args below meth c ψ0 h0 F ψ H locs cells slots la hR hE hL (lv_cons h2 hs) hl hz hc hn
  cases r with
  | none => exact lv_aloadN F.1 F.2.1 d h1 h3
  | some t => exact lv_aload F.1 F.2.1 d h1 h3
theorem J_istore_n {q : Fin 4} {i : Nat} {x : Int32} (d : decode (mC M) pc = .ok (.istore_n q, 1)) (hi : (q : Nat) = i) (hi2 : i < mL M) (kk : J X M (pc + 1) (ls.set i (some (vI x))) st h k n Q) (hp : nlg ls i = true := by rfl) : J X M pc ls (vI x :: st) h k n Q := by
  simp only [J_def] at *
  intro p e R s m args below meth c ψ0 h0 F ψ H locs cells slots la hR hE hL hs hl hz hc hn
  exact lv_istore_n F.1 F.2.1 d hi (LRel_has hL) hi2 rfl (fun la hq => kk p e R s m args below meth c ψ0 h0 F ψ H locs cells slots la hR hE (LRel_set (v := vI x) hp hL hq) (fun v hv => hs v (List.mem_cons_of_mem _ hv)) (lv_set_in (v := vI x) trivial hl) hz hc hn)
theorem J_istore {i : Nat} {x : Int32} (d : decode (mC M) pc = .ok (.istore i, 2)) (hi2 : i < mL M) (kk : J X M (pc + 2) (ls.set i (some (vI x))) st h k n Q) (hp : nlg ls i = true := by rfl) : J X M pc ls (vI x :: st) h k n Q := by
  simp only [J_def] at *
  intro p e R s m args below meth c ψ0 h0 F ψ H locs cells slots la hR hE hL hs hl hz hc hn
  exact lv_istore F.1 F.2.1 d (LRel_has hL) hi2 rfl (fun la hq => kk p e R s m args below meth c ψ0 h0 F ψ H locs cells slots la hR hE (LRel_set (v := vI x) hp hL hq) (fun v hv => hs v (List.mem_cons_of_mem _ hv)) (lv_set_in (v := vI x) trivial hl) hz hc hn)
theorem J_astore_n {q : Fin 4} {i : Nat} {r : Option Tg} (d : decode (mC M) pc = .ok (.astore_n q, 1)) (hi : (q : Nat) = i) (hi2 : i < mL M) (kk : J X M (pc + 1) (ls.set i (some (vR r))) st h k n Q) (hp : nlg ls i = true := by rfl) : J X M pc ls (vR r :: st) h k n Q := by
  simp only [J_def] at *
  intro p e R s m args below meth c ψ0 h0 F ψ H locs cells slots la hR hE hL hs hl hz hc hn
  have h2 := hs _ List.mem_cons_self
  have hs' := fun v hv => hs v (List.mem_cons_of_mem _ hv)
  cases r with
  | none => exact lv_astore_nN F.1 F.2.1 d hi (LRel_has hL) hi2 rfl (fun la hq => kk p e R s m args below meth c ψ0 h0 F ψ H locs cells slots la hR hE (LRel_set (v := vR none) hp hL hq) hs' (lv_set_in h2 hl) hz hc hn)
  | some t => exact lv_astore_n F.1 F.2.1 d hi (LRel_has hL) hi2 rfl (fun la hq => kk p e R s m args below meth c ψ0 h0 F ψ H locs cells slots la hR hE (LRel_set (v := vR (some t)) hp hL hq) hs' (lv_set_in h2 hl) hz hc hn)
theorem J_astore {i : Nat} {r : Option Tg} (d : decode (mC M) pc = .ok (.astore i, 2)) (hi2 : i < mL M) (kk : J X M (pc + 2) (ls.set i (some (vR r))) st h k n Q) (hp : nlg ls i = true := by rfl) : J X M pc ls (vR r :: st) h k n Q := by
  simp only [J_def] at *
  intro p e R s m args below meth c ψ0 h0 F ψ H locs cells slots la hR hE hL hs hl hz hc hn
  have h2 := hs _ List.mem_cons_self
  have hs' := fun v hv => hs v (List.mem_cons_of_mem _ hv)
  cases r with
  | none => exact lv_astoreN F.1 F.2.1 d (LRel_has hL) hi2 rfl (fun la hq => kk p e R s m args below meth c ψ0 h0 F ψ H locs cells slots la hR hE (LRel_set (v := vR none) hp hL hq) hs' (lv_set_in h2 hl) hz hc hn)
  | some t => exact lv_astore F.1 F.2.1 d (LRel_has hL) hi2 rfl (fun la hq => kk p e R s m args below meth c ψ0 h0 F ψ H locs cells slots la hR hE (LRel_set (v := vR (some t)) hp hL hq) hs' (lv_set_in h2 hl) hz hc hn)
theorem J_iinc {i : Nat} {z : Int} {x y : Int32} (d : decode (mC M) pc = .ok (.iinc i z, 3)) (hv : ls[i]? = some (some (vI x))) (hy : x + Int32.ofInt z = y) (hi2 : i < mL M) (kk : J X M (pc + 3) (ls.set i (some (vI y))) st h k n Q) (hp : nlg ls i = true := by rfl) : J X M pc ls st h k n Q := by
  simp only [J_def] at *
  intro p e R s m args below meth c ψ0 h0 F ψ H locs cells slots la hR hE hL hs hl hz hc hn
  have hm : (i, ph ψ (vI x)) ∈ toL ψ ls := toL_in hv
  obtain ⟨q, hq⟩ := List.getElem?_of_mem hm
  exact lv_iinc F.1 F.2.1 d (LRel_has hL) hq hy hi2 rfl (fun la hq => kk p e R s m args below meth c ψ0 h0 F ψ H locs cells slots la hR hE (LRel_set (v := vI y) hp hL hq) hs (lv_set_in (v := vI y) trivial hl) hz hc hn)
theorem J_iadd {x y : Int32} (d : decode (mC M) pc = .ok (.iadd, 1)) (kk : J X M (pc + 1) ls (vI (x + y) :: st) h k n Q) : J X M pc ls (vI y :: vI x :: st) h k n Q := by
  simp only [J_def] at *
  intro p e R s m args below meth c ψ0 h0 F ψ H locs cells slots la hR hE hL hs hl hz hc hn
  exact lv_iadd F.1 F.2.1 d (kk p e R s m args below meth c ψ0 h0 F ψ H locs cells slots la hR hE hL (lv_cons trivial (fun v hv => hs v (List.mem_cons_of_mem _ (List.mem_cons_of_mem _ hv)))) hl hz hc hn)
theorem J_isub {x y : Int32} (d : decode (mC M) pc = .ok (.isub, 1)) (kk : J X M (pc + 1) ls (vI (x - y) :: st) h k n Q) : J X M pc ls (vI y :: vI x :: st) h k n Q := by
  simp only [J_def] at *
  intro p e R s m args below meth c ψ0 h0 F ψ H locs cells slots la hR hE hL hs hl hz hc hn
  exact lv_isub F.1 F.2.1 d (kk p e R s m args below meth c ψ0 h0 F ψ H locs cells slots la hR hE hL (lv_cons trivial (fun v hv => hs v (List.mem_cons_of_mem _ (List.mem_cons_of_mem _ hv)))) hl hz hc hn)
theorem J_imul {x y : Int32} (d : decode (mC M) pc = .ok (.imul, 1)) (kk : J X M (pc + 1) ls (vI (x * y) :: st) h k n Q) : J X M pc ls (vI y :: vI x :: st) h k n Q := by
  simp only [J_def] at *
  intro p e R s m args below meth c ψ0 h0 F ψ H locs cells slots la hR hE hL hs hl hz hc hn
  exact lv_imul F.1 F.2.1 d (kk p e R s m args below meth c ψ0 h0 F ψ H locs cells slots la hR hE hL (lv_cons trivial (fun v hv => hs v (List.mem_cons_of_mem _ (List.mem_cons_of_mem _ hv)))) hl hz hc hn)
theorem J_idiv {x y : Int32} (d : decode (mC M) pc = .ok (.idiv, 1)) (hne : ¬ y = 0) (kk : J X M (pc + 1) ls (vI (x / y) :: st) h k n Q) : J X M pc ls (vI y :: vI x :: st) h k n Q := by
  simp only [J_def] at *
  intro p e R s m args below meth c ψ0 h0 F ψ H locs cells slots la hR hE hL hs hl hz hc hn
  exact lv_idiv F.1 F.2.1 d hne (kk p e R s m args below meth c ψ0 h0 F ψ H locs cells slots la hR hE hL (lv_cons trivial (fun v hv => hs v (List.mem_cons_of_mem _ (List.mem_cons_of_mem _ hv)))) hl hz hc hn)
theorem J_irem {x y : Int32} (d : decode (mC M) pc = .ok (.irem, 1)) (hne : ¬ y = 0) (kk : J X M (pc + 1) ls (vI (x - x / y * y) :: st) h k n Q) : J X M pc ls (vI y :: vI x :: st) h k n Q := by
  simp only [J_def] at *
  intro p e R s m args below meth c ψ0 h0 F ψ H locs cells slots la hR hE hL hs hl hz hc hn
  exact lv_irem F.1 F.2.1 d hne (kk p e R s m args below meth c ψ0 h0 F ψ H locs cells slots la hR hE hL (lv_cons trivial (fun v hv => hs v (List.mem_cons_of_mem _ (List.mem_cons_of_mem _ hv)))) hl hz hc hn)
theorem J_ishl {x y : Int32} (d : decode (mC M) pc = .ok (.ishl, 1)) (kk : J X M (pc + 1) ls (vI (x <<< (y &&& 31)) :: st) h k n Q) : J X M pc ls (vI y :: vI x :: st) h k n Q := by
  simp only [J_def] at *
  intro p e R s m args below meth c ψ0 h0 F ψ H locs cells slots la hR hE hL hs hl hz hc hn
  exact lv_ishl F.1 F.2.1 d (kk p e R s m args below meth c ψ0 h0 F ψ H locs cells slots la hR hE hL (lv_cons trivial (fun v hv => hs v (List.mem_cons_of_mem _ (List.mem_cons_of_mem _ hv)))) hl hz hc hn)
theorem J_ishr {x y : Int32} (d : decode (mC M) pc = .ok (.ishr, 1)) (kk : J X M (pc + 1) ls (vI (x >>> (y &&& 31)) :: st) h k n Q) : J X M pc ls (vI y :: vI x :: st) h k n Q := by
  simp only [J_def] at *
  intro p e R s m args below meth c ψ0 h0 F ψ H locs cells slots la hR hE hL hs hl hz hc hn
  exact lv_ishr F.1 F.2.1 d (kk p e R s m args below meth c ψ0 h0 F ψ H locs cells slots la hR hE hL (lv_cons trivial (fun v hv => hs v (List.mem_cons_of_mem _ (List.mem_cons_of_mem _ hv)))) hl hz hc hn)
theorem J_iand {x y : Int32} (d : decode (mC M) pc = .ok (.iand, 1)) (kk : J X M (pc + 1) ls (vI (x &&& y) :: st) h k n Q) : J X M pc ls (vI y :: vI x :: st) h k n Q := by
  simp only [J_def] at *
  intro p e R s m args below meth c ψ0 h0 F ψ H locs cells slots la hR hE hL hs hl hz hc hn
  exact lv_iand F.1 F.2.1 d (kk p e R s m args below meth c ψ0 h0 F ψ H locs cells slots la hR hE hL (lv_cons trivial (fun v hv => hs v (List.mem_cons_of_mem _ (List.mem_cons_of_mem _ hv)))) hl hz hc hn)
theorem J_ior {x y : Int32} (d : decode (mC M) pc = .ok (.ior, 1)) (kk : J X M (pc + 1) ls (vI (x ||| y) :: st) h k n Q) : J X M pc ls (vI y :: vI x :: st) h k n Q := by
  simp only [J_def] at *
  intro p e R s m args below meth c ψ0 h0 F ψ H locs cells slots la hR hE hL hs hl hz hc hn
  exact lv_ior F.1 F.2.1 d (kk p e R s m args below meth c ψ0 h0 F ψ H locs cells slots la hR hE hL (lv_cons trivial (fun v hv => hs v (List.mem_cons_of_mem _ (List.mem_cons_of_mem _ hv)))) hl hz hc hn)
theorem J_ixor {x y : Int32} (d : decode (mC M) pc = .ok (.ixor, 1)) (kk : J X M (pc + 1) ls (vI (x ^^^ y) :: st) h k n Q) : J X M pc ls (vI y :: vI x :: st) h k n Q := by
  simp only [J_def] at *
  intro p e R s m args below meth c ψ0 h0 F ψ H locs cells slots la hR hE hL hs hl hz hc hn
  exact lv_ixor F.1 F.2.1 d (kk p e R s m args below meth c ψ0 h0 F ψ H locs cells slots la hR hE hL (lv_cons trivial (fun v hv => hs v (List.mem_cons_of_mem _ (List.mem_cons_of_mem _ hv)))) hl hz hc hn)
theorem J_i2l {x : Int32} (d : decode (mC M) pc = .ok (.i2l, 1)) (kk : J X M (pc + 1) ls (vL x.toInt64 :: st) h k n Q) : J X M pc ls (vI x :: st) h k n Q := by
  simp only [J_def] at *
  intro p e R s m args below meth c ψ0 h0 F ψ H locs cells slots la hR hE hL hs hl hz hc hn
  exact lv_i2l F.1 F.2.1 d rfl (kk p e R s m args below meth c ψ0 h0 F ψ H locs cells slots la hR hE hL (lv_cons trivial (fun v hv => hs v (List.mem_cons_of_mem _ hv))) hl hz hc hn)
theorem J_lcmp {x y : Int64} (d : decode (mC M) pc = .ok (.lcmp, 1)) (kk : J X M (pc + 1) ls (vI (lg_cmp x y) :: st) h k n Q) : J X M pc ls (vL y :: vL x :: st) h k n Q := by
  simp only [J_def] at *
  intro p e R s m args below meth c ψ0 h0 F ψ H locs cells slots la hR hE hL hs hl hz hc hn
  exact W.lcmp F.1 F.2.1 d (kk p e R s m args below meth c ψ0 h0 F ψ H locs cells slots la hR hE hL (lv_cons trivial (fun v hv => hs v (List.mem_cons_of_mem _ (List.mem_cons_of_mem _ hv)))) hl hz hc hn)
/-- a number gets a simpler form -/
theorem J_eq {x y : Int32} (e : x = y) (kk : J X M pc ls (vI y :: st) h k n Q) : J X M pc ls (vI x :: st) h k n Q := e ▸ kk
theorem J_dup {v : LV} (d : decode (mC M) pc = .ok (.dup, 1)) (hv : c1 v = true) (kk : J X M (pc + 1) ls (v :: v :: st) h k n Q) : J X M pc ls (v :: st) h k n Q := by
  simp only [J_def] at *
  intro p e R s m args below meth c ψ0 h0 F ψ H locs cells slots la hR hE hL hs hl hz hc hn
  exact lv_dup F.1 F.2.1 d (c1_cat hv) (kk p e R s m args below meth c ψ0 h0 F ψ H locs cells slots la hR hE hL (lv_cons (hs _ List.mem_cons_self) hs) hl hz hc hn)
theorem J_pop {v : LV} (d : decode (mC M) pc = .ok (.pop, 1)) (hv : c1 v = true) (kk : J X M (pc + 1) ls st h k n Q) : J X M pc ls (v :: st) h k n Q := by
  simp only [J_def] at *
  intro p e R s m args below meth c ψ0 h0 F ψ H locs cells slots la hR hE hL hs hl hz hc hn
  exact lv_pop F.1 F.2.1 d (c1_cat hv) (kk p e R s m args below meth c ψ0 h0 F ψ H locs cells slots la hR hE hL (fun v hv => hs v (List.mem_cons_of_mem _ hv)) hl hz hc hn)
theorem J_dup2 {v w : LV} (d : decode (mC M) pc = .ok (.dup2, 1)) (hv : c1 v = true) (hw : c1 w = true) (kk : J X M (pc + 1) ls (v :: w :: v :: w :: st) h k n Q) : J X M pc ls (v :: w :: st) h k n Q := by
  simp only [J_def] at *
  intro p e R s m args below meth c ψ0 h0 F ψ H locs cells slots la hR hE hL hs hl hz hc hn
  exact lv_dup2_11 F.1 F.2.1 d (c1_cat hv) (c1_cat hw) (kk p e R s m args below meth c ψ0 h0 F ψ H locs cells slots la hR hE hL (lv_cons (hs _ List.mem_cons_self) (lv_cons (hs _ (List.mem_cons_of_mem _ List.mem_cons_self)) hs)) hl hz hc hn)
theorem J_goto {off : Int} {tgt : Nat} (d : decode (mC M) pc = .ok (.goto off, 3)) (ht : (pc : Int) + off = (tgt : Int)) (kk : J X M tgt ls st h k n Q) : J X M pc ls st h k n Q := by
  simp only [J_def] at *
  intro p e R s m args below meth c ψ0 h0 F ψ H locs cells slots la hR hE hL hs hl hz hc hn
  exact lv_goto F.1 F.2.1 d ht (kk p e R s m args below meth c ψ0 h0 F ψ H locs cells slots la hR hE hL hs hl hz hc hn)
theorem J_if_eq {x : Int32} {off : Int} {tgt : Nat} (d : decode (mC M) pc = .ok (.ifCond .eq off, 3)) (ht : (pc : Int) + off = (tgt : Int)) (kt : x = 0 → J X M tgt ls st h k n Q) (kf : ¬ x = 0 → J X M (pc + 3) ls st h k n Q) : J X M pc ls (vI x :: st) h k n Q := by
  simp only [J_def] at *
  intro p e R s m args below meth c ψ0 h0 F ψ H locs cells slots la hR hE hL hs hl hz hc hn
  exact lv_if_eq F.1 F.2.1 d ht (fun hq => (kt hq) p e R s m args below meth c ψ0 h0 F ψ H locs cells slots la hR hE hL (fun v hv => hs v (List.mem_cons_of_mem _ hv)) hl hz hc hn) (fun hq => (kf hq) p e R s m args below meth c ψ0 h0 F ψ H locs cells slots la hR hE hL (fun v hv => hs v (List.mem_cons_of_mem _ hv)) hl hz hc hn)
theorem J_ic_eq {x y : Int32} {off : Int} {tgt : Nat} (d : decode (mC M) pc = .ok (.if_icmp .eq off, 3)) (ht : (pc : Int) + off = (tgt : Int)) (kt : x = y → J X M tgt ls st h k n Q) (kf : ¬ x = y → J X M (pc + 3) ls st h k n Q) : J X M pc ls (vI y :: vI x :: st) h k n Q := by
  simp only [J_def] at *
  intro p e R s m args below meth c ψ0 h0 F ψ H locs cells slots la hR hE hL hs hl hz hc hn
  exact lv_icmp_eq F.1 F.2.1 d ht (fun hq => (kt hq) p e R s m args below meth c ψ0 h0 F ψ H locs cells slots la hR hE hL (fun v hv => hs v (List.mem_cons_of_mem _ (List.mem_cons_of_mem _ hv))) hl hz hc hn) (fun hq => (kf hq) p e R s m args below meth c ψ0 h0 F ψ H locs cells slots la hR hE hL (fun v hv => hs v (List.mem_cons_of_mem _ (List.mem_cons_of_mem _ hv))) hl hz hc hn)
theorem J_if_ne {x : Int32} {off : Int} {tgt : Nat} (d : decode (mC M) pc = .ok (.ifCond .ne off, 3)) (ht : (pc : Int) + off = (tgt : Int)) (kt : ¬ x = 0 → J X M tgt ls st h k n Q) (kf : x = 0 → J X M (pc + 3) ls st h k n Q) : J X M pc ls (vI x :: st) h k n Q := by
  simp only [J_def] at *
  intro p e R s m args below meth c ψ0 h0 F ψ H locs cells slots la hR hE hL hs hl hz hc hn
  exact lv_if_ne F.1 F.2.1 d ht (fun hq => (kt hq) p e R s m args below meth c ψ0 h0 F ψ H locs cells slots la hR hE hL (fun v hv => hs v (List.mem_cons_of_mem _ hv)) hl hz hc hn) (fun hq => (kf hq) p e R s m args below meth c ψ0 h0 F ψ H locs cells slots la hR hE hL (fun v hv => hs v (List.mem_cons_of_mem _ hv)) hl hz hc hn)
theorem J_ic_ne {x y : Int32} {off : Int} {tgt : Nat} (d : decode (mC M) pc = .ok (.if_icmp .ne off, 3)) (ht : (pc : Int) + off = (tgt : Int)) (kt : ¬ x = y → J X M tgt ls st h k n Q) (kf : x = y → J X M (pc + 3) ls st h k n Q) : J X M pc ls (vI y :: vI x :: st) h k n Q := by
  simp only [J_def] at *
  intro p e R s m args below meth c ψ0 h0 F ψ H locs cells slots la hR hE hL hs hl hz hc hn
  exact lv_icmp_ne F.1 F.2.1 d ht (fun hq => (kt hq) p e R s m args below meth c ψ0 h0 F ψ H locs cells slots la hR hE hL (fun v hv => hs v (List.mem_cons_of_mem _ (List.mem_cons_of_mem _ hv))) hl hz hc hn) (fun hq => (kf hq) p e R s m args below meth c ψ0 h0 F ψ H locs cells slots la hR hE hL (fun v hv => hs v (List.mem_cons_of_mem _ (List.mem_cons_of_mem _ hv))) hl hz hc hn)
theorem J_if_lt {x : Int32} {off : Int} {tgt : Nat} (d : decode (mC M) pc = .ok (.ifCond .lt off, 3)) (ht : (pc : Int) + off = (tgt : Int)) (kt : x < 0 → J X M tgt ls st h k n Q) (kf : ¬ x < 0 → J X M (pc + 3) ls st h k n Q) : J X M pc ls (vI x :: st) h k n Q := by
  simp only [J_def] at *
  intro p e R s m args below meth c ψ0 h0 F ψ H locs cells slots la hR hE hL hs hl hz hc hn
  exact lv_if_lt F.1 F.2.1 d ht (fun hq => (kt hq) p e R s m args below meth c ψ0 h0 F ψ H locs cells slots la hR hE hL (fun v hv => hs v (List.mem_cons_of_mem _ hv)) hl hz hc hn) (fun hq => (kf hq) p e R s m args below meth c ψ0 h0 F ψ H locs cells slots la hR hE hL (fun v hv => hs v (List.mem_cons_of_mem _ hv)) hl hz hc hn)
theorem J_ic_lt {x y : Int32} {off : Int} {tgt : Nat} (d : decode (mC M) pc = .ok (.if_icmp .lt off, 3)) (ht : (pc : Int) + off = (tgt : Int)) (kt : x < y → J X M tgt ls st h k n Q) (kf : ¬ x < y → J X M (pc + 3) ls st h k n Q) : J X M pc ls (vI y :: vI x :: st) h k n Q := by
  simp only [J_def] at *
  intro p e R s m args below meth c ψ0 h0 F ψ H locs cells slots la hR hE hL hs hl hz hc hn
  exact lv_icmp_lt F.1 F.2.1 d ht (fun hq => (kt hq) p e R s m args below meth c ψ0 h0 F ψ H locs cells slots la hR hE hL (fun v hv => hs v (List.mem_cons_of_mem _ (List.mem_cons_of_mem _ hv))) hl hz hc hn) (fun hq => (kf hq) p e R s m args below meth c ψ0 h0 F ψ H locs cells slots la hR hE hL (fun v hv => hs v (List.mem_cons_of_mem _ (List.mem_cons_of_mem _ hv))) hl hz hc hn)
theorem J_if_ge {x : Int32} {off : Int} {tgt : Nat} (d : decode (mC M) pc = .ok (.ifCond .ge off, 3)) (ht : (pc : Int) + off = (tgt : Int)) (kt : 0 ≤ x → J X M tgt ls st h k n Q) (kf : ¬ 0 ≤ x → J X M (pc + 3) ls st h k n Q) : J X M pc ls (vI x :: st) h k n Q := by
  simp only [J_def] at *
  intro p e R s m args below meth c ψ0 h0 F ψ H locs cells slots la hR hE hL hs hl hz hc hn
  exact lv_if_ge F.1 F.2.1 d ht (fun hq => (kt hq) p e R s m args below meth c ψ0 h0 F ψ H locs cells slots la hR hE hL (fun v hv => hs v (List.mem_cons_of_mem _ hv)) hl hz hc hn) (fun hq => (kf hq) p e R s m args below meth c ψ0 h0 F ψ H locs cells slots la hR hE hL (fun v hv => hs v (List.mem_cons_of_mem _ hv)) hl hz hc hn)
theorem J_ic_ge {x y : Int32} {off : Int} {tgt : Nat} (d : decode (mC M) pc = .ok (.if_icmp .ge off, 3)) (ht : (pc : Int) + off = (tgt : Int)) (kt : y ≤ x → J X M tgt ls st h k n Q) (kf : ¬ y ≤ x → J X M (pc + 3) ls st h k n Q) : J X M pc ls (vI y :: vI x :: st) h k n Q := by
  simp only [J_def] at *
  intro p e R s m args below meth c ψ0 h0 F ψ H locs cells slots la hR hE hL hs hl hz hc hn
  exact lv_icmp_ge F.1 F.2.1 d ht (fun hq => (kt hq) p e R s m args below meth c ψ0 h0 F ψ H locs cells slots la hR hE hL (fun v hv => hs v (List.mem_cons_of_mem _ (List.mem_cons_of_mem _ hv))) hl hz hc hn) (fun hq => (kf hq) p e R s m args below meth c ψ0 h0 F ψ H locs cells slots la hR hE hL (fun v hv => hs v (List.mem_cons_of_mem _ (List.mem_cons_of_mem _ hv))) hl hz hc hn)
theorem J_if_gt {x : Int32} {off : Int} {tgt : Nat} (d : decode (mC M) pc = .ok (.ifCond .gt off, 3)) (ht : (pc : Int) + off = (tgt : Int)) (kt : 0 < x → J X M tgt ls st h k n Q) (kf : ¬ 0 < x → J X M (pc + 3) ls st h k n Q) : J X M pc ls (vI x :: st) h k n Q := by
  simp only [J_def] at *
  intro p e R s m args below meth c ψ0 h0 F ψ H locs cells slots la hR hE hL hs hl hz hc hn
  exact lv_if_gt F.1 F.2.1 d ht (fun hq => (kt hq) p e R s m args below meth c ψ0 h0 F ψ H locs cells slots la hR hE hL (fun v hv => hs v (List.mem_cons_of_mem _ hv)) hl hz hc hn) (fun hq => (kf hq) p e R s m args below meth c ψ0 h0 F ψ H locs cells slots la hR hE hL (fun v hv => hs v (List.mem_cons_of_mem _ hv)) hl hz hc hn)
theorem J_ic_gt {x y : Int32} {off : Int} {tgt : Nat} (d : decode (mC M) pc = .ok (.if_icmp .gt off, 3)) (ht : (pc : Int) + off = (tgt : Int)) (kt : y < x → J X M tgt ls st h k n Q) (kf : ¬ y < x → J X M (pc + 3) ls st h k n Q) : J X M pc ls (vI y :: vI x :: st) h k n Q := by
  simp only [J_def] at *
  intro p e R s m args below meth c ψ0 h0 F ψ H locs cells slots la hR hE hL hs hl hz hc hn
  exact lv_icmp_gt F.1 F.2.1 d ht (fun hq => (kt hq) p e R s m args below meth c ψ0 h0 F ψ H locs cells slots la hR hE hL (fun v hv => hs v (List.mem_cons_of_mem _ (List.mem_cons_of_mem _ hv))) hl hz hc hn) (fun hq => (kf hq) p e R s m args below meth c ψ0 h0 F ψ H locs cells slots la hR hE hL (fun v hv => hs v (List.mem_cons_of_mem _ (List.mem_cons_of_mem _ hv))) hl hz hc hn)
theorem J_if_le {x : Int32} {off : Int} {tgt : Nat} (d : decode (mC M) pc = .ok (.ifCond .le off, 3)) (ht : (pc : Int) + off = (tgt : Int)) (kt : x ≤ 0 → J X M tgt ls st h k n Q) (kf : ¬ x ≤ 0 → J X M (pc + 3) ls st h k n Q) : J X M pc ls (vI x :: st) h k n Q := by
  simp only [J_def] at *
  intro p e R s m args below meth c ψ0 h0 F ψ H locs cells slots la hR hE hL hs hl hz hc hn
  exact lv_if_le F.1 F.2.1 d ht (fun hq => (kt hq) p e R s m args below meth c ψ0 h0 F ψ H locs cells slots la hR hE hL (fun v hv => hs v (List.mem_cons_of_mem _ hv)) hl hz hc hn) (fun hq => (kf hq) p e R s m args below meth c ψ0 h0 F ψ H locs cells slots la hR hE hL (fun v hv => hs v (List.mem_cons_of_mem _ hv)) hl hz hc hn)
theorem J_ic_le {x y : Int32} {off : Int} {tgt : Nat} (d : decode (mC M) pc = .ok (.if_icmp .le off, 3)) (ht : (pc : Int) + off = (tgt : Int)) (kt : x ≤ y → J X M tgt ls st h k n Q) (kf : ¬ x ≤ y → J X M (pc + 3) ls st h k n Q) : J X M pc ls (vI y :: vI x :: st) h k n Q := by
  simp only [J_def] at *
  intro p e R s m args below meth c ψ0 h0 F ψ H locs cells slots la hR hE hL hs hl hz hc hn
  exact lv_icmp_le F.1 F.2.1 d ht (fun hq => (kt hq) p e R s m args below meth c ψ0 h0 F ψ H locs cells slots la hR hE hL (fun v hv => hs v (List.mem_cons_of_mem _ (List.mem_cons_of_mem _ hv))) hl hz hc hn) (fun hq => (kf hq) p e R s m args below meth c ψ0 h0 F ψ H locs cells slots la hR hE hL (fun v hv => hs v (List.mem_cons_of_mem _ (List.mem_cons_of_mem _ hv))) hl hz hc hn)
theorem J_ifnull {r : Option Tg} {off : Int} {tgt : Nat} (d : decode (mC M) pc = .ok (.ifnull off, 3)) (ht : (pc : Int) + off = (tgt : Int)) (kt : r = none → J X M tgt ls st h k n Q) (kf : ∀ t, r = some t → J X M (pc + 3) ls st h k n Q) : J X M pc ls (vR r :: st) h k n Q := by
  simp only [J_def] at *
  intro p e R s m args below meth c ψ0 h0 F ψ H locs cells slots la hR hE hL hs hl hz hc hn
  cases r with
  | none => exact lv_ifnullN F.1 F.2.1 d ht ((kt rfl) p e R s m args below meth c ψ0 h0 F ψ H locs cells slots la hR hE hL (fun v hv => hs v (List.mem_cons_of_mem _ hv)) hl hz hc hn)
  | some t => exact lv_ifnull F.1 F.2.1 d ((kf t rfl) p e R s m args below meth c ψ0 h0 F ψ H locs cells slots la hR hE hL (fun v hv => hs v (List.mem_cons_of_mem _ hv)) hl hz hc hn)
theorem J_ifnonnull {r : Option Tg} {off : Int} {tgt : Nat} (d : decode (mC M) pc = .ok (.ifnonnull off, 3)) (ht : (pc : Int) + off = (tgt : Int)) (kt : ∀ t, r = some t → J X M tgt ls st h k n Q) (kf : r = none → J X M (pc + 3) ls st h k n Q) : J X M pc ls (vR r :: st) h k n Q := by
  simp only [J_def] at *
  intro p e R s m args below meth c ψ0 h0 F ψ H locs cells slots la hR hE hL hs hl hz hc hn
  cases r with
  | none => exact lv_ifnonnullN F.1 F.2.1 d ((kf rfl) p e R s m args below meth c ψ0 h0 F ψ H locs cells slots la hR hE hL (fun v hv => hs v (List.mem_cons_of_mem _ hv)) hl hz hc hn)
  | some t => exact lv_ifnonnull F.1 F.2.1 d ht ((kt t rfl) p e R s m args below meth c ψ0 h0 F ψ H locs cells slots la hR hE hL (fun v hv => hs v (List.mem_cons_of_mem _ hv)) hl hz hc hn)
theorem phR_inj {X : GX} {ψ : Tg → Nat} {h : LH} {H : Heap} (hR : HR X ψ h H) {r r' : Option Tg} (h1 : Lv h (vR r)) (h2 : Lv h (vR r')) : r.map ψ = r'.map ψ ↔ r = r' := by
  cases r <;> cases r' <;> simp
  exact ⟨fun e => hR.2.1 _ _ h1 h2 e, fun e => by rw [e]⟩
theorem J_acne {r r' : Option Tg} {off : Int} {tgt : Nat} (d : decode (mC M) pc = .ok (.if_acmp .ne off, 3)) (ht : (pc : Int) + off = (tgt : Int)) (kt : ¬ r = r' → J X M tgt ls st h k n Q) (kf : r = r' → J X M (pc + 3) ls st h k n Q) : J X M pc ls (vR r' :: vR r :: st) h k n Q := by
  simp only [J_def] at *
  intro p e R s m args below meth c ψ0 h0 F ψ H locs cells slots la hR hE hL hs hl hz hc hn
  have hi := phR_inj hR (hs _ (List.mem_cons_of_mem _ List.mem_cons_self)) (hs _ List.mem_cons_self)
  exact lv_acmp_ne F.1 F.2.1 d ht (fun hq => (kt (fun e => hq (hi.mpr e))) p e R s m args below meth c ψ0 h0 F ψ H locs cells slots la hR hE hL (fun v hv => hs v (List.mem_cons_of_mem _ (List.mem_cons_of_mem _ hv))) hl hz hc hn) (fun hq => (kf (hi.mp hq)) p e R s m args below meth c ψ0 h0 F ψ H locs cells slots la hR hE hL (fun v hv => hs v (List.mem_cons_of_mem _ (List.mem_cons_of_mem _ hv))) hl hz hc hn)
theorem J_swOut {dflt lo hi : Int} {offs : Array Int} {len : Nat} {x : Int32} {tgt : Nat} (d : decode (mC M) pc = .ok (.tableswitch dflt lo hi offs, len)) (hx : x.toInt < lo ∨ hi < x.toInt) (ht : (pc : Int) + dflt = (tgt : Int)) (kk : J X M tgt ls st h k n Q) : J X M pc ls (vI x :: st) h k n Q := by
  simp only [J_def] at *
  intro p e R s m args below meth c ψ0 h0 F ψ H locs cells slots la hR hE hL hs hl hz hc hn
  exact lv_tableOut F.1 F.2.1 d hx ht (kk p e R s m args below meth c ψ0 h0 F ψ H locs cells slots la hR hE hL (fun v hv => hs v (List.mem_cons_of_mem _ hv)) hl hz hc hn)
theorem J_swIn {dflt lo hi : Int} {offs : Array Int} {len : Nat} {x : Int32} {off : Int} {tgt : Nat} (d : decode (mC M) pc = .ok (.tableswitch dflt lo hi offs, len)) (h1 : ¬ x.toInt < lo) (h2 : ¬ hi < x.toInt) (ho : offs[(x.toInt - lo).toNat]? = some off) (ht : (pc : Int) + off = (tgt : Int)) (kk : J X M tgt ls st h k n Q) : J X M pc ls (vI x :: st) h k n Q := by
  simp only [J_def] at *
  intro p e R s m args below meth c ψ0 h0 F ψ H locs cells slots la hR hE hL hs hl hz hc hn
  exact lv_tableIn F.1 F.2.1 d h1 h2 ho ht (kk p e R s m args below meth c ψ0 h0 F ψ H locs cells slots la hR hE hL (fun v hv => hs v (List.mem_cons_of_mem _ hv)) hl hz hc hn)
theorem J_ladd {x y : Int64} (d : decode (mC M) pc = .ok (.ladd, 1)) (kk : J X M (pc + 1) ls (vL (x + y) :: st) h k n Q) : J X M pc ls (vL y :: vL x :: st) h k n Q := by
  simp only [J_def] at *
  intro p e R s m args below meth c ψ0 h0 F ψ H locs cells slots la hR hE hL hs hl hz hc hn
  exact lv_ladd F.1 F.2.1 d (kk p e R s m args below meth c ψ0 h0 F ψ H locs cells slots la hR hE hL (lv_cons trivial (fun v hv => hs v (List.mem_cons_of_mem _ (List.mem_cons_of_mem _ hv)))) hl hz hc hn)
theorem J_lmul {x y : Int64} (d : decode (mC M) pc = .ok (.lmul, 1)) (kk : J X M (pc + 1) ls (vL (x * y) :: st) h k n Q) : J X M pc ls (vL y :: vL x :: st) h k n Q := by
  simp only [J_def] at *
  intro p e R s m args below meth c ψ0 h0 F ψ H locs cells slots la hR hE hL hs hl hz hc hn
  exact lv_lmul F.1 F.2.1 d (kk p e R s m args below meth c ψ0 h0 F ψ H locs cells slots la hR hE hL (lv_cons trivial (fun v hv => hs v (List.mem_cons_of_mem _ (List.mem_cons_of_mem _ hv)))) hl hz hc hn)
theorem J_land {x y : Int64} (d : decode (mC M) pc = .ok (.land, 1)) (kk : J X M (pc + 1) ls (vL (x &&& y) :: st) h k n Q) : J X M pc ls (vL y :: vL x :: st) h k n Q := by
  simp only [J_def] at *
  intro p e R s m args below meth c ψ0 h0 F ψ H locs cells slots la hR hE hL hs hl hz hc hn
  exact lv_land F.1 F.2.1 d (kk p e R s m args below meth c ψ0 h0 F ψ H locs cells slots la hR hE hL (lv_cons trivial (fun v hv => hs v (List.mem_cons_of_mem _ (List.mem_cons_of_mem _ hv)))) hl hz hc hn)
theorem J_lor {x y : Int64} (d : decode (mC M) pc = .ok (.lor, 1)) (kk : J X M (pc + 1) ls (vL (x ||| y) :: st) h k n Q) : J X M pc ls (vL y :: vL x :: st) h k n Q := by
  simp only [J_def] at *
  intro p e R s m args below meth c ψ0 h0 F ψ H locs cells slots la hR hE hL hs hl hz hc hn
  exact lv_lor F.1 F.2.1 d (kk p e R s m args below meth c ψ0 h0 F ψ H locs cells slots la hR hE hL (lv_cons trivial (fun v hv => hs v (List.mem_cons_of_mem _ (List.mem_cons_of_mem _ hv)))) hl hz hc hn)
theorem J_lxor {x y : Int64} (d : decode (mC M) pc = .ok (.lxor, 1)) (kk : J X M (pc + 1) ls (vL (x ^^^ y) :: st) h k n Q) : J X M pc ls (vL y :: vL x :: st) h k n Q := by
  simp only [J_def] at *
  intro p e R s m args below meth c ψ0 h0 F ψ H locs cells slots la hR hE hL hs hl hz hc hn
  exact lv_lxor F.1 F.2.1 d (kk p e R s m args below meth c ψ0 h0 F ψ H locs cells slots la hR hE hL (lv_cons trivial (fun v hv => hs v (List.mem_cons_of_mem _ (List.mem_cons_of_mem _ hv)))) hl hz hc hn)
theorem J_lshl {x : Int64} {y : Int32} (d : decode (mC M) pc = .ok (.lshl, 1)) (kk : J X M (pc + 1) ls (vL (x <<< (y.toInt64 &&& 63)) :: st) h k n Q) : J X M pc ls (vI y :: vL x :: st) h k n Q := by
  simp only [J_def] at *
  intro p e R s m args below meth c ψ0 h0 F ψ H locs cells slots la hR hE hL hs hl hz hc hn
  exact lv_lshl F.1 F.2.1 d rfl (kk p e R s m args below meth c ψ0 h0 F ψ H locs cells slots la hR hE hL (lv_cons trivial (fun v hv => hs v (List.mem_cons_of_mem _ (List.mem_cons_of_mem _ hv)))) hl hz hc hn)
theorem J_lushr {x : Int64} {y : Int32} (d : decode (mC M) pc = .ok (.lushr, 1)) (kk : J X M (pc + 1) ls (vL ((x.toUInt64 >>> (y.toInt64.toUInt64 &&& Int64.toUInt64 63)).toInt64) :: st) h k n Q) : J X M pc ls (vI y :: vL x :: st) h k n Q := by
  simp only [J_def] at *
  intro p e R s m args below meth c ψ0 h0 F ψ H locs cells slots la hR hE hL hs hl hz hc hn
  exact lv_lushr F.1 F.2.1 d rfl (kk p e R s m args below meth c ψ0 h0 F ψ H locs cells slots la hR hE hL (lv_cons trivial (fun v hv => hs v (List.mem_cons_of_mem _ (List.mem_cons_of_mem _ hv)))) hl hz hc hn)
theorem J_l2i {x : Int64} (d : decode (mC M) pc = .ok (.l2i, 1)) (kk : J X M (pc + 1) ls (vI x.toInt32 :: st) h k n Q) : J X M pc ls (vL x :: st) h k n Q := by
  simp only [J_def] at *
  intro p e R s m args below meth c ψ0 h0 F ψ H locs cells slots la hR hE hL hs hl hz hc hn
  exact lv_l2i F.1 F.2.1 d rfl (kk p e R s m args below meth c ψ0 h0 F ψ H locs cells slots la hR hE hL (lv_cons trivial (fun v hv => hs v (List.mem_cons_of_mem _ hv))) hl hz hc hn)
theorem J_ldc {idx : Nat} {v : Int32} (d : decode (mC M) pc = .ok (.ldc idx, 2)) (w : Cond.constant (mN M).cls idx v ∈ GW) (kk : J X M (pc + 2) ls (vI v :: st) h k n Q) : J X M pc ls st h k n Q := by
  simp only [J_def] at *
  intro p e R s m args below meth c ψ0 h0 F ψ H locs cells slots la hR hE hL hs hl hz hc hn
  exact lv_ldc F.1 F.2.1 F.2.2.2.2.2.1 (F.2.2.2.2.2.2.1 _ w) d (kk p e R s m args below meth c ψ0 h0 F ψ H locs cells slots la hR hE hL (lv_cons trivial hs) hl hz hc hn)
theorem J_ldc2 {idx : Nat} {v : Int64} (d : decode (mC M) pc = .ok (.ldc2_w idx, 3)) (w : Cond.constantLong (mN M).cls idx v ∈ GW) (kk : J X M (pc + 3) ls (vL v :: st) h k n Q) : J X M pc ls st h k n Q := by
  simp only [J_def] at *
  intro p e R s m args below meth c ψ0 h0 F ψ H locs cells slots la hR hE hL hs hl hz hc hn
  exact lv_ldc2 F.1 F.2.1 F.2.2.2.2.2.1 (F.2.2.2.2.2.2.1 _ w) d (kk p e R s m args below meth c ψ0 h0 F ψ H locs cells slots la hR hE hL (lv_cons trivial hs) hl hz hc hn)
theorem J_lload {i : Nat} {x : Int64} (d : decode (mC M) pc = .ok (.lload i, 2)) (hv : ls[i]? = some (some (vL x))) (kk : J X M (pc + 2) ls (vL x :: st) h k n Q) : J X M pc ls st h k n Q := by
  simp only [J_def] at *
  intro p e R s m args below meth c ψ0 h0 F ψ H locs cells slots la hR hE hL hs hl hz hc hn
  exact lv_lload F.1 F.2.1 d (hL.2.2 i _ hv) (kk p e R s m args below meth c ψ0 h0 F ψ H locs cells slots la hR hE hL (lv_cons trivial hs) hl hz hc hn)
theorem J_lstore {i : Nat} {x : Int64} (d : decode (mC M) pc = .ok (.lstore i, 2)) (hi2 : i + 1 < mL M) (kk : J X M (pc + 2) ((ls.set i (some (vL x))).set (i + 1) none) st h k n Q) (hp : nlg ls i = true := by rfl) : J X M pc ls (vL x :: st) h k n Q := by
  simp only [J_def] at *
  intro p e R s m args below meth c ψ0 h0 F ψ H locs cells slots la hR hE hL hs hl hz hc hn
  have hl2 : ∀ w, some w ∈ (ls.set i (some (vL x))).set (i + 1) none → Lv h w := by
    intro w hw
    rcases List.mem_or_eq_of_mem_set hw with h1 | h1
    · exact lv_set_in (v := vL x) trivial hl w h1
    · cases h1
  exact lv_lstore F.1 F.2.1 d (LRel_has hL) hi2 rfl (fun la hq => kk p e R s m args below meth c ψ0 h0 F ψ H locs cells slots la hR hE (LRel_setL (v := vL x) hp hL hq) (fun v hv => hs v (List.mem_cons_of_mem _ hv)) hl2 hz hc hn)
end JR
