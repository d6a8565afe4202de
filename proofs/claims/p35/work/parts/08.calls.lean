/-! A METHOD'S ENTRY, CALLS, THROWS AND CATCHES -/
theorem args_in (ψ : Tg → Nat) : ∀ (as : List LV) (i j : Nat) (v : LV), as.all c1 = true → as[j]? = some v → (i + j, ph ψ v) ∈ lv_args i (as.map (ph ψ)) := by
  intro as
  induction as with
  | nil => intro i j v _ h; simp at h
  | cons w as ih =>
    intro i j v hc h
    simp only [List.all_cons, Bool.and_eq_true] at hc
    have hcat : (ph ψ w).category = 1 := c1_cat hc.1
    show _ ∈ (i, ph ψ w) :: lv_args (if (ph ψ w).category = 2 then i + 2 else i + 1) (as.map (ph ψ))
    rw [hcat, if_neg (by decide)]
    cases j with
    | zero => simp at h; subst h; exact List.mem_cons_self
    | succ j =>
      rw [List.getElem?_cons_succ] at h
      have := ih (i + 1) j v hc.2 h
      rw [show i + 1 + j = i + (j + 1) by omega] at this
      exact List.mem_cons_of_mem _ this
theorem sl_len (ψ : Tg → Nat) (as : List LV) (hc : as.all c1 = true) : (lg_sl (as.map (ph ψ))).length = as.length := by
  induction as with
  | nil => rfl
  | cons w as ih =>
    simp only [List.all_cons, Bool.and_eq_true] at hc
    have hcat : (ph ψ w).category = 1 := c1_cat hc.1
    have h1 := ih hc.2
    unfold lg_sl at h1 ⊢
    rw [List.map_cons, List.flatMap_cons, hcat, if_neg (by decide), List.length_append, h1]
    simp [Nat.add_comm]
theorem CT_of {X : GX} {M : MI} {as : List LV} {h : LH} {Q : LO → LH → Prop} (hy : plainName (mN M).cls = true) (hc : as.all c1 = true) (hlen : as.length ≤ mL M)
    (body : J X M 0 (as.map some ++ List.replicate (mL M - as.length) none) [] h (mR M).cells (mR M).slots Q) : CT X M as h Q := by
  rw [J_def] at body
  intro ψ
  have main : ∀ p e s m args below meth c s₁, BodyLoose p (xl X) (mN M) (headSpec (wsO M) (mR M)) (mC M) (mL M) (mT M) e s m args below meth c s₁ → c.maxLocals = mL M → c.exceptionTable.toList = tableOf (mH M) → va_Pc (as.map (ph ψ)) (fun U => KK X U ∧ HR X ψ h U.heap ∧ ∀ v ∈ as, Lv h v) args s →
      W p (xl X) e (headSpec (wsO M) (mR M)).room s m args below meth c s.heap [] 0 0 (vx_MQ below (QR X ψ h Q) (QX X ψ h Q) args s (mR M).cells (mR M).slots (xA X)) (entryFrame m args (mL M)) := by
    intro p e s m args below meth c s₁ B hml htab hP
    obtain ⟨rfl, hK, hR, hA⟩ := hP
    have hts := atoms_spec (ws := wsO M) B.pre
    have F : FOK X M p (mR M) s m (as.map (ph ψ)).toArray meth c := ⟨B.exec, B.bytes, hml, B.returns, B.notSynchronized, findClass_of_methodNamed B.named, fun w hw => hts w (List.mem_cons_of_mem _ hw), hK, rfl, htab, (name_of_methodNamed B.named B.method).1, hR.2.2.2.2.2.1, hR.2.2.2.2.2.2⟩
    have hl := lv_entry (as.map (ph ψ)) (n := mL M) (by rw [sl_len ψ as hc]; exact hlen)
    rw [lg_entry_eq]
    refine body p e _ s m _ below meth c ψ h F ψ s.heap [] 0 0 _ hR ext_rf ⟨hl.1, hl.2.1, fun i v hv => ?_⟩ (fun v hv => nomatch hv) (fun v hv => ?_) (fun z hz => nomatch hz) (by omega) (by omega)
    · by_cases hi : i < as.length
      · rw [List.getElem?_append_left (by simpa using hi), List.getElem?_map] at hv
        cases hw : as[i]? with
        | none => rw [hw] at hv; cases hv
        | some w =>
          rw [hw] at hv
          cases hv
          have h1 := hl.2.2 (0 + i, ph ψ v) (args_in ψ as 0 i v hc hw)
          rw [Nat.zero_add] at h1
          exact h1
      · rw [List.getElem?_append_right (by simpa using hi)] at hv
        have := List.mem_of_getElem? hv
        have h2 := (List.mem_replicate.mp this).2
        cases h2
    · rcases List.mem_append.mp hv with h1 | h1
      · obtain ⟨w, hw, e⟩ := List.mem_map.mp h1
        cases e
        exact hA v hw
      · have h2 := (List.mem_replicate.mp h1).2
        cases h2
  by_cases hh : (mH M).isEmpty = true
  · refine vx_ofW (cc := mC M) (maxL := mL M) (ret := mT M) hy (ws' := GW) (by unfold wsO; rw [if_pos hh]) fun p e s m args below meth c s₁ B hml ht hP => main p e s m args below meth c s₁ B hml ?_ hP
    have h1 : mH M = [] := List.isEmpty_iff.mp hh
    rw [h1]
    cases hx : c.exceptionTable.toList with
    | nil => rfl
    | cons x xs => exact (ht x (by rw [hx]; exact List.mem_cons_self)).elim
  · refine vx_ofWH (cc := mC M) (maxL := mL M) (ret := mT M) (hh := mH M) hy (ws' := GW) (by unfold wsO; rw [if_neg hh]) fun p e s m args below meth c s₁ B hml hP => main p e s m args below meth c s₁ B hml ?_ hP
    have hts := atoms_spec (ws := wsO M) B.pre
    refine vx_table (x := mN M) (bytes := mC M) (maxL' := mL M) (ret' := mT M) (hh := mH M) B (hts _ ?_)
    unfold wsO
    rw [if_neg hh]
    exact List.mem_cons_self
theorem GW_good {w : Cond} (h : w ∈ GW) : (w.onTables && w.keeps) = true ∨ ∃ ty, w = .arrayClass ty := good_of_word (List.mem_filter.mp h).2
theorem GW_of {w : Cond} {i : Nat} (h : lw_tbl[i]? = some w) (hg : goodWord w = true) : w ∈ GW := List.mem_filter.mpr ⟨List.mem_of_getElem? h, hg⟩
theorem EW_of {w : Cond} {i : Nat} (h : lw_tbl[i]? = some w) (hg : mvWord w = true) : w ∈ EW := List.mem_filter.mpr ⟨List.mem_of_getElem? h, hg⟩
/-- a callee whose code stands in the tables -/
def KI (M : MI) (n : Nat) : Prop := (mH M) = [] ∧ Cond.code (mN M) (mC M) (mL M) (mT M) ∈ GW ∧ Cond.initialized (mN M).cls ∈ GW ∧ ((mN M).cls ≠ "java/lang/invoke/MethodHandle" ∧ (mN M).cls ≠ "java/lang/invoke/VarHandle") ∧ (parseMethodDescriptor (mN M).desc).map (fun d => d.parameters.length) = some n
theorem KI_good {M : MI} {n : Nat} (f : KI M n) : GoodIn GW (wsO M) ∧ wsO M = Cond.code (mN M) (mC M) (mL M) (mT M) :: GW := by
  have e : wsO M = Cond.code (mN M) (mC M) (mL M) (mT M) :: GW := by unfold wsO; rw [f.1]; rfl
  refine ⟨fun w hw => ?_, e⟩
  rw [e] at hw
  rcases List.mem_cons.mp hw with rfl | hw
  · exact ⟨f.2.1, GW_good f.2.1⟩
  · exact ⟨hw, GW_good hw⟩
theorem cat_sum (ψ : Tg → Nat) : ∀ st : List LV, ((st.map (ph ψ)).map fun v => v.category).sum ≤ 2 * st.length := by
  intro st
  induction st with
  | nil => simp
  | cons v st ih =>
    have h1 : (ph ψ v).category ≤ 2 := by rcases lv_cat (ph ψ v) with h | h <;> omega
    simp only [List.map_cons, List.sum_cons, List.length_cons]
    omega
/-- the room of a callee -/
def rmOK (M M' : MI) : Prop := (mR M').frames + 1 ≤ (mR M).frames ∧ 8 + (mL M' + 11) + (mR M').locals ≤ (mR M).locals
theorem Pc_blind {X : GX} {ψ : Tg → Nat} {h : LH} {as : List LV} : FrameBlind (va_Pc (as.map (ph ψ)) (fun U => KK X U ∧ HR X ψ h U.heap ∧ ∀ v ∈ as, Lv h v)) := fun a U g mk q => ⟨q.1, KK.warm (s := U) (U := U.calling g mk a) (State.WarmedH.refl U) q.2.1, q.2.2.1, q.2.2.2⟩
section JC
variable {X : GX} {M M' : MI} {pc : Nat} {ls : List (Option LV)} {rest st as : List LV} {h : LH} {k n k' n' : Nat} {Q : LO → LH → Prop} {P : Option LV → LH → Prop}
/-- behind a call that returns -/
theorem back_call {st0 : List Value} {p : Program} {e : Env} {R : Room} {s : State} {m : MethodId} {args : Array Value} {below : List Frame} {meth : Method} {c : Code} {ψ0 ψ : Tg → Nat} {h0 : LH} {H : Heap} {locs : List Loc} {cells slots : Nat} {la : Array Slot} {a : Array Value}
    (hr : va_Run p (xl X) e R s m args below meth c H locs cells slots (mR M').cells (mR M').slots (F0 m pc la st0) (rest.map (ph ψ)) (QR X ψ h (rQ P) a) (xA X))
    (F : FOK X M p R s m args meth c) (hE : ext ψ0 ψ h0 h) (hL : LRel ψ ls la (mL M)) (hs : ∀ v ∈ rest, Lv h v) (hl : ∀ v, some v ∈ ls → Lv h v) (hz : ∀ z ∈ locs, xA X z.base) (hc : cells + (mR M').cells + k' ≤ (mR M).cells) (hn : slots + (mR M').slots + n' ≤ (mR M).slots)
    (kk : ∀ v h', P v h' → J0 X M (pc + 3) ls (v.toList ++ rest) h' k' n' Q) :
    W p (xl X) e R s m args below meth c H locs cells slots (vx_MQ below (QR X ψ0 h0 Q) (QX X ψ0 h0 Q) args s (mR M).cells (mR M).slots (xA X)) (F0 m pc la st0) := by
  intro T hT Y
  obtain ⟨v, st₀, t, T', L, g0, Y', hLo, e1, e2, ⟨v', h', ψ', hv, hP, hR', hE', hlv⟩, st⟩ := hr T hT Y
  cases hv
  have hgo := kk v' h' hP p e R s m args below meth c ψ0 h0 F ψ' T'.heap (locs ++ L) (cells + (mR M').cells) (slots + (mR M').slots) la (by rw [e1]; exact hR') (ext_tr hE hE') (LRel_ext hE' hl hL)
    (fun w hw => by
      rcases List.mem_append.mp hw with q | q
      · exact hlv w (by simpa using q)
      · exact ext_lv hE' (hs w q)) (fun w hw => ext_lv hE' (hl w hw)) (fun z q => by
      rcases List.mem_append.mp q with q | q
      · exact hz z q
      · exact hLo z q) hc hn
  obtain ⟨t2, a1, b1⟩ := hgo T' rfl Y'
  refine ⟨t2, st t2 ?_, b1⟩
  have e3 : (v'.toList ++ rest).map (ph ψ') = (v'.map (ph ψ')).toList ++ rest.map (ph ψ) := by
    rw [List.map_append, ext_map hE' hs]
    cases v' <;> rfl
  rw [e3] at a1
  exact a1
def WI (own : String) (idx : Nat) (M' : MI) (n : Nat) : Prop := mH M' ≠ [] ∧ Cond.codeWith (mN M') (mC M') (mL M') (mT M') (mH M') ∈ GW ∧ Cond.initialized (mN M').cls ∈ GW ∧ ((mN M').cls ≠ "java/lang/invoke/MethodHandle" ∧ (mN M').cls ≠ "java/lang/invoke/VarHandle") ∧ Cond.methodLink own idx (mN M') ∈ GW ∧ Cond.static (mN M') ∈ GW ∧ (parseMethodDescriptor (mN M').desc).map (fun d => d.parameters.length) = some n
/-- the handler that takes kind kq, thrown at pc: at hp it is stored in the local i -/
def HI (M : MI) (pc kq hp i len : Nat) : Prop := ∃ (pre : List (Nat × Nat × Nat × Nat)) (x : Nat × Nat × Nat × Nat) (suf : List (Nat × Nat × Nat × Nat)), mH M = pre ++ x :: suf ∧
  (∀ z ∈ pre, covers ⟨z.1, z.2.1, z.2.2.1, z.2.2.2⟩ pc = false ∨ (z.2.2.2 ≠ 0 ∧ ∃ nm : String, Cond.classLink (mN M).cls z.2.2.2 nm ∈ GW ∧ (exN kq, nm) ∈ ncL)) ∧
  covers ⟨x.1, x.2.1, x.2.2.1, x.2.2.2⟩ pc = true ∧ x.2.2.2 ≠ 0 ∧ Cond.classLink (mN M).cls x.2.2.2 (exN kq) ∈ GW ∧ Cond.castable (exN kq) (exN kq) ∈ EW ∧ x.2.2.1 = hp ∧ i < mL M ∧
  ((∃ i' : Fin 4, (i' : Nat) = i ∧ decode (mC M) hp = .ok (.astore_n i', 1) ∧ len = 1) ∨ (decode (mC M) hp = .ok (.astore i, 2) ∧ len = 2))
def VI (own : String) (idx : Nat) (M' : MI) (n ci : Nat) : Prop := KI M' n ∧ Cond.methodLink own idx (mN M') ∈ GW ∧ Cond.instanceMethod (mN M') ∈ GW ∧ Cond.selects (mN M').cls (mN M') (mN M') ∈ GW ∧ ∃ (T : u_T) (N : Nat), vwCl[ci]? = some ((mN M').cls, T, N)
def SI (own : String) (idx : Nat) (M' : MI) (n : Nat) : Prop := KI M' n ∧ Cond.methodLink own idx (mN M') ∈ GW ∧ Cond.static (mN M') ∈ GW
def II (own : String) (idx : Nat) (M' : MI) (n : Nat) : Prop := KI M' n ∧ Cond.methodLink own idx (mN M') ∈ GW ∧ Cond.instanceMethod (mN M') ∈ GW ∧ (mN M').name = "<init>"
def IN (own : String) (idx : Nat) (M' : MI) (n : Nat) (host : String) : Prop := KI M' n ∧ Cond.methodLinkNest own idx (mN M') host ∈ EW ∧ Cond.instanceMethod (mN M') ∈ GW ∧ (mN M').name = "<init>"
theorem recv {X : GX} {M : MI} {p : Program} {R : Room} {s : State} {m : MethodId} {args : Array Value} {meth : Method} {c : Code} (F : FOK X M p R s m args meth c) {ψ : Tg → Nat} {h : LH} {H : Heap} (hR : HR X ψ h H) {t : Tg} {ci : Nat} {fs : List LV} (hh : h t = some (cO ci fs)) {C : String} {T : u_T} {N : Nat} (hcl : vwCl[ci]? = some (C, T, N)) :
    ∃ cellB : Cell, H[ψ t]? = some cellB ∧ cellB.vm.isStatics = false ∧ s.vm.findClass C = some cellB.cls := by
  obtain ⟨r, h1, cell, q1, q2, q3, q4⟩ := HR_at hR hh
  have hr : r = (C, T, N) := Option.some.inj (h1.symm.trans hcl)
  subst hr
  exact ⟨cell, q1, by rw [q3]; rfl, by rw [q2]; exact (F.2.2.2.2.2.2.2.1.1.1 ci _ hcl).2.1⟩
theorem J_callV {t : Tg} {idx ci : Nat} {fs : List LV} (d : decode (mC M) pc = .ok (.invokevirtual idx, 3)) (f : VI (mN M).cls idx M' as.length ci) (hrm : rmOK M M') (hh : h t = some (cO ci fs)) (hst : st = as.reverse ++ vR (some t) :: rest) (hlen : rest.length ≤ 4) (hk : k' + (mR M').cells ≤ k) (hn' : n' + (mR M').slots ≤ n)
    (hc : CT X M' (vR (some t) :: as) h (rQ P)) (kk : ∀ v h', P v h' → J X M (pc + 3) ls (v.toList ++ rest) h' k' n' Q) : J X M pc ls st h k n Q := by
  simp only [J_def] at *
  intro p e R s m args below meth c ψ0 h0 F ψ H locs cells slots la hR hE hL hs hl hz hcc hnn
  subst hst
  obtain ⟨f1, f2, f3, f4, T, N, f5⟩ := f
  obtain ⟨hG, hws⟩ := KI_good f1
  have hts := F.2.2.2.2.2.2.1
  have hRR := F.2.2.2.2.2.2.2.2.1
  have cw : CallW R s args (mN M).cls (mN M').cls idx (mN M') (mC M') (mL M') (mT M') (wsO M') (mR M') (mR M').cells (mR M').slots as.length :=
    ⟨callB_of as.length hts hG hws rfl rfl (hts _ f1.2.2.1) (hts _ f2) ⟨f1.2.2.2.1.1, f1.2.2.2.1.2, f1.2.2.2.2⟩ (by rw [hRR]; exact hrm), hts _ f3, hts _ f4⟩
  have hrest : ∀ v ∈ rest, Lv h v := fun v hv => hs v (List.mem_append_right _ (List.mem_cons_of_mem _ hv))
  have hargs : ∀ v ∈ vR (some t) :: as, Lv h v := fun v hv => by
    rcases List.mem_cons.mp hv with rfl | hv
    · exact hs _ (List.mem_append_right _ List.mem_cons_self)
    · exact hs v (List.mem_append_left _ (List.mem_reverse.mpr hv))
  have hr := va_runV (cells := cells) (slots := slots) (locs := locs) (p := p) (l := xl X) (e := e) (below := below) (meth := meth) (b := ψ t) (As := as.map (ph ψ)) (rest := rest.map (ph ψ)) (g := F0 m pc la ((as.reverse ++ vR (some t) :: rest).map (ph ψ))) ⟨F.1, F.2.1, F.2.2.1, F.2.2.2.2.2.1, hts⟩ (CT.met hc ψ) cw
    ⟨Pc_blind (as := vR (some t) :: as), recv F hR hh f5, fun U hU hW => ⟨rfl, KK.warm hW F.2.2.2.2.2.2.2.1, by rw [hU]; exact hR, hargs⟩⟩ rfl (by rw [List.length_map]) hL.1 (by
      show (as.reverse ++ vR (some t) :: rest).map (ph ψ) = _
      rw [List.map_append, List.map_reverse, List.map_cons]; rfl) (by
      have := cat_sum ψ rest
      show 2 * 0 + _ ≤ 8
      omega) d (by rw [hRR]; omega)
  exact back_call hr F hE hL hrest hl hz (by omega) (by omega) kk
theorem J_callS {idx : Nat} (d : decode (mC M) pc = .ok (.invokestatic idx, 3)) (f : SI (mN M).cls idx M' as.length) (hrm : rmOK M M') (hst : st = as.reverse ++ rest) (hlen : rest.length ≤ 4) (hk : k' + (mR M').cells ≤ k) (hn' : n' + (mR M').slots ≤ n)
    (hc : CT X M' as h (rQ P)) (kk : ∀ v h', P v h' → J X M (pc + 3) ls (v.toList ++ rest) h' k' n' Q) : J X M pc ls st h k n Q := by
  simp only [J_def] at *
  intro p e R s m args below meth c ψ0 h0 F ψ H locs cells slots la hR hE hL hs hl hz hcc hnn
  subst hst
  obtain ⟨f1, f2, f3⟩ := f
  obtain ⟨hG, hws⟩ := KI_good f1
  have hts := F.2.2.2.2.2.2.1
  have hRR := F.2.2.2.2.2.2.2.2.1
  have cb : CallB R s args (mN M).cls idx (mN M') (mC M') (mL M') (mT M') (wsO M') (mR M') (mR M').cells (mR M').slots as.length :=
    callB_of as.length hts hG hws rfl rfl (hts _ f1.2.2.1) (hts _ f2) ⟨f1.2.2.2.1.1, f1.2.2.2.1.2, f1.2.2.2.2⟩ (by rw [hRR]; exact hrm)
  have hrest : ∀ v ∈ rest, Lv h v := fun v hv => hs v (List.mem_append_right _ hv)
  have hargs : ∀ v ∈ as, Lv h v := fun v hv => hs v (List.mem_append_left _ (List.mem_reverse.mpr hv))
  have hr := va_runS (cells := cells) (slots := slots) (locs := locs) (p := p) (l := xl X) (e := e) (below := below) (meth := meth) (As := as.map (ph ψ)) (rest := rest.map (ph ψ)) (g := F0 m pc la ((as.reverse ++ rest).map (ph ψ))) ⟨F.1, F.2.1, F.2.2.1, F.2.2.2.2.2.1, hts⟩ (CT.met hc ψ) ⟨cb, hts _ f3⟩
    ⟨Pc_blind, fun U hU hW => ⟨rfl, KK.warm hW F.2.2.2.2.2.2.2.1, by rw [hU]; exact hR, hargs⟩⟩ rfl (by rw [List.length_map]) hL.1 (by
      show (as.reverse ++ rest).map (ph ψ) = _
      rw [List.map_append, List.map_reverse]) (by
      have := cat_sum ψ rest
      show 2 * 0 + _ ≤ 8
      omega) d (by rw [hRR]; omega)
  exact back_call hr F hE hL hrest hl hz (by omega) (by omega) kk
theorem J_callI {t : Tg} {idx : Nat} (d : decode (mC M) pc = .ok (.invokespecial idx, 3)) (f : II (mN M).cls idx M' as.length) (hT : mT M' = none) (hrm : rmOK M M') (hst : st = as.reverse ++ vR (some t) :: rest) (hlen : rest.length ≤ 4) (hk : k' + (mR M').cells ≤ k) (hn' : n' + (mR M').slots ≤ n)
    (hc : CT X M' (vR (some t) :: as) h (rQ P)) (kk : ∀ v h', P v h' → J X M (pc + 3) ls (v.toList ++ rest) h' k' n' Q) : J X M pc ls st h k n Q := by
  simp only [J_def] at *
  intro p e R s m args below meth c ψ0 h0 F ψ H locs cells slots la hR hE hL hs hl hz hcc hnn
  subst hst
  obtain ⟨f1, f2, f3, f4⟩ := f
  obtain ⟨hG, hws⟩ := KI_good f1
  have hts := F.2.2.2.2.2.2.1
  have hRR := F.2.2.2.2.2.2.2.2.1
  rw [hT] at hws
  have cb : CallB R s args (mN M).cls idx (mN M') (mC M') (mL M') none (wsO M') (mR M') (mR M').cells (mR M').slots as.length :=
    callB_of as.length hts hG hws rfl rfl (hts _ f1.2.2.1) (hts _ f2) ⟨f1.2.2.2.1.1, f1.2.2.2.1.2, f1.2.2.2.2⟩ (by rw [hRR]; exact hrm)
  have hrest : ∀ v ∈ rest, Lv h v := fun v hv => hs v (List.mem_append_right _ (List.mem_cons_of_mem _ hv))
  have hargs : ∀ v ∈ vR (some t) :: as, Lv h v := fun v hv => by
    rcases List.mem_cons.mp hv with rfl | hv
    · exact hs _ (List.mem_append_right _ List.mem_cons_self)
    · exact hs v (List.mem_append_left _ (List.mem_reverse.mpr hv))
  have hr := va_runI (cells := cells) (slots := slots) (locs := locs) (p := p) (l := xl X) (e := e) (below := below) (meth := meth) (b := ψ t) (As := as.map (ph ψ)) (rest := rest.map (ph ψ)) (g := F0 m pc la ((as.reverse ++ vR (some t) :: rest).map (ph ψ))) ⟨F.1, F.2.1, F.2.2.1, F.2.2.2.2.2.1, hts⟩ (CT.met hc ψ) ⟨cb, f4, hts _ f3⟩
    ⟨Pc_blind (as := vR (some t) :: as), fun U hU hW => ⟨rfl, KK.warm hW F.2.2.2.2.2.2.2.1, by rw [hU]; exact hR, hargs⟩⟩ rfl (by rw [List.length_map]) hL.1 (by
      show (as.reverse ++ vR (some t) :: rest).map (ph ψ) = _
      rw [List.map_append, List.map_reverse, List.map_cons]; rfl) (by
      have := cat_sum ψ rest
      show 2 * 0 + _ ≤ 8
      omega) d (by rw [hRR]; omega)
  exact back_call hr F hE hL hrest hl hz (by omega) (by omega) kk
theorem J_callN {t : Tg} {idx : Nat} {host : String} (d : decode (mC M) pc = .ok (.invokespecial idx, 3)) (f : IN (mN M).cls idx M' as.length host) (hT : mT M' = none) (hrm : rmOK M M') (hst : st = as.reverse ++ vR (some t) :: rest) (hlen : rest.length ≤ 4) (hk : k' + (mR M').cells ≤ k) (hn' : n' + (mR M').slots ≤ n)
    (hc : CT X M' (vR (some t) :: as) h (rQ P)) (kk : ∀ v h', P v h' → J X M (pc + 3) ls (v.toList ++ rest) h' k' n' Q) : J X M pc ls st h k n Q := by
  simp only [J_def] at *
  intro p e R s m args below meth c ψ0 h0 F ψ H locs cells slots la hR hE hL hs hl hz hcc hnn
  subst hst
  obtain ⟨f1, f2, f3, f4⟩ := f
  obtain ⟨hG, hws⟩ := KI_good f1
  have hts := F.2.2.2.2.2.2.1
  have hRR := F.2.2.2.2.2.2.2.2.1
  rw [hT] at hws
  have cb : va_CN R s args (mN M).cls idx (mN M') host (mC M') (mL M') none (wsO M') (mR M') (mR M').cells (mR M').slots as.length :=
    va_cnB as.length hts hG hws rfl rfl (F.2.2.2.2.2.2.2.1.2.2.1 _ f2) (hts _ f1.2.2.1) ⟨f1.2.2.2.1.1, f1.2.2.2.1.2, f1.2.2.2.2⟩ (by rw [hRR]; exact hrm)
  have hrest : ∀ v ∈ rest, Lv h v := fun v hv => hs v (List.mem_append_right _ (List.mem_cons_of_mem _ hv))
  have hargs : ∀ v ∈ vR (some t) :: as, Lv h v := fun v hv => by
    rcases List.mem_cons.mp hv with rfl | hv
    · exact hs _ (List.mem_append_right _ List.mem_cons_self)
    · exact hs v (List.mem_append_left _ (List.mem_reverse.mpr hv))
  have hr := va_runIN (cells := cells) (slots := slots) (locs := locs) (p := p) (l := xl X) (e := e) (below := below) (meth := meth) (b := ψ t) (As := as.map (ph ψ)) (rest := rest.map (ph ψ)) (g := F0 m pc la ((as.reverse ++ vR (some t) :: rest).map (ph ψ))) ⟨F.1, F.2.1, F.2.2.1, F.2.2.2.2.2.1, hts⟩ (CT.met hc ψ) ⟨cb, f4, hts _ f3⟩
    ⟨Pc_blind (as := vR (some t) :: as), fun U hU hW => ⟨rfl, KK.warm hW F.2.2.2.2.2.2.2.1, by rw [hU]; exact hR, hargs⟩⟩ rfl (by rw [List.length_map]) hL.1 (by
      show (as.reverse ++ vR (some t) :: rest).map (ph ψ) = _
      rw [List.map_append, List.map_reverse, List.map_cons]; rfl) (by
      have := cat_sum ψ rest
      show 2 * 0 + _ ≤ 8
      omega) d (by rw [hRR]; omega)
  exact back_call hr F hE hL hrest hl hz (by omega) (by omega) kk
/-- behind a call that returns, or throws -/
theorem J_callW {idx : Nat} (d : decode (mC M) pc = .ok (.invokestatic idx, 3)) (f : WI (mN M).cls idx M' as.length) (hrm : rmOK M M') (hst : st = as.reverse ++ rest) (hlen : rest.length ≤ 4) (hk : k' + (mR M').cells ≤ k) (hn' : n' + (mR M').slots ≤ n)
    (hc : CT X M' as h (rQ P)) (kk : ∀ v h', P v h' → J X M (pc + 3) ls (v.toList ++ rest) h' k' n' Q) : J X M pc ls st h k n Q := by
  simp only [J_def] at *
  intro p e R s m args below meth c ψ0 h0 F ψ H locs cells slots la hR hE hL hs hl hz hcc hnn
  subst hst
  obtain ⟨f0, f1, f2, f3, f4, f5, f6⟩ := f
  have hts := F.2.2.2.2.2.2.1
  have hRR := F.2.2.2.2.2.2.2.2.1
  have hws : wsO M' = Cond.codeWith (mN M') (mC M') (mL M') (mT M') (mH M') :: GW := by
    unfold wsO
    cases hm : mH M' with
    | nil => exact absurd hm f0
    | cons x xs => rfl
  have hGG : GoodIn GW (va_wsS (mN M).cls idx (mN M') (wsO M')) := by
    intro w hw
    rcases List.mem_append.mp hw with hw | hw
    · rcases List.mem_cons.mp hw with rfl | hw
      · exact ⟨f4, GW_good f4⟩
      · rcases List.mem_cons.mp hw with rfl | hw
        · exact ⟨f5, GW_good f5⟩
        · rcases List.mem_cons.mp hw with rfl | hw
          · exact ⟨f2, GW_good f2⟩
          · cases hw
    · rw [hws] at hw
      rcases List.mem_cons.mp hw with rfl | hw
      · exact ⟨f1, GW_good f1⟩
      · exact ⟨hw, GW_good hw⟩
  have cw : vx_CSW R s args (mN M).cls idx (mN M') (mC M') (mL M') (mT M') (mH M') (wsO M') (mR M') (mR M').cells (mR M').slots as.length :=
    vx_cwSW as.length hts hGG hws rfl rfl ⟨f3.1, f3.2, f6⟩ (by rw [hRR]; exact hrm)
  have hrest : ∀ v ∈ rest, Lv h v := fun v hv => hs v (List.mem_append_right _ hv)
  have hargs : ∀ v ∈ as, Lv h v := fun v hv => hs v (List.mem_append_left _ (List.mem_reverse.mpr hv))
  have hr := vx_runSW (cells := cells) (slots := slots) (locs := locs) (p := p) (l := xl X) (e := e) (below := below) (meth := meth) (As := as.map (ph ψ)) (rest := rest.map (ph ψ)) (g := F0 m pc la ((as.reverse ++ rest).map (ph ψ))) ⟨F.1, F.2.1, F.2.2.1, F.2.2.2.2.2.1, hts⟩ (CT.met hc ψ) cw
    ⟨Pc_blind, fun U hU hW => ⟨rfl, KK.warm hW F.2.2.2.2.2.2.2.1, by rw [hU]; exact hR, hargs⟩⟩ rfl (by rw [List.length_map]) hL.1 (by
      show (as.reverse ++ rest).map (ph ψ) = _
      rw [List.map_append, List.map_reverse]) (by
      have := cat_sum ψ rest
      show 2 * 0 + _ ≤ 8
      omega) d (by rw [hRR]; omega)
  exact back_call hr F hE hL hrest hl hz (by omega) (by omega) kk
/-- a call of a method that may throw, in a frame that catches what it throws -/
theorem J_callX {t : Tg} {idx ci : Nat} {fs : List LV} {Qc : LO → LH → Prop} (d : decode (mC M) pc = .ok (.invokevirtual idx, 3)) (f : VI (mN M).cls idx M' as.length ci) (hrm : rmOK M M') (hh : h t = some (cO ci fs)) (hst : st = as.reverse ++ vR (some t) :: rest) (hlen : rest.length ≤ 4) (hk : k' + (mR M').cells ≤ k) (hn' : n' + (mR M').slots ≤ n)
    (hc : CT X M' (vR (some t) :: as) h Qc) (kx : ∀ kq h', Qc (.inr kq) h' → ∃ hp i len, HI M pc kq hp i len ∧ nlg ls i = true ∧ J X M (hp + len) (ls.set i none) [] h' k' n' Q) (kk : ∀ v h', Qc (.inl v) h' → J X M (pc + 3) ls (v.toList ++ rest) h' k' n' Q) : J X M pc ls st h k n Q := by
  simp only [J_def] at *
  intro p e R s m args below meth c ψ0 h0 F ψ H locs cells slots la hR hE hL hs hl hz hcc hnn
  subst hst
  obtain ⟨f1, f2, f3, f4, T, N, f5⟩ := f
  obtain ⟨hG, hws⟩ := KI_good f1
  have hts := F.2.2.2.2.2.2.1
  have hRR := F.2.2.2.2.2.2.2.2.1
  have cw : CallW R s args (mN M).cls (mN M').cls idx (mN M') (mC M') (mL M') (mT M') (wsO M') (mR M') (mR M').cells (mR M').slots as.length :=
    ⟨callB_of as.length hts hG hws rfl rfl (hts _ f1.2.2.1) (hts _ f2) ⟨f1.2.2.2.1.1, f1.2.2.2.1.2, f1.2.2.2.2⟩ (by rw [hRR]; exact hrm), hts _ f3, hts _ f4⟩
  have hrest : ∀ v ∈ rest, Lv h v := fun v hv => hs v (List.mem_append_right _ (List.mem_cons_of_mem _ hv))
  have hargs : ∀ v ∈ vR (some t) :: as, Lv h v := fun v hv => by
    rcases List.mem_cons.mp hv with rfl | hv
    · exact hs _ (List.mem_append_right _ List.mem_cons_self)
    · exact hs v (List.mem_append_left _ (List.mem_reverse.mpr hv))
  have hr := vx_runV (cells := cells) (slots := slots) (locs := locs) (p := p) (l := xl X) (e := e) (below := below) (meth := meth) (b := ψ t) (As := as.map (ph ψ)) (rest := rest.map (ph ψ)) (g := F0 m pc la ((as.reverse ++ vR (some t) :: rest).map (ph ψ))) ⟨F.1, F.2.1, F.2.2.1, F.2.2.2.2.2.1, hts⟩ (hc ψ) cw
    ⟨Pc_blind (as := vR (some t) :: as), recv F hR hh f5, fun U hU hW => ⟨rfl, KK.warm hW F.2.2.2.2.2.2.2.1, by rw [hU]; exact hR, hargs⟩⟩ rfl (by rw [List.length_map]) hL.1 (by
      show (as.reverse ++ vR (some t) :: rest).map (ph ψ) = _
      rw [List.map_append, List.map_reverse, List.map_cons]; rfl) (by
      have := cat_sum ψ rest
      show 2 * 0 + _ ≤ 8
      omega) d (by rw [hRR]; omega)
  intro T hT Y
  rcases hr T hT Y with ⟨v, st₀, t1, T', L, g0, Y', hLo, e1, e2, ⟨v', h', ψ', hv, hP, hR', hE', hlv⟩, st⟩ | ⟨q, st₀, t1, T', L, E, ce, g0, Y', hLo, e1, e2, ⟨kq, h', ψ', hE1, hP, hR', hE'⟩, hce, hcv, hcl, st⟩
  · cases hv
    have hgo := kk v' h' hP p e R s m args below meth c ψ0 h0 F ψ' T'.heap (locs ++ L) (cells + (mR M').cells) (slots + (mR M').slots) la (by rw [e1]; exact hR') (ext_tr hE hE') (LRel_ext hE' hl hL)
      (fun w hw => by
        rcases List.mem_append.mp hw with q | q
        · exact hlv w (by simpa using q)
        · exact ext_lv hE' (hrest w q)) (fun w hw => ext_lv hE' (hl w hw)) (fun z q => by
        rcases List.mem_append.mp q with q | q
        · exact hz z q
        · exact hLo z q) (by omega) (by omega)
    obtain ⟨t2, a1, b1⟩ := hgo T' rfl Y'
    refine ⟨t2, st t2 ?_, b1⟩
    have e3 : (v'.toList ++ rest).map (ph ψ') = (v'.map (ph ψ')).toList ++ rest.map (ph ψ) := by
      rw [List.map_append, ext_map hE' hrest]
      cases v' <;> rfl
    rw [e3] at a1
    exact a1
  · subst hE1
    obtain ⟨hp, i, len, ⟨pre, x, suf, hsp, hpass, hcov, hne, hlk, hcast, hhp, hil, hdec⟩, hng, hJ⟩ := kx kq h' hP
    have hgo : ∀ la', LRel ψ' (ls.set i none) la' (mL M) → W p (xl X) e R s m args below meth c T'.heap (locs ++ L) (cells + (mR M').cells) (slots + (mR M').slots) (vx_MQ below (QR X ψ0 h0 Q) (QX X ψ0 h0 Q) args s (mR M).cells (mR M).slots (xA X)) (F0 m (hp + len) la' []) := fun la' hL' =>
      hJ p e R s m args below meth c ψ0 h0 F ψ' T'.heap (locs ++ L) (cells + (mR M').cells) (slots + (mR M').slots) la' (by rw [e1]; exact hR') (ext_tr hE hE') hL' (fun w hw => nomatch hw) (fun w hw => by
        rcases List.mem_or_eq_of_mem_set hw with h1 | h1
        · exact ext_lv hE' (hl w h1)
        · cases h1) (fun z q => by
        rcases List.mem_append.mp q with q | q
        · exact hz z q
        · exact hLo z q) (by omega) (by omega)
    have hL2 : LRel ψ' ls la (mL M) := LRel_ext hE' hl hL
    have hstore : ∀ la', lv_has la' (mL M) ((i, Value.ref q) :: (toL ψ' ls).filter (fun z => !(z.1 == i) && !(z.1 + 1 == i && z.2.category == 2))) → LRel ψ' (ls.set i none) la' (mL M) := by
      intro la' hh2
      refine ⟨hh2.1, hh2.2.1, fun j w hw => ?_⟩
      by_cases hj : j = i
      · subst hj
        have hlt : j < ls.length := by
          have := (List.getElem?_eq_some_iff.mp hw).1
          simpa using this
        rw [List.getElem?_set_self hlt] at hw
        cases hw
      · rw [List.getElem?_set_ne (Ne.symm hj)] at hw
        refine hh2.2.2 (j, ph ψ' w) (List.mem_cons_of_mem _ (List.mem_filter.mpr ⟨toL_in hw, ?_⟩))
        by_cases e : j + 1 = i
        · have hc := nlg_cat (ψ := ψ') hng e hw
          simp [hj, hc]
        · simp [hj, e]
    have hKK := F.2.2.2.2.2.2.2.1
    have hcat := va_Nw.use (A := args) (mv_tabs (List.mem_filter.mp hcast).2) (hKK.2.2.1 _ hcast)
    have hW : W p (xl X) e R s m args below meth c T'.heap (locs ++ L) (cells + (mR M').cells) (slots + (mR M').slots) (vx_MQ below (QR X ψ0 h0 Q) (QX X ψ0 h0 Q) args s (mR M).cells (mR M).slots (xA X)) (F0 m hp la [Value.ref q]) := by
      rcases hdec with ⟨i', hi', hdd, rfl⟩ | ⟨hdd, rfl⟩
      · exact lv_astore_n F.1 F.2.1 hdd hi' (LRel_has hL2) hil rfl (fun la' hh2 => hgo la' (hstore la' hh2))
      · exact lv_astore F.1 F.2.1 hdd (LRel_has hL2) hil rfl (fun la' hh2 => hgo la' (hstore la' hh2))
    have hce' : T'.heap[q]? = some ce := by rw [e1]; exact hce
    have hfin := vx_catch (pc := pc) (rest := rest.map (ph ψ)) (ls := la) F.2.2.2.2.2.1 (tableOf pre) ⟨x.1, x.2.1, x.2.2.1, x.2.2.2⟩ (tableOf suf) (by rw [F.2.2.2.2.2.2.2.2.2.1, hsp]; simp [tableOf])
      (fun z hz => by
        obtain ⟨z0, hz0, rfl⟩ := List.mem_map.mp hz
        rcases hpass z0 hz0 with h1 | ⟨h1, nm, h2, h3⟩
        · exact Or.inl h1
        · exact Or.inr ⟨h1, nm, hts _ h2, hKK.2.2.2.2.1 _ h3⟩) hcov hne (hts _ hlk) hcat hce' hcv hcl (by rw [show (ExceptionTableEntry.mk x.1 x.2.1 x.2.2.1 x.2.2.2).handlerPc = hp from hhp]; exact hW)
    obtain ⟨t2, a1, b1⟩ := hfin T' rfl Y'
    exact ⟨t2, st.trans a1, b1⟩
theorem HR_grow {X : GX} {ψ : Tg → Nat} {h : LH} {H H1 : Heap} (hR : HR X ψ h H) (hz : H.size ≤ H1.size) (ho : ∀ q, q < H.size → H1[q]? = H[q]?) : HR X ψ h H1 := by
  obtain ⟨g1, g2, g3, g4, g5, g6, g7⟩ := id hR
  exact ⟨fun t c hh => ⟨(g1 t c hh).1.kept (ho _ (HR_lt hR hh)), (g1 t c hh).2⟩, g2, g3, g4, g5, by omega, fun q hq => by rw [ho q (by omega)]; exact g7 q hq⟩
/-- 'throw new E("text")' -/
def exS : List String := ["java/lang/RuntimeException", "java/lang/Exception"]
def TI (ik is ic kq : Nat) : Prop := (∃ text, (is, text) ∈ strL) ∧ Cond.classLink RX7 ik (exN kq) ∈ GW ∧ Cond.initialized (exN kq) ∈ GW ∧ Bundle.fit (exN kq) = true ∧ (vx_atS RX7 ic (exN kq) exS).all (fun w => goodWord w || mvWord w) = true ∧ ∀ w ∈ vx_atS RX7 ic (exN kq) exS, w ∈ lw_tbl
theorem J_throwA {ik is ic kq : Nat} (hlk : (mN M).cls = RX7) (hH : mH M = []) (f : TI ik is ic kq) (hfr : 5 < (mR M).frames) (hlo : 2 * st.length + 82 ≤ (mR M).locals) (hk : 1 ≤ k) (hn : 6 ≤ n) (hq : Q (.inr kq) h)
    (dd : (decode (mC M) pc = .ok (.new ik, 3) ∧ decode (mC M) (pc + 3) = .ok (.dup, 1) ∧ decode (mC M) (pc + 4) = .ok (.ldc is, 2) ∧ decode (mC M) (pc + 6) = .ok (.invokespecial ic, 3) ∧ decode (mC M) (pc + 9) = .ok (.athrow, 1)) ∨
      (decode (mC M) pc = .ok (.new ik, 3) ∧ decode (mC M) (pc + 3) = .ok (.dup, 1) ∧ decode (mC M) (pc + 4) = .ok (.ldc_w is, 3) ∧ decode (mC M) (pc + 7) = .ok (.invokespecial ic, 3) ∧ decode (mC M) (pc + 10) = .ok (.athrow, 1))) : J X M pc ls st h k n Q := by
  simp only [J_def] at *
  intro p e R s m args below meth c ψ0 h0 F ψ H locs cells slots la hR hE hL hs hl hz hcc hnn
  obtain ⟨⟨text, f1⟩, f2, f3, f4, f5, f6⟩ := f
  have hts := F.2.2.2.2.2.2.1
  have hRR := F.2.2.2.2.2.2.2.2.1
  have hKK := F.2.2.2.2.2.2.2.1
  obtain ⟨sa, hsa⟩ := hKK.2.1 _ f1
  have hb := F.2.2.2.2.2.2.2.2.2.2.2
  have hkp : ∀ a : Nat, a < (xB X).size → ¬ xA X a → s.heap[a]? = (xB X)[a]? := fun a ha _ => hb.2 a ha
  have htab : ∀ x ∈ c.exceptionTable.toList, False := by
    intro x hx
    rw [F.2.2.2.2.2.2.2.2.2.1, hH] at hx
    cases hx
  have hw5 : ∀ w ∈ vx_atS RX7 ic (exN kq) exS, w.before args s = true := by
    intro w hw
    have h1 := List.all_eq_true.mp f5 w hw
    rw [Bool.or_eq_true] at h1
    rcases h1 with h1 | h1
    · exact hts _ (List.mem_filter.mpr ⟨f6 w hw, h1⟩)
    · exact va_Nw.use (mv_tabs h1) (hKK.2.2.1 _ (List.mem_filter.mpr ⟨f6 w hw, h1⟩))
  have hgood : ∀ w ∈ Cond.classLink RX7 ik (exN kq) :: Cond.initialized (exN kq) :: vx_atS RX7 ic (exN kq) exS, vx_ot w = true := by
    intro w hw
    rcases List.mem_cons.mp hw with rfl | hw
    · rfl
    · rcases List.mem_cons.mp hw with rfl | hw
      · rfl
      · have h1 := List.all_eq_true.mp f5 w hw
        rw [Bool.or_eq_true] at h1
        unfold vx_ot
        rcases h1 with h1 | h1
        · rw [h1, Bool.or_true]
        · rw [mv_tabs h1, Bool.true_or]
  have hown : s.vm.findClass RX7 = some m.cls := hlk ▸ F.2.2.2.2.2.1
  have hsum := cat_sum ψ st
  intro T hT Y
  have hsz : s.heap.size ≤ H.size := by
    have := (vx_frame (s := s) (U := T) Y.same).1
    rw [hT] at this
    exact this
  have hS : va_S (xA X) s.heap H locs := ⟨hsz, fun q h1 h2 => by
    have hq : q < (xB X).size := Nat.not_le.mp h2
    rw [hR.2.2.2.2.2.2 q hq, hb.2 q hq], hz⟩
  have hx : ∀ t : State, s.vm.Alike t.vm → H.size ≤ t.heap.size → (∀ q : Nat, q < H.size → t.heap[q]? = H[q]?) → QX X ψ0 h0 Q (exN kq) s t := fun t _ h1 h2 => ⟨kq, h, ψ, rfl, hq, HR_grow hR h1 h2, hE⟩
  rcases dd with ⟨d0, d3, d4, d6, d9⟩ | ⟨d0, d3, d4, d6, d9⟩
  · exact vx_throwS (names := exS) F.1 F.2.1 hKK.2.2.2.2.2.2.2.2 hown f4 (by decide +kernel) (hts _ f2) (hts _ f3) hsa hw5 hgood (hKK.2.2.2.2.2.1.kept hkp) (hKK.2.2.2.2.2.2.1.kept hkp) hS (by rw [hL.1, F.2.2.1]) d0 d3 d4 d6 d9 (fun x hx => (htab x hx).elim)
      (by rw [hRR]; exact hfr) (by rw [hRR]; show _ + (13 * (2 + 1) + 43) ≤ _; omega) (by rw [hRR]; omega) (by rw [hRR]; omega) F.2.2.2.2.1 hx hz (by omega) (by omega) T hT Y
  · exact vx_throwSW (names := exS) F.1 F.2.1 hKK.2.2.2.2.2.2.2.2 hown f4 (by decide +kernel) (hts _ f2) (hts _ f3) hsa hw5 hgood (hKK.2.2.2.2.2.1.kept hkp) (hKK.2.2.2.2.2.2.1.kept hkp) hS (by rw [hL.1, F.2.2.1]) d0 d3 d4 d6 d9 (fun x hx => (htab x hx).elim)
      (by rw [hRR]; exact hfr) (by rw [hRR]; show _ + (13 * (2 + 1) + 43) ≤ _; omega) (by rw [hRR]; omega) (by rw [hRR]; omega) F.2.2.2.2.1 hx hz (by omega) (by omega) T hT Y
end JC
