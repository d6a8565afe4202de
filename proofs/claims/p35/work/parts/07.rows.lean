/-! ROWS OF NUMBERS AND REFERENCES, NEW CELLS, THE SCRIPT, THE METHOD'S END -/
def ix (i : Int32) (n j : Nat) : Prop := vp_in i n ∧ i.toNatClampNeg = j
theorem ix_nI {j n : Nat} (h : j < n) (hn : n < 2 ^ 31) : ix (nI j) n j := ⟨vp_in_nI h hn, nI_clamp (by omega)⟩
theorem ix_lt {i : Int32} {n j : Nat} (h : ix i n j) : j < n := by
  have := h.1
  unfold vp_in at this
  rw [← h.2]; omega
def xzb (x : Int32) : Prop := x = 0 ∨ x = 1
theorem xzb_nar {x : Int32} (h : xzb x) : narrow .boolean (.int x) = .int x := by rcases h with rfl | rfl <;> rfl
theorem xzb_fit {x : Int32} (h : xzb x) : fits .boolean (.int x) = true := by rcases h with rfl | rfl <;> rfl
def freshL (fs : List LV) : Bool := fs.all (fun v => match v with
  | .inr (.inr (some _)) => false
  | _ => true)
theorem freshL_lv {fs : List LV} (hf : freshL fs = true) (g : LH) : ∀ v ∈ fs, Lv g v := by
  intro v hv
  have h1 := List.all_eq_true.mp hf v hv
  match v, h1 with
  | .inl _, _ => trivial
  | .inr (.inl _), _ => trivial
  | .inr (.inr none), _ => trivial
def NI (own : String) (idx ci : Nat) (fs : List LV) (N : Nat) : Prop := ∃ (C : String) (T : u_T) (ty : Nat → FieldType),
  ClsOK ci C T N ty ∧ Cond.classLink own idx C ∈ GW ∧ Cond.instantiable C N ∈ GW ∧ Cond.initialized C ∈ GW ∧ (∀ ψ j, j < N → defaultValue (ty j) = vp_V (fs.map (ph ψ)) j) ∧ freshL fs = true
section JA
variable {X : GX} {M : MI} {pc : Nat} {ls : List (Option LV)} {st : List LV} {h : LH} {k n : Nat} {Q : LO → LH → Prop}
theorem J_putI {t : Tg} {ci kf idx : Nat} {fs : List LV} {x : Int32} (d : decode (mC M) pc = .ok (.putfield idx, 3)) (f : FI (mN M).cls idx ci kf .int false) (hh : h t = some (cO ci fs)) (hlen : kf < fs.length)
    (kk : J X M (pc + 3) ls st (hup h t (cO ci (fs.set kf (vI x)))) k n Q) : J X M pc ls (vI x :: vR (some t) :: st) h k n Q := J_put d f hh hlen (fun _ => rfl) (fun _ => rfl) kk
theorem J_putZ {t : Tg} {ci kf idx : Nat} {fs : List LV} {x : Int32} (d : decode (mC M) pc = .ok (.putfield idx, 3)) (f : FI (mN M).cls idx ci kf .boolean false) (hx : xzb x) (hh : h t = some (cO ci fs)) (hlen : kf < fs.length)
    (kk : J X M (pc + 3) ls st (hup h t (cO ci (fs.set kf (vI x)))) k n Q) : J X M pc ls (vI x :: vR (some t) :: st) h k n Q := J_put d f hh hlen (fun _ => xzb_nar hx) (fun _ => xzb_fit hx) kk
def rfT (ty : FieldType) : Bool := match ty with
  | .object _ => true
  | .array _ => true
  | _ => false
theorem rfT_nar {ty : FieldType} (h : rfT ty = true) (r : Option Tg) (ψ : Tg → Nat) : narrow ty (ph ψ (vR r)) = ph ψ (vR r) ∧ fits ty (ph ψ (vR r)) = true := by
  cases ty <;> first
    | (simp [rfT] at h; done)
    | (cases r <;> exact ⟨rfl, rfl⟩)
theorem J_putR {t : Tg} {ci kf idx : Nat} {fs : List LV} {ty : FieldType} {r : Option Tg} (d : decode (mC M) pc = .ok (.putfield idx, 3)) (f : FI (mN M).cls idx ci kf ty false) (hty : rfT ty = true) (hh : h t = some (cO ci fs)) (hlen : kf < fs.length)
    (kk : J X M (pc + 3) ls st (hup h t (cO ci (fs.set kf (vR r)))) k n Q) : J X M pc ls (vR r :: vR (some t) :: st) h k n Q := J_put d f hh hlen (fun ψ => (rfT_nar hty r ψ).1) (fun ψ => (rfT_nar hty r ψ).2) kk
theorem J_putFI {t : Tg} {ci kf idx : Nat} {fs : List LV} {x : Int32} (d : decode (mC M) pc = .ok (.putfield idx, 3)) (f : FI (mN M).cls idx ci kf .int true) (hcl : vwCl[ci]?.map (fun r => r.1) = some (mN M).cls) (hini : (mN M).name = "<init>") (hh : h t = some (cO ci fs)) (hlen : kf < fs.length)
    (kk : J X M (pc + 3) ls st (hup h t (cO ci (fs.set kf (vI x)))) k n Q) : J X M pc ls (vI x :: vR (some t) :: st) h k n Q := J_putF d f hcl hini hh hlen (fun _ => rfl) (fun _ => rfl) kk
theorem J_putFZ {t : Tg} {ci kf idx : Nat} {fs : List LV} {x : Int32} (d : decode (mC M) pc = .ok (.putfield idx, 3)) (f : FI (mN M).cls idx ci kf .boolean true) (hcl : vwCl[ci]?.map (fun r => r.1) = some (mN M).cls) (hini : (mN M).name = "<init>") (hx : xzb x) (hh : h t = some (cO ci fs)) (hlen : kf < fs.length)
    (kk : J X M (pc + 3) ls st (hup h t (cO ci (fs.set kf (vI x)))) k n Q) : J X M pc ls (vI x :: vR (some t) :: st) h k n Q := J_putF d f hcl hini hh hlen (fun _ => xzb_nar hx) (fun _ => xzb_fit hx) kk
theorem J_putFR {t : Tg} {ci kf idx : Nat} {fs : List LV} {ty : FieldType} {r : Option Tg} (d : decode (mC M) pc = .ok (.putfield idx, 3)) (f : FI (mN M).cls idx ci kf ty true) (hcl : vwCl[ci]?.map (fun r => r.1) = some (mN M).cls) (hini : (mN M).name = "<init>") (hty : rfT ty = true) (hh : h t = some (cO ci fs)) (hlen : kf < fs.length)
    (kk : J X M (pc + 3) ls st (hup h t (cO ci (fs.set kf (vR r)))) k n Q) : J X M pc ls (vR r :: vR (some t) :: st) h k n Q := J_putF d f hcl hini hh hlen (fun ψ => (rfT_nar hty r ψ).1) (fun ψ => (rfT_nar hty r ψ).2) kk
theorem J_iald {t : Tg} {N j : Nat} {f : Nat → Int32} {i : Int32} (d : decode (mC M) pc = .ok (.iaload, 1)) (hh : h t = some (cI 0 N f)) (hi : ix i N j) (kk : J X M (pc + 1) ls (vI (f j) :: st) h k n Q) : J X M pc ls (vI i :: vR (some t) :: st) h k n Q := by
  simp only [J_def] at *
  intro p e R s m args below meth c ψ0 h0 F ψ H locs cells slots la hR hE hL hs hl hz hc hn
  have hat : H[ψ t]? = some (arrV (xtc X 0) N (fun j => Value.int (f j))) := HR_at hR hh
  have hA := (F.2.2.2.2.2.2.2.1.1.2 0 _ (tysL_at (xtc X) (by decide))).1
  obtain ⟨hin, hj⟩ := hi
  have hlt : i.toNatClampNeg < N := Nat.not_le.mp fun q => hin (Or.inr q)
  refine W.iald (v := .int (f j)) F.1 F.2.1 hat (hA N (fun j => .int (f j))) (fun q => by cases q) (by show ¬ (i < 0 ∨ (arrV _ _ _).slots.size ≤ _); rw [arrV_size]; exact hin) (by show (arrV _ _ _).slots[_]? = _; rw [arrV_read _ _ hlt, hj]) rfl rfl d ?_
  exact kk p e R s m args below meth c ψ0 h0 F ψ H locs cells slots la hR hE hL (lv_cons trivial (fun v hv => hs v (List.mem_cons_of_mem _ (List.mem_cons_of_mem _ hv)))) hl hz hc hn
theorem J_lald {t : Tg} {N j : Nat} {f : Nat → Int64} {i : Int32} (d : decode (mC M) pc = .ok (.laload, 1)) (hh : h t = some (cL 2 N f)) (hi : ix i N j) (kk : J X M (pc + 1) ls (vL (f j) :: st) h k n Q) : J X M pc ls (vI i :: vR (some t) :: st) h k n Q := by
  simp only [J_def] at *
  intro p e R s m args below meth c ψ0 h0 F ψ H locs cells slots la hR hE hL hs hl hz hc hn
  have hat : H[ψ t]? = some (arrV (xtc X 2) N (fun j => Value.long (f j))) := HR_at hR hh
  have hA := (F.2.2.2.2.2.2.2.1.1.2 2 _ (tysL_at (xtc X) (by decide))).1
  obtain ⟨hin, hj⟩ := hi
  have hlt : i.toNatClampNeg < N := Nat.not_le.mp fun q => hin (Or.inr q)
  refine W.lald (v := .long (f j)) F.1 F.2.1 hat (hA N (fun j => .long (f j))) (fun q => by cases q) (by show ¬ (i < 0 ∨ (arrV _ _ _).slots.size ≤ _); rw [arrV_size]; exact hin) (by show (arrV _ _ _).slots[_]? = _; rw [arrV_read _ _ hlt, hj]) rfl rfl d ?_
  exact kk p e R s m args below meth c ψ0 h0 F ψ H locs cells slots la hR hE hL (lv_cons trivial (fun v hv => hs v (List.mem_cons_of_mem _ (List.mem_cons_of_mem _ hv)))) hl hz hc hn
theorem J_aald {t : Tg} {K N j : Nat} {f : Nat → Option Tg} {i : Int32} (d : decode (mC M) pc = .ok (.aaload, 1)) (hk : K < 7) (hk3 : (aTy K).isReference = true) (hh : h t = some (cQ K N f)) (hi : ix i N j) (kk : J X M (pc + 1) ls (vR (f j) :: st) h k n Q) : J X M pc ls (vI i :: vR (some t) :: st) h k n Q := by
  simp only [J_def] at *
  intro p e R s m args below meth c ψ0 h0 F ψ H locs cells slots la hR hE hL hs hl hz hc hn
  have hat : H[ψ t]? = some (arrV (xtc X K) N (fun j => phR ψ (f j))) := HR_at hR hh
  have hA := (F.2.2.2.2.2.2.2.1.1.2 K _ (tysL_at (xtc X) hk)).1
  obtain ⟨hin, hj⟩ := hi
  have hlt : i.toNatClampNeg < N := Nat.not_le.mp fun q => hin (Or.inr q)
  have hlv : Lv h (vR (f j)) := by
    cases hf : f j with
    | none => trivial
    | some u => exact (hR.1 t _ hh).2.2 j u hf
  refine W.aald (v := phR ψ (f j)) F.1 F.2.1 hat (hA N (fun j => phR ψ (f j))) hk3 (fun q => by cases q) (by show ¬ (i < 0 ∨ (arrV _ _ _).slots.size ≤ _); rw [arrV_size]; exact hin) (by show (arrV _ _ _).slots[_]? = _; rw [arrV_read _ _ hlt, hj]) rfl rfl d ?_
  exact kk p e R s m args below meth c ψ0 h0 F ψ H locs cells slots la hR hE hL (lv_cons hlv (fun v hv => hs v (List.mem_cons_of_mem _ (List.mem_cons_of_mem _ hv)))) hl hz hc hn
theorem J_iast {t : Tg} {N j : Nat} {f : Nat → Int32} {i : Int32} {x : Int32} (d : decode (mC M) pc = .ok (.iastore, 1)) (hh : h t = some (cI 0 N f)) (hi : ix i N j) (kk : J X M (pc + 1) ls st (hup h t (cI 0 N (upd f j x))) k n Q) : J X M pc ls (vI x :: vI i :: vR (some t) :: st) h k n Q := by
  simp only [J_def] at *
  intro p e R s m args below meth c ψ0 h0 F ψ H locs cells slots la hR hE hL hs hl hz hc hn
  have hat : H[ψ t]? = some (arrV (xtc X 0) N (fun j => Value.int (f j))) := HR_at hR hh
  have hA := (F.2.2.2.2.2.2.2.1.1.2 0 _ (tysL_at (xtc X) (by decide))).1
  obtain ⟨hin, hj⟩ := hi
  refine W.iast F.1 F.2.1 hat (hA N (fun j => .int (f j))) (fun q => by cases q) (by show ¬ (i < 0 ∨ (arrV _ _ _).slots.size ≤ _); rw [arrV_size]; exact hin) rfl rfl d fun H1 e1 e2 e3 => ?_
  have hnew : H1[ψ t]? = some (arrV (xtc X 0) N (fun q => Value.int (upd f j x q))) := by
    rw [e1, arrV_store, hj]
    congr 2
    funext q
    by_cases hq : q = j
    · subst hq; simp [updV, upd]
    · simp [updV, upd, hq]
  have hR2 := HR_up hR hh e2 e3 (c := cI 0 N (upd f j x)) hnew trivial
  exact kk p e R s m args below meth c ψ0 h0 F ψ H1 _ cells slots la hR2 (fun u hu => ⟨(hE u hu).1, Lt_up (hE u hu).2⟩) hL (fun w hw => Lv_mono (fun u => Lt_up) (hs w (List.mem_cons_of_mem _ (List.mem_cons_of_mem _ (List.mem_cons_of_mem _ hw))))) (fun w hw => Lv_mono (fun u => Lt_up) (hl w hw)) (xA_loc (hR.1 t _ hh).2.1 hz) hc hn
theorem J_last {t : Tg} {N j : Nat} {f : Nat → Int64} {i : Int32} {x : Int64} (d : decode (mC M) pc = .ok (.lastore, 1)) (hh : h t = some (cL 2 N f)) (hi : ix i N j) (kk : J X M (pc + 1) ls st (hup h t (cL 2 N (vp_updL f j x))) k n Q) : J X M pc ls (vL x :: vI i :: vR (some t) :: st) h k n Q := by
  simp only [J_def] at *
  intro p e R s m args below meth c ψ0 h0 F ψ H locs cells slots la hR hE hL hs hl hz hc hn
  have hat : H[ψ t]? = some (arrV (xtc X 2) N (fun j => Value.long (f j))) := HR_at hR hh
  have hA := (F.2.2.2.2.2.2.2.1.1.2 2 _ (tysL_at (xtc X) (by decide))).1
  obtain ⟨hin, hj⟩ := hi
  refine W.last F.1 F.2.1 hat (hA N (fun j => .long (f j))) (fun q => by cases q) (by show ¬ (i < 0 ∨ (arrV _ _ _).slots.size ≤ _); rw [arrV_size]; exact hin) rfl rfl d fun H1 e1 e2 e3 => ?_
  have hnew : H1[ψ t]? = some (arrV (xtc X 2) N (fun q => Value.long (vp_updL f j x q))) := by
    rw [e1, arrV_store, hj]
    congr 2
    funext q
    by_cases hq : q = j
    · subst hq; simp [updV, vp_updL]
    · simp [updV, vp_updL, hq]
  have hR2 := HR_up hR hh e2 e3 (c := cL 2 N (vp_updL f j x)) hnew trivial
  exact kk p e R s m args below meth c ψ0 h0 F ψ H1 _ cells slots la hR2 (fun u hu => ⟨(hE u hu).1, Lt_up (hE u hu).2⟩) hL (fun w hw => Lv_mono (fun u => Lt_up) (hs w (List.mem_cons_of_mem _ (List.mem_cons_of_mem _ (List.mem_cons_of_mem _ hw))))) (fun w hw => Lv_mono (fun u => Lt_up) (hl w hw)) (xA_loc (hR.1 t _ hh).2.1 hz) hc hn
theorem J_aast {t u : Tg} {K N j ci N' : Nat} {f : Nat → Option Tg} {i : Int32} {C : String} {T : u_T} {fs : List LV} (d : decode (mC M) pc = .ok (.aastore, 1)) (hk : K < 7) (hkC : aTy K = .object C) (hcl : vwCl[ci]? = some (C, T, N')) (hh : h t = some (cQ K N f)) (hu : h u = some (cO ci fs)) (hi : ix i N j) (kk : J X M (pc + 1) ls st (hup h t (cQ K N (va_up f j (some u)))) k n Q) : J X M pc ls (vR (some u) :: vI i :: vR (some t) :: st) h k n Q := by
  simp only [J_def] at *
  intro p e R s m args below meth c ψ0 h0 F ψ H locs cells slots la hR hE hL hs hl hz hc hn
  have hat : H[ψ t]? = some (arrV (xtc X K) N (fun j => phR ψ (f j))) := HR_at hR hh
  have hKK := F.2.2.2.2.2.2.2.1.1
  obtain ⟨hin, hj⟩ := hi
  have hlt : i.toNatClampNeg < N := Nat.not_le.mp fun q => hin (Or.inr q)
  have h0' : ¬ i < 0 := fun q => hin (Or.inl q)
  obtain ⟨r', hr', cellV, g1, g2, g3, -⟩ := HR_at hR hu
  have hcls := (hKK.1 ci _ hcl).2
  have hra := (hKK.2 K _ (tysL_at (xtc X) hk)).2
  rw [hkC] at hra
  obtain ⟨kA, comp, k1, k2, k3, -⟩ := hra
  have hcomp : comp = (xD X).1 ci := Option.some.inj (k3.symm.trans hcls.1)
  subst hcomp
  have hr : r' = (C, T, N') := Option.some.inj (hr'.symm.trans hcl)
  subst hr
  obtain ⟨kC, hkCC, -⟩ := hcls.2
  refine W.aast F.1 F.2.1 hat (fun q h => by cases h) (fun h => by cases h) k1 k2 rfl hkCC ⟨h0', by show _ < (arrV _ _ _).slots.size; rw [arrV_size]; exact hlt⟩ g1 (fun q h => by rw [g3] at h; cases h) (by rw [g2]; exact hkCC) (by rw [g2]; exact va_assign hcls) rfl rfl d fun H1 e1 e2 e3 => ?_
  have hnew : H1[ψ t]? = some (arrV (xtc X K) N (fun q => va_rf ((va_up f j (some u) q).map ψ))) := by
    rw [e1, arrV_store, hj]
    congr 2
    funext q
    by_cases hq : q = j
    · subst hq; simp [updV, va_up, va_rf]
    · simp [updV, va_up, hq, phR]
  have hlc : Lc h (cQ K N (va_up f j (some u))) := by
    intro q w hw
    by_cases hq : q = j
    · subst hq
      have hw2 : some u = some w := by simpa [va_up] using hw
      cases hw2
      exact Or.inl (by rw [hu]; exact fun z => nomatch z)
    · rw [show va_up f j (some u) q = f q from if_neg hq] at hw
      exact (hR.1 t _ hh).2.2 q w hw
  have hR2 := HR_up hR hh e2 e3 (c := cQ K N (va_up f j (some u))) hnew hlc
  exact kk p e R s m args below meth c ψ0 h0 F ψ H1 _ cells slots la hR2 (fun u hu => ⟨(hE u hu).1, Lt_up (hE u hu).2⟩) hL (fun w hw => Lv_mono (fun u => Lt_up) (hs w (List.mem_cons_of_mem _ (List.mem_cons_of_mem _ (List.mem_cons_of_mem _ hw))))) (fun w hw => Lv_mono (fun u => Lt_up) (hl w hw)) (xA_loc (hR.1 t _ hh).2.1 hz) hc hn
theorem J_aastN {t : Tg} {K N j : Nat} {f : Nat → Option Tg} {i : Int32} {C : String} (d : decode (mC M) pc = .ok (.aastore, 1)) (hk : K < 7) (hkC : aTy K = .object C) (hh : h t = some (cQ K N f)) (hi : ix i N j) (kk : J X M (pc + 1) ls st (hup h t (cQ K N (va_up f j none))) k n Q) : J X M pc ls (vR none :: vI i :: vR (some t) :: st) h k n Q := by
  simp only [J_def] at *
  intro p e R s m args below meth c ψ0 h0 F ψ H locs cells slots la hR hE hL hs hl hz hc hn
  have hat : H[ψ t]? = some (arrV (xtc X K) N (fun j => phR ψ (f j))) := HR_at hR hh
  have hA := (F.2.2.2.2.2.2.2.1.1.2 K _ (tysL_at (xtc X) hk)).1
  rw [hkC] at hA
  obtain ⟨hin, hj⟩ := hi
  refine va_WaastN (C := C) F.1 F.2.1 hat (hA N (fun j => phR ψ (f j))) (fun h => by cases h) (by show ¬ (i < 0 ∨ (arrV _ _ _).slots.size ≤ _); rw [arrV_size]; exact hin) rfl rfl d fun H1 e1 e2 e3 => ?_
  have hnew : H1[ψ t]? = some (arrV (xtc X K) N (fun q => va_rf ((va_up f j none q).map ψ))) := by
    rw [e1, arrV_store, hj]
    congr 2
    funext q
    by_cases hq : q = j
    · subst hq; simp [updV, va_up, va_rf]
    · simp [updV, va_up, hq, phR]
  have hlc : Lc h (cQ K N (va_up f j none)) := by
    intro q w hw
    by_cases hq : q = j
    · subst hq
      have hw2 : none = some w := by simpa [va_up] using hw
      cases hw2
    · rw [show va_up f j none q = f q from if_neg hq] at hw
      exact (hR.1 t _ hh).2.2 q w hw
  have hR2 := HR_up hR hh e2 e3 (c := cQ K N (va_up f j none)) hnew hlc
  exact kk p e R s m args below meth c ψ0 h0 F ψ H1 _ cells slots la hR2 (fun u hu => ⟨(hE u hu).1, Lt_up (hE u hu).2⟩) hL (fun w hw => Lv_mono (fun u => Lt_up) (hs w (List.mem_cons_of_mem _ (List.mem_cons_of_mem _ (List.mem_cons_of_mem _ hw))))) (fun w hw => Lv_mono (fun u => Lt_up) (hl w hw)) (xA_loc (hR.1 t _ hh).2.1 hz) hc hn
theorem J_new {t : Tg} {idx ci N : Nat} {fs : List LV} (d : decode (mC M) pc = .ok (.new idx, 3)) (f : NI (mN M).cls idx ci fs N) (ht : h t = none) (hts : t ≠ tScr) (kk : J X M (pc + 3) ls (vR (some t) :: st) (hup h t (cO ci fs)) k n Q) : J X M pc ls st h (k + 1) (n + N) Q := by
  simp only [J_def] at *
  intro p e R s m args below meth c ψ0 h0 F ψ H locs cells slots la hR hE hL hs hl hz hc hn
  obtain ⟨C, T, ty, hC, hw1, hw2, hw3, hfs, hfr⟩ := f
  have hts0 := F.2.2.2.2.2.2.1
  have hKn := F.2.2.2.2.2.2.2.1.1.1 ci _ hC.1
  have hRR := F.2.2.2.2.2.2.2.2.1
  refine W.newcK F.1 F.2.1 F.2.2.2.2.2.1 (hts0 _ hw1) (hts0 _ hw2) (hts0 _ hw3) rfl d (by rw [hRR]; omega) (by rw [hRR]; omega) hKn.2.1 rfl fun H1 kC hkC e1 z1 o1 => ?_
  have hnew : va_at (xD X) vwCl (H.size, conc (xtc X) (upT ψ t H.size) (cO ci fs)) H1 := ⟨_, hC.1, (u_born ty hts0 hC.2.1 hKn hkC e1 hC.2.2.1).to (fun j hj => hfs _ j hj)⟩
  obtain ⟨hR2, hX2⟩ := HR_new hR ht hts z1 o1 hnew (fun g => freshL_lv hfr g)
  rw [show (Value.ref H.size :: st.map (ph ψ)) = (vR (some t) :: st).map (ph (upT ψ t H.size)) by
    rw [List.map_cons, ext_map hX2 hs]; show _ = Value.ref (upT ψ t H.size t) :: _; rw [show upT ψ t H.size t = H.size from if_pos rfl]]
  exact kk p e R s m args below meth c ψ0 h0 F (upT ψ t H.size) H1 locs (cells + 1) (slots + N) la hR2 (ext_tr hE hX2) (LRel_ext hX2 hl hL) (lv_cons (Or.inl (by rw [hup_s]; exact fun q => nomatch q)) (fun w hw => ext_lv hX2 (hs w hw))) (fun w hw => ext_lv hX2 (hl w hw)) hz (by omega) (by omega)
theorem J_newI {t : Tg} {N : Nat} {x : Int32} (d : decode (mC M) pc = .ok (.newarray .int, 2)) (hx : x = nI N) (hN : N ≤ 60000000) (hw : Cond.arrayClass .int ∈ GW) (ht : h t = none) (hts : t ≠ tScr) (kk : J X M (pc + 2) ls (vR (some t) :: st) (hup h t (cI 0 N (fun _ => 0))) k n Q) : J X M pc ls (vI x :: st) h (k + 1) (n + N) Q := by
  simp only [J_def] at *
  intro p e R s m args below meth c ψ0 h0 F ψ H locs cells slots la hR hE hL hs hl hz hc hn
  have hts0 := F.2.2.2.2.2.2.1
  have hRR := F.2.2.2.2.2.2.2.2.1
  subst hx
  refine va_newaK (atype := .int) F.1 F.2.1 (hts0 _ hw) rfl d rfl (nI_pos (by omega)) (nI_clamp (by omega)) (by show N * _ ≤ 536870912; simp only [newarray.typeOf, componentBytes]; omega) (by rw [hRR]; omega) (by rw [hRR]; omega) rfl fun H1 cA e1 z1 o1 hAr hNm => ?_
  have hcA : cA = xtc X 0 := Option.some.inj (hNm.symm.trans (F.2.2.2.2.2.2.2.1.1.2 0 _ (tysL_at (xtc X) (by decide))).2)
  subst hcA
  obtain ⟨hR2, hX2⟩ := HR_new hR ht hts z1 o1 (c := cI 0 N (fun _ => 0)) e1 (fun g => trivial)
  rw [show (Value.ref H.size :: st.map (ph ψ)) = (vR (some t) :: st).map (ph (upT ψ t H.size)) by
    rw [List.map_cons, ext_map hX2 (fun v hv => hs v (List.mem_cons_of_mem _ hv))]; show _ = Value.ref (upT ψ t H.size t) :: _; rw [show upT ψ t H.size t = H.size from if_pos rfl]]
  exact kk p e R s m args below meth c ψ0 h0 F (upT ψ t H.size) H1 locs (cells + 1) (slots + N) la hR2 (ext_tr hE hX2) (LRel_ext hX2 hl hL) (lv_cons (Or.inl (by rw [hup_s]; exact fun q => nomatch q)) (fun w hw => ext_lv hX2 (hs w (List.mem_cons_of_mem _ hw)))) (fun w hw => ext_lv hX2 (hl w hw)) hz (by omega) (by omega)
theorem J_newL {t : Tg} {N : Nat} {x : Int32} (d : decode (mC M) pc = .ok (.newarray .long, 2)) (hx : x = nI N) (hN : N ≤ 60000000) (hw : Cond.arrayClass .long ∈ GW) (ht : h t = none) (hts : t ≠ tScr) (kk : J X M (pc + 2) ls (vR (some t) :: st) (hup h t (cL 2 N (fun _ => 0))) k n Q) : J X M pc ls (vI x :: st) h (k + 1) (n + N) Q := by
  simp only [J_def] at *
  intro p e R s m args below meth c ψ0 h0 F ψ H locs cells slots la hR hE hL hs hl hz hc hn
  have hts0 := F.2.2.2.2.2.2.1
  have hRR := F.2.2.2.2.2.2.2.2.1
  subst hx
  refine va_newaK (atype := .long) F.1 F.2.1 (hts0 _ hw) rfl d rfl (nI_pos (by omega)) (nI_clamp (by omega)) (by show N * _ ≤ 536870912; simp only [newarray.typeOf, componentBytes]; omega) (by rw [hRR]; omega) (by rw [hRR]; omega) rfl fun H1 cA e1 z1 o1 hAr hNm => ?_
  have hcA : cA = xtc X 2 := Option.some.inj (hNm.symm.trans (F.2.2.2.2.2.2.2.1.1.2 2 _ (tysL_at (xtc X) (by decide))).2)
  subst hcA
  obtain ⟨hR2, hX2⟩ := HR_new hR ht hts z1 o1 (c := cL 2 N (fun _ => 0)) e1 (fun g => trivial)
  rw [show (Value.ref H.size :: st.map (ph ψ)) = (vR (some t) :: st).map (ph (upT ψ t H.size)) by
    rw [List.map_cons, ext_map hX2 (fun v hv => hs v (List.mem_cons_of_mem _ hv))]; show _ = Value.ref (upT ψ t H.size t) :: _; rw [show upT ψ t H.size t = H.size from if_pos rfl]]
  exact kk p e R s m args below meth c ψ0 h0 F (upT ψ t H.size) H1 locs (cells + 1) (slots + N) la hR2 (ext_tr hE hX2) (LRel_ext hX2 hl hL) (lv_cons (Or.inl (by rw [hup_s]; exact fun q => nomatch q)) (fun w hw => ext_lv hX2 (hs w (List.mem_cons_of_mem _ hw)))) (fun w hw => ext_lv hX2 (hl w hw)) hz (by omega) (by omega)
theorem J_newQ {t : Tg} {K N idx : Nat} {x : Int32} {C : String} (d : decode (mC M) pc = .ok (.anewarray idx, 3)) (hx : x = nI N) (hN : N ≤ 60000000) (hk : K < 7) (hkC : aTy K = .object C) (hw : Cond.classLink (mN M).cls idx C ∈ GW) (ho : C ∈ aoL) (ht : h t = none) (hts : t ≠ tScr) (kk : J X M (pc + 3) ls (vR (some t) :: st) (hup h t (cQ K N (fun _ => none))) k n Q) : J X M pc ls (vI x :: st) h (k + 1) (n + N) Q := by
  simp only [J_def] at *
  intro p e R s m args below meth c ψ0 h0 F ψ H locs cells slots la hR hE hL hs hl hz hc hn
  have hts0 := F.2.2.2.2.2.2.1
  have hRR := F.2.2.2.2.2.2.2.2.1
  subst hx
  have hNN : (nI N).toNatClampNeg = N := nI_clamp (by omega)
  refine W.anew F.1 F.2.1 F.2.2.2.2.2.1 (hts0 _ hw) (va_AO.use (F.2.2.2.2.2.2.2.1.2.2.2.1 C ho)) rfl d rfl (nI_pos (by omega)) (by rw [hNN]; omega) (by rw [hRR]; omega) (by rw [hNN, hRR]; omega) fun cA kA comp f1 f2 f3 f4 => ?_
  rw [hNN]
  have hra := (F.2.2.2.2.2.2.2.1.1.2 K _ (tysL_at (xtc X) hk)).2
  rw [hkC] at hra
  obtain ⟨_, _, _, _, _, k4⟩ := hra
  have hcA : cA = xtc X K := Option.some.inj (f1.symm.trans k4)
  subst hcA
  generalize hH1 : H.push ({ cls := xtc X K, slots := Array.replicate N .null, vm := .none } : Cell) = H1
  have z1 : H1.size = H.size + 1 := by rw [← hH1, Array.size_push]
  have e1 : H1[H.size]? = some (arrV (xtc X K) N (fun _ => .null)) := by rw [← hH1, Array.getElem?_push_size, ← arrV_new]
  have o1 : ∀ q : Nat, q < H.size → H1[q]? = H[q]? := fun q hq => by rw [← hH1, Array.getElem?_push, if_neg (Nat.ne_of_lt hq)]
  obtain ⟨hR2, hX2⟩ := HR_new hR ht hts z1 o1 (c := cQ K N (fun _ => none)) e1 (fun g j u hu => nomatch hu)
  rw [show (Value.ref H.size :: st.map (ph ψ)) = (vR (some t) :: st).map (ph (upT ψ t H.size)) by
    rw [List.map_cons, ext_map hX2 (fun v hv => hs v (List.mem_cons_of_mem _ hv))]; show _ = Value.ref (upT ψ t H.size t) :: _; rw [show upT ψ t H.size t = H.size from if_pos rfl]]
  exact kk p e R s m args below meth c ψ0 h0 F (upT ψ t H.size) H1 locs (cells + 1) (slots + N) la hR2 (ext_tr hE hX2) (LRel_ext hX2 hl hL) (lv_cons (Or.inl (by rw [hup_s]; exact fun q => nomatch q)) (fun w hw => ext_lv hX2 (hs w (List.mem_cons_of_mem _ hw)))) (fun w hw => ext_lv hX2 (hl w hw)) hz (by omega) (by omega)
/-- the script -/
theorem J_slen (d : decode (mC M) pc = .ok (.arraylength, 1)) (kk : J X M (pc + 1) ls (vI (Int32.ofNat (xL X)) :: st) h k n Q) : J X M pc ls (vR (some tScr) :: st) h k n Q := by
  simp only [J_def] at *
  intro p e R s m args below meth c ψ0 h0 F ψ H locs cells slots la hR hE hL hs hl hz hc hn
  obtain ⟨-, -, g3, g4, g5, g6, g7⟩ := id hR
  obtain ⟨scr, q1, q2, q3, q4, q5⟩ := F.2.2.2.2.2.2.2.1.2.2.2.2.2.2.2.1
  have hcell : H[ψ tScr]? = some scr := by rw [g3, g7 _ g5]; exact q1
  refine W.alen F.1 F.2.1 hcell q2 (n := Int32.ofNat (xL X)) (by rw [q4]) rfl rfl d ?_
  exact kk p e R s m args below meth c ψ0 h0 F ψ H locs cells slots la hR hE hL (lv_cons trivial (fun v hv => hs v (List.mem_cons_of_mem _ hv))) hl hz hc hn
theorem J_sld {i : Int32} {j : Nat} (d : decode (mC M) pc = .ok (.iaload, 1)) (hi : ix i (xL X) j) (kk : J X M (pc + 1) ls (vI (xs X j) :: st) h k n Q) : J X M pc ls (vI i :: vR (some tScr) :: st) h k n Q := by
  simp only [J_def] at *
  intro p e R s m args below meth c ψ0 h0 F ψ H locs cells slots la hR hE hL hs hl hz hc hn
  obtain ⟨-, -, g3, g4, g5, g6, g7⟩ := id hR
  obtain ⟨scr, q1, q2, q3, q4, q5⟩ := F.2.2.2.2.2.2.2.1.2.2.2.2.2.2.2.1
  have hcell : H[ψ tScr]? = some scr := by rw [g3, g7 _ g5]; exact q1
  have hlt := ix_lt hi
  obtain ⟨hin, hj⟩ := hi
  refine W.iald (v := .int (xs X j)) F.1 F.2.1 hcell q2 q3 (by rw [q4]; exact hin) (by rw [hj]; exact q5 j hlt) rfl rfl d ?_
  exact kk p e R s m args below meth c ψ0 h0 F ψ H locs cells slots la hR hE hL (lv_cons trivial (fun v hv => hs v (List.mem_cons_of_mem _ (List.mem_cons_of_mem _ hv)))) hl hz hc hn
/-- Object.<init> -/
theorem J_obj {t : Tg} {idx : Nat} (d : decode (mC M) pc = .ok (.invokespecial idx, 3)) (hw1 : Cond.methodLink (mN M).cls idx Lib.objectInit ∈ GW) (hw2 : Cond.instanceMethod Lib.objectInit ∈ GW) (hw3 : Cond.code Lib.objectInit ⟨#[0xb1]⟩ 1 none ∈ GW) (hf : 1 ≤ (mR M).frames) (hlo : 12 ≤ (mR M).locals) (kk : J X M (pc + 3) ls [] h k n Q) : J X M pc ls [vR (some t)] h k n Q := by
  simp only [J_def] at *
  intro p e R s m args below meth c ψ0 h0 F ψ H locs cells slots la hR hE hL hs hl hz hc hn
  have hts0 := F.2.2.2.2.2.2.1
  have hRR := F.2.2.2.2.2.2.2.2.1
  refine W.objInit (a := ψ t) (rest := []) F.1 F.2.1 F.2.2.2.2.2.1 (hts0 _ hw1) (hts0 _ hw2) (hts0 _ hw3) rfl (by show la.size = _; rw [hL.1, F.2.2.1]) rfl d (by rw [hRR]; exact hf) (by rw [hRR]; show 2 * 0 + 0 + 12 ≤ _; omega) ?_
  exact kk p e R s m args below meth c ψ0 h0 F ψ H locs cells slots la hR hE hL (fun v hv => nomatch hv) hl hz hc hn
/-- the ends -/
theorem J_iret {x : Int32} (d : decode (mC M) pc = .ok (.ireturn, 1)) (hT : mT M = some .int) (hq : Q (rt (vI x)) h) : J X M pc ls [vI x] h k n Q := by
  simp only [J_def] at *
  intro p e R s m args below meth c ψ0 h0 F ψ H locs cells slots la hR hE hL hs hl hz hc hn
  refine W.widen (k := (mR M).cells) (n := (mR M).slots) (by omega) (by omega) (vx_ret ?_)
  exact W.iret F.1 F.2.1 (F.2.2.2.1.trans hT) (fun t ht hW => ⟨some (vI x), h, ψ, rfl, hq, by rw [ht]; exact hR, hE, fun w hw => by cases hw; trivial⟩) hz d F.2.2.2.2.1
theorem J_zret {x : Int32} (d : decode (mC M) pc = .ok (.ireturn, 1)) (hT : mT M = some .boolean) (hx : xzb x) (hq : Q (rt (vI x)) h) : J X M pc ls [vI x] h k n Q := by
  simp only [J_def] at *
  intro p e R s m args below meth c ψ0 h0 F ψ H locs cells slots la hR hE hL hs hl hz hc hn
  refine W.widen (k := (mR M).cells) (n := (mR M).slots) (by omega) (by omega) (vx_ret ?_)
  exact W.zret F.1 F.2.1 (F.2.2.2.1.trans hT) (xzb_nar hx) (fun t ht hW => ⟨some (vI x), h, ψ, rfl, hq, by rw [ht]; exact hR, hE, fun w hw => by cases hw; trivial⟩) hz d F.2.2.2.2.1
theorem J_vret (d : decode (mC M) pc = .ok (.return_, 1)) (hT : mT M = none) (hq : Q rv h) : J X M pc ls [] h k n Q := by
  simp only [J_def] at *
  intro p e R s m args below meth c ψ0 h0 F ψ H locs cells slots la hR hE hL hs hl hz hc hn
  refine W.widen (k := (mR M).cells) (n := (mR M).slots) (by omega) (by omega) (vx_ret ?_)
  exact W.vret F.1 F.2.1 (F.2.2.2.1.trans hT) (fun t ht hW => ⟨none, h, ψ, rfl, hq, by rw [ht]; exact hR, hE, fun w hw => nomatch hw⟩) hz d F.2.2.2.2.1
theorem J_aret {r : Option Tg} {C : String} (d : decode (mC M) pc = .ok (.areturn, 1)) (hT : mT M = some (.object C)) (hq : Q (rt (vR r)) h) : J X M pc ls [vR r] h k n Q := by
  simp only [J_def] at *
  intro p e R s m args below meth c ψ0 h0 F ψ H locs cells slots la hR hE hL hs hl hz hc hn
  refine W.widen (k := (mR M).cells) (n := (mR M).slots) (by omega) (by omega) (vx_ret ?_)
  exact W.aret F.1 F.2.1 (F.2.2.2.1.trans hT) (Or.inl ⟨C, rfl⟩) (by cases r with
    | none => exact Or.inl rfl
    | some t => exact Or.inr ⟨ψ t, rfl⟩) (fun t ht hW => ⟨some (vR r), h, ψ, rfl, hq, by rw [ht]; exact hR, hE, fun w hw => by cases hw; exact hs _ List.mem_cons_self⟩) hz d F.2.2.2.2.1
end JA
