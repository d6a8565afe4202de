/-! RULES OF J THAT READ OR WRITE THE HEAP -/
theorem Lt_up {h : LH} {t u : Tg} {c : LC} (hu : Lt h u) : Lt (hup h t c) u := by
  rcases hu with hu | hu
  · by_cases e : u = t
    · subst e; exact Or.inl (by rw [hup_s]; exact fun q => nomatch q)
    · exact Or.inl (by rw [hup_n e]; exact hu)
  · exact Or.inr hu
theorem Lv_mono {h h' : LH} (hm : ∀ t, Lt h t → Lt h' t) {v : LV} (hv : Lv h v) : Lv h' v := by
  match v, hv with
  | .inl _, _ => trivial
  | .inr (.inl _), _ => trivial
  | .inr (.inr none), _ => trivial
  | .inr (.inr (some t)), hv => exact hm t hv
theorem Lc_mono {h h' : LH} (hm : ∀ t, Lt h t → Lt h' t) {c : LC} (hc : Lc h c) : Lc h' c := by
  match c, hc with
  | .inl o, hc => exact fun v hv => Lv_mono hm (hc v hv)
  | .inr (_, _, .inr (.inr f)), hc => exact fun j t hj => hm t (hc j t hj)
  | .inr (_, _, .inl _), _ => trivial
  | .inr (_, _, .inr (.inl _)), _ => trivial
theorem conc_ext {tc : Nat → ClassId} {ψ ψ' : Tg → Nat} {h h' : LH} (a : ext ψ ψ' h h') {c : LC} (hc : Lc h c) : conc tc ψ' c = conc tc ψ c := by
  match c, hc with
  | .inl o, hc => show Sum.inr (o.1, o.2.map (ph ψ')) = Sum.inr (o.1, o.2.map (ph ψ)); rw [ext_map a hc]
  | .inr (k, n, .inl f), _ => rfl
  | .inr (k, n, .inr (.inl f)), _ => rfl
  | .inr (k, n, .inr (.inr f)), hc =>
    show Sum.inl (tc k, n, Sum.inr (Sum.inr (Sum.inr (Sum.inr (fun j => (f j).map ψ'))))) = Sum.inl (tc k, n, Sum.inr (Sum.inr (Sum.inr (Sum.inr (fun j => (f j).map ψ)))))
    have e : (fun j => (f j).map ψ') = (fun j => (f j).map ψ) := by
      funext j
      cases hj : f j with
      | none => rfl
      | some t => show some (ψ' t) = some (ψ t); rw [(a t (hc j t hj)).1]
    rw [e]
theorem HR_at {X : GX} {ψ : Tg → Nat} {h : LH} {H : Heap} (hR : HR X ψ h H) {t : Tg} {c : LC} (hh : h t = some c) : va_at (xD X) vwCl (ψ t, conc (xtc X) ψ c) H := (hR.1 t c hh).1
theorem HR_lt {X : GX} {ψ : Tg → Nat} {h : LH} {H : Heap} (hR : HR X ψ h H) {t : Tg} {c : LC} (hh : h t = some c) : ψ t < H.size := (HR_at hR hh).lt
theorem HR_up {X : GX} {ψ : Tg → Nat} {h : LH} {H H1 : Heap} (hR : HR X ψ h H) {t : Tg} {c c0 : LC} (hh : h t = some c0) (hz : H1.size = H.size) (ho : ∀ q, q ≠ ψ t → H1[q]? = H[q]?)
    (ha : va_at (xD X) vwCl (ψ t, conc (xtc X) ψ c) H1) (hc : Lc h c) : HR X ψ (hup h t c) H1 := by
  obtain ⟨g1, g2, g3, g4, g5, g6, g7⟩ := id hR
  have hm : ∀ u, Lt h u → Lt (hup h t c) u := fun u => Lt_up
  have hb : ∀ u, Lt (hup h t c) u → Lt h u := by
    intro u hu
    rcases hu with hu | hu
    · by_cases e : u = t
      · subst e; exact Or.inl (by rw [hh]; exact fun q => nomatch q)
      · rw [hup_n e] at hu; exact Or.inl hu
    · exact Or.inr hu
  have hts : t ≠ tScr := fun e => by rw [e, g4] at hh; cases hh
  refine ⟨fun u cu hu => ?_, fun u u' hu hu' e => g2 u u' (hb u hu) (hb u' hu') e, g3, by rw [hup_n (Ne.symm hts)]; exact g4, g5, by rw [hz]; exact g6, fun q hq => ?_⟩
  · by_cases e : u = t
    · subst e
      rw [hup_s] at hu
      cases hu
      exact ⟨ha, (g1 u c0 hh).2.1, Lc_mono hm hc⟩
    · rw [hup_n e] at hu
      obtain ⟨a1, a2, a3⟩ := g1 u cu hu
      refine ⟨a1.kept (ho _ (fun z => e (g2 u t (Or.inl (by rw [hu]; exact fun q => nomatch q)) (Or.inl (by rw [hh]; exact fun q => nomatch q)) z))), a2, Lc_mono hm a3⟩
  · rw [ho q (fun z => by have := (g1 t c0 hh).2.1; omega)]
    exact g7 q hq
/-- the tag of a new cell -/
def upT (ψ : Tg → Nat) (t : Tg) (a : Nat) : Tg → Nat := fun u => if u = t then a else ψ u
theorem HR_new {X : GX} {ψ : Tg → Nat} {h : LH} {H H1 : Heap} (hR : HR X ψ h H) {t : Tg} {c : LC} (hh : h t = none) (hts : t ≠ tScr) (hz : H1.size = H.size + 1) (ho : ∀ q, q < H.size → H1[q]? = H[q]?)
    (ha : va_at (xD X) vwCl (H.size, conc (xtc X) (upT ψ t H.size) c) H1) (hc : ∀ g, Lc g c) : HR X (upT ψ t H.size) (hup h t c) H1 ∧ ext ψ (upT ψ t H.size) h (hup h t c) := by
  obtain ⟨g1, g2, g3, g4, g5, g6, g7⟩ := id hR
  have hn : ¬ Lt h t := fun e => e.elim (fun e => e hh) hts
  have hx : ext ψ (upT ψ t H.size) h (hup h t c) := fun u hu => ⟨if_neg (fun (e : u = t) => hn (e ▸ hu)), Lt_up hu⟩
  have hm : ∀ u, Lt h u → Lt (hup h t c) u := fun u => Lt_up
  have hb : ∀ u, Lt (hup h t c) u → u = t ∨ Lt h u := by
    intro u hu
    by_cases e : u = t
    · exact Or.inl e
    · refine Or.inr (hu.elim (fun hu => Or.inl ?_) Or.inr)
      rw [hup_n e] at hu; exact hu
  have hl : ∀ u, Lt h u → ψ u < H.size := by
    intro u hu
    rcases hu with hu | hu
    · cases hc : h u with
      | none => exact absurd hc hu
      | some cu => exact HR_lt hR hc
    · subst hu; rw [g3]; omega
  refine ⟨⟨fun u cu hu => ?_, fun u u' hu hu' e => ?_, by rw [(hx tScr (Or.inr rfl)).1]; exact g3, by rw [hup_n (Ne.symm hts)]; exact g4, g5, by omega, fun q hq => ?_⟩, hx⟩
  · by_cases e : u = t
    · subst e
      rw [hup_s] at hu
      cases hu
      refine ⟨by rw [show upT ψ u H.size u = H.size from if_pos rfl]; exact ha, by rw [show upT ψ u H.size u = H.size from if_pos rfl]; exact g6, hc _⟩
    · rw [hup_n e] at hu
      obtain ⟨a1, a2, a3⟩ := g1 u cu hu
      have hul : Lt h u := Or.inl (by rw [hu]; exact fun q => nomatch q)
      rw [conc_ext hx a3, (hx u hul).1]
      exact ⟨a1.kept (ho _ (hl u hul)), a2, Lc_mono hm a3⟩
  · have hit : upT ψ t H.size t = H.size := if_pos rfl
    rcases hb u hu with e1 | hu1 <;> rcases hb u' hu' with e2 | hu2
    · rw [e1, e2]
    · rw [(hx u' hu2).1, e1, hit] at e
      have := hl u' hu2; omega
    · rw [(hx u hu1).1, e2, hit] at e
      have := hl u hu1; omega
    · rw [(hx u hu1).1, (hx u' hu2).1] at e
      exact g2 u u' hu1 hu2 e
  · rw [ho q (by omega)]; exact g7 q hq
/-- a class of objects, by the tables -/
def ClsOK (ci : Nat) (C : String) (T : u_T) (N : Nat) (ty : Nat → FieldType) : Prop :=
  vwCl[ci]? = some (C, T, N) ∧ (∀ w ∈ u_ws C T N, w ∈ GW) ∧ (∀ k, k < N → parseFieldDescriptor (T k).2.2.1 = some (ty k)) ∧ (∀ a, a < N → ∀ b, b < N → a ≠ b → (T a).2.1 ≠ (T b).2.1)
/-- a field of it, linked at an entry of the pool of 'own' -/
def FI (own : String) (idx ci kf : Nat) (ft : FieldType) (fin : Bool) : Prop := ∃ (C : String) (T : u_T) (N : Nat) (ty : Nat → FieldType),
  ClsOK ci C T N ty ∧ Cond.fieldLink own idx C (T kf).2.1 (T kf).2.2.1 ∈ GW ∧ kf < N ∧ (T kf).1 = C ∧ parseFieldDescriptor (T kf).2.2.1 = some ft ∧ (T kf).2.2.2 = fin
section JH
variable {X : GX} {M : MI} {pc : Nat} {ls : List (Option LV)} {st : List LV} {h : LH} {k n : Nat} {Q : LO → LH → Prop}
theorem J_getf {t : Tg} {ci kf idx : Nat} {fs : List LV} {ft : FieldType} {fin : Bool} {v : LV} (d : decode (mC M) pc = .ok (.getfield idx, 3)) (f : FI (mN M).cls idx ci kf ft fin) (hh : h t = some (cO ci fs)) (hv : fs[kf]? = some v)
    (kk : J X M (pc + 3) ls (v :: st) h k n Q) : J X M pc ls (vR (some t) :: st) h k n Q := by
  simp only [J_def] at *
  intro p e R s m args below meth c ψ0 h0 F ψ H locs cells slots la hR hE hL hs hl hz hc hn
  obtain ⟨C, T, N, ty, hC, hw, hk, ho, -, -⟩ := f
  have hat := HR_at hR hh
  have hP : va_P (xD X) vwCl [(ψ t, conc (xtc X) ψ (cO ci fs))] H := fun q x hx => by
    cases q with
    | zero => cases hx; exact hat
    | succ q => cases hx
  have hlv : Lv h v := (hR.1 t _ hh).2.2 v (List.mem_of_getElem? hv)
  exact va_get (cl := vwCl) F.1 F.2.1 F.2.2.2.2.2.2.1 hC.2.1 F.2.2.2.2.2.1 F.2.2.2.2.2.2.2.1.1 hP 0 (fs := fs.map (ph ψ)) rfl hC.1 kf hk (F.2.2.2.2.2.2.1 _ hw) (fun x hx => by rw [ho] at hx; exact hx) (v := ph ψ v) (by rw [List.getElem?_map, hv]; rfl) d
    (kk p e R s m args below meth c ψ0 h0 F ψ H locs cells slots la hR hE hL (lv_cons hlv (fun v hv => hs v (List.mem_cons_of_mem _ hv))) hl hz hc hn)
theorem xA_loc {locs : List Loc} {a i : Nat} (ha : xA X a) (hz : ∀ z ∈ locs, xA X z.base) : ∀ z ∈ locs ++ [⟨a, i⟩], xA X z.base := by
  intro z hq
  rcases List.mem_append.mp hq with q | q
  · exact hz z q
  · rcases List.mem_cons.mp q with rfl | q
    · exact ha
    · cases q
theorem J_put {t : Tg} {ci kf idx : Nat} {fs : List LV} {ft : FieldType} {v : LV} (d : decode (mC M) pc = .ok (.putfield idx, 3)) (f : FI (mN M).cls idx ci kf ft false) (hh : h t = some (cO ci fs)) (hlen : kf < fs.length)
    (hn1 : ∀ ψ, narrow ft (ph ψ v) = ph ψ v) (hf1 : ∀ ψ, fits ft (ph ψ v) = true) (kk : J X M (pc + 3) ls st (hup h t (cO ci (fs.set kf v))) k n Q) : J X M pc ls (v :: vR (some t) :: st) h k n Q := by
  simp only [J_def] at *
  intro p e R s m args below meth c ψ0 h0 F ψ H locs cells slots la hR hE hL hs hl hz hc hn
  obtain ⟨C, T, N, ty, hC, hw, hk, ho, hp, hfin⟩ := f
  have hts := F.2.2.2.2.2.2.1
  have hK := F.2.2.2.2.2.2.2.1.1
  have hap := va_apart (own := C) hts hC.2.1 ty hC.2.2.1 hC.2.2.2 hK hC.1
  obtain ⟨r, h1, cell, q1, q2, q3, q4⟩ := HR_at hR hh
  have hr : r = (C, T, N) := Option.some.inj (h1.symm.trans hC.1)
  subst hr
  obtain ⟨hS, hfc, kC, hkC, hkind⟩ := hK.1 ci _ hC.1
  obtain ⟨cf, kf', fi, fd, hi, hsl⟩ := hS kf hk
  have hlay := hts _ (hC.2.1 _ (u_in_lay hk))
  unfold u_lay at hlay
  rw [if_neg (by rw [hfin]; decide)] at hlay
  have hst := (u_facts hfc hkC (u_lays hts hC.2.1 hk) hi).1
  have h6 := u_store hfc hkC hkind hlay hi hp (hn1 ψ) (hf1 ψ)
  have hlv : Lv h v := hs v List.mem_cons_self
  refine W.putK F.1 F.2.1 (f := fd) ⟨F.2.2.2.2.2.1, hts _ hw, ⟨_, _, _, by rw [ho] at hi; exact hi⟩, hst⟩ (by rw [q2]; exact h6) q1 q3 (by rw [hsl]; exact k2_hasslot (q4 kf hk)) rfl rfl d fun H' e1 e2 e3 => ?_
  rw [hsl] at e1 ⊢
  have hnew : va_at (xD X) vwCl (ψ t, conc (xtc X) ψ (cO ci (fs.set kf v))) H' := by
    refine ⟨_, hC.1, ?_⟩
    show t_OB _ _ _ _ _ (vp_V ((fs.set kf v).map (ph ψ)))
    rw [List.map_set]
    exact t_OB.to (V := updV (vp_V (fs.map (ph ψ))) kf (ph ψ v)) ⟨_, e1, q2, q3, t_set q4 hap hk (ph ψ v)⟩ (fun j _ => vp_updV_set (by rw [List.length_map]; exact hlen) (ph ψ v) j)
  have hlc : Lc h (cO ci (fs.set kf v)) := by
    intro w hw
    rcases List.mem_or_eq_of_mem_set hw with hw | rfl
    · exact (hR.1 t _ hh).2.2 w hw
    · exact hlv
  have hR' := HR_up hR hh e2 e3 hnew hlc
  have hm : ∀ u, Lt h u → Lt (hup h t (cO ci (fs.set kf v))) u := fun u => Lt_up
  exact kk p e R s m args below meth c ψ0 h0 F ψ H' _ cells slots la hR' (fun u hu => ⟨(hE u hu).1, hm u (hE u hu).2⟩) hL (fun w hw => Lv_mono hm (hs w (List.mem_cons_of_mem _ (List.mem_cons_of_mem _ hw)))) (fun w hw => Lv_mono hm (hl w hw)) (xA_loc (hR.1 t _ hh).2.1 hz) hc hn
theorem J_putF {t : Tg} {ci kf idx : Nat} {fs : List LV} {ft : FieldType} {v : LV} (d : decode (mC M) pc = .ok (.putfield idx, 3)) (f : FI (mN M).cls idx ci kf ft true) (hcl : vwCl[ci]?.map (fun r => r.1) = some (mN M).cls) (hini : (mN M).name = "<init>") (hh : h t = some (cO ci fs)) (hlen : kf < fs.length)
    (hn1 : ∀ ψ, narrow ft (ph ψ v) = ph ψ v) (hf1 : ∀ ψ, fits ft (ph ψ v) = true) (kk : J X M (pc + 3) ls st (hup h t (cO ci (fs.set kf v))) k n Q) : J X M pc ls (v :: vR (some t) :: st) h k n Q := by
  simp only [J_def] at *
  intro p e R s m args below meth c ψ0 h0 F ψ H locs cells slots la hR hE hL hs hl hz hc hn
  obtain ⟨C, T, N, ty, hC, hw, hk, ho, hp, hfin⟩ := f
  have hdc : C = (mN M).cls := by rw [hC.1] at hcl; exact Option.some.inj hcl
  have hts := F.2.2.2.2.2.2.1
  have hK := F.2.2.2.2.2.2.2.1.1
  have hap := va_apart (own := C) hts hC.2.1 ty hC.2.2.1 hC.2.2.2 hK hC.1
  obtain ⟨r, h1, cell, q1, q2, q3, q4⟩ := HR_at hR hh
  have hr : r = (C, T, N) := Option.some.inj (h1.symm.trans hC.1)
  subst hr
  obtain ⟨hS, hfc, kC, hkC, hkind⟩ := hK.1 ci _ hC.1
  obtain ⟨cf, kf', fi, fd, hi, hsl⟩ := hS kf hk
  have hlay := hts _ (hC.2.1 _ (u_in_lay hk))
  unfold u_lay at hlay
  rw [if_pos hfin] at hlay
  have hst := (u_facts hfc hkC (u_lays hts hC.2.1 hk) hi).1
  have hcf : m.cls = cf := by
    obtain ⟨_, _, c', _, _, _, -, -, hf', -, -, -, hown2, -⟩ := Cond.laysFinal_spec hlay
    have e1 : c' = cf := by have := hi.symm.trans hf'; simp at this; exact this.1.symm
    rw [ho, hdc] at hown2
    rw [← e1]; exact Option.some.inj (F.2.2.2.2.2.1.symm.trans hown2)
  have h6 := u_fits hfc hkC hkind (Or.inr hlay) hi hp (hn1 ψ) (hf1 ψ)
  have hlv : Lv h v := hs v List.mem_cons_self
  refine W.putFinK F.1 F.2.1 F.2.2.2.2.2.1 (hts _ hw) (by rw [ho] at hi; exact hi) hst hcf (F.2.2.2.2.2.2.2.2.2.2.1.trans hini) (by rw [q2]; exact h6) q1 q3 (by rw [hsl]; exact k2_hasslot (q4 kf hk)) rfl rfl d fun H' e1 e2 e3 => ?_
  rw [hsl] at e1 ⊢
  have hnew : va_at (xD X) vwCl (ψ t, conc (xtc X) ψ (cO ci (fs.set kf v))) H' := by
    refine ⟨_, hC.1, ?_⟩
    show t_OB _ _ _ _ _ (vp_V ((fs.set kf v).map (ph ψ)))
    rw [List.map_set]
    exact t_OB.to (V := updV (vp_V (fs.map (ph ψ))) kf (ph ψ v)) ⟨_, e1, q2, q3, t_set q4 hap hk (ph ψ v)⟩ (fun j _ => vp_updV_set (by rw [List.length_map]; exact hlen) (ph ψ v) j)
  have hlc : Lc h (cO ci (fs.set kf v)) := by
    intro w hw
    rcases List.mem_or_eq_of_mem_set hw with hw | rfl
    · exact (hR.1 t _ hh).2.2 w hw
    · exact hlv
  have hR' := HR_up hR hh e2 e3 hnew hlc
  have hm : ∀ u, Lt h u → Lt (hup h t (cO ci (fs.set kf v))) u := fun u => Lt_up
  exact kk p e R s m args below meth c ψ0 h0 F ψ H' _ cells slots la hR' (fun u hu => ⟨(hE u hu).1, hm u (hE u hu).2⟩) hL (fun w hw => Lv_mono hm (hs w (List.mem_cons_of_mem _ (List.mem_cons_of_mem _ hw)))) (fun w hw => Lv_mono hm (hl w hw)) (xA_loc (hR.1 t _ hh).2.1 hz) hc hn
end JH
