/-! THE CLAIM OUT OF ONE WALK OF THE LAW'S BODY. Your part is whole_start (and what it stands on); all else here is the same for every law, but numbers. -/
def R_law : String := "PisteLineLaw"
def lw_P (b : Addr) (xs : List Int32) (args : Array Value) (s : State) : Prop := args = #[.ref b] ∧ s.IntsAt b xs ∧ xs.length ≤ 260 ∧ (Jvm.Cond.and given_1 narrow_1).before args s = true
def lw_Q (_ : Array Value) (s : State) (o : Outcome) (t : State) : Prop := o = .returned (some (.int 1)) ∧ Framed s o t [] room_1.cells room_1.slots
def lw_Z (below : List Frame) (a : Array Value) (s : State) : State → Prop := fun t => ∃ o, t.status = .running ∧ Ended t below o ∧ lw_Q a s o t
/-- the law's own end, with 1 on the stack, nothing written that was there before, its room as the claim has it -/
theorem lw_ret {p : Program} {l : Launch} {e : Env} {s : State} {m : MethodId} {below : List Frame} {meth : Method} {c : Code} {b : Nat} (hx : p.tables.exec = Jvm.exec) (hb : c.code = code) (hr : meth.sig.returnType = ret) (hlocks : meth.locks = false) {pc : Nat} {H : Heap} {ls : Array Slot} (hdg : decode code pc = .ok (.ireturn, 1)) : W p l e room_1 s m #[Value.ref b] below meth c H [] room_1.cells room_1.slots (lw_Z below #[Value.ref b] s) (F0 m pc ls [.int 1]) := by
  intro T hT X
  obtain ⟨fs, hret, hrun, hended, hW, hframe⟩ := X.leave (v := some (.int 1)) (hlocks := hlocks) (fun h => by rw [hr] at h; cases h)
  have hmeth' : T.vm.method? m = some meth := X.method'
  refine ⟨T.setFrames fs, ?_, .returned (some (.int 1)), hrun, hended, rfl, ⟨_, rfl⟩, hW, hframe⟩
  jvm_step X.here [X.here.top, hx, hb, hdg, hmeth', hr, ret, narrow_b1]
  (try refine ⟨rfl, ?_⟩); (try refine ⟨rfl, ?_⟩)
  first | (intro acts; rw [hret _ acts rfl rfl rfl]) | rw [hret _ _ rfl rfl rfl]
  exact Steps.refl _
/-- what holds at the law's entry: the machine, the code, the tables' words (any of lw_tbl by 'hts w (by decide +kernel)'), the script of L ints xs at the cell b, what the Statement gives of the start (any of its parts by flat_of_before) -/
def lw_At (p : Program) (s : State) (m : MethodId) (meth : Method) (c : Code) (b L : Nat) (xs : Nat → Int32) : Prop :=
  p.tables.exec = Jvm.exec ∧ c.code = code ∧ meth.sig.returnType = ret ∧ c.maxLocals = 1 ∧ s.vm.findClass R_law = some m.cls ∧ (∀ w ∈ lw_tbl, w.before #[Value.ref b] s = true) ∧ va_X b L xs s s.heap ∧ b < s.heap.size ∧ meth.locks = false ∧ (Jvm.Cond.and given_1 narrow_1).before #[Value.ref b] s = true
theorem str_in : ∀ q ∈ strL, Cond.stringRef RX7 q.1 q.2 ∈ lw_tbl := by
  have h : strL.map (fun q => some (Cond.stringRef RX7 q.1 q.2)) = [218, 444, 445, 472, 473, 474, 374, 393, 398, 738, 561, 740, 562, 677, 678, 667, 662, 610, 713, 714, 720, 853, 848, 881, 281, 288, 909, 770, 771, 887].map (fun i => lw_tbl[i]?) := by decide +kernel
  intro q hq
  have h1 : some (Cond.stringRef RX7 q.1 q.2) ∈ strL.map (fun q => some (Cond.stringRef RX7 q.1 q.2)) := List.mem_map.mpr ⟨q, hq, rfl⟩
  rw [h] at h1
  obtain ⟨i, -, hi⟩ := List.mem_map.mp h1
  exact List.mem_of_getElem? hi
theorem ao_3 : Cond.arrayOver (.object RX1) ∈ lw_tbl := List.mem_of_getElem? (i := 56) (by decide +kernel)
theorem ao_4 : Cond.arrayOver (.object RX6) ∈ lw_tbl := List.mem_of_getElem? (i := 58) (by decide +kernel)
theorem ao_5 : Cond.arrayOver (.object RX0) ∈ lw_tbl := List.mem_of_getElem? (i := 60) (by decide +kernel)
theorem ao_6 : Cond.arrayOver (.object RX2) ∈ lw_tbl := List.mem_of_getElem? (i := 306) (by decide +kernel)
theorem in_X0 : Cond.instantiable RX0 8 ∈ GW := GW_of (i := 300) (by decide +kernel) rfl
theorem in_X1 : Cond.instantiable RX1 5 ∈ GW := GW_of (i := 246) (by decide +kernel) rfl
theorem in_X2 : Cond.instantiable RX2 10 ∈ GW := GW_of (i := 564) (by decide +kernel) rfl
theorem in_X3 : Cond.instantiable RX3 6 ∈ GW := GW_of (i := 62) (by decide +kernel) rfl
theorem in_X4 : Cond.instantiable RX4 5 ∈ GW := GW_of (i := 94) (by decide +kernel) rfl
theorem in_X5 : Cond.instantiable RX5 3 ∈ GW := GW_of (i := 120) (by decide +kernel) rfl
theorem in_X6 : Cond.instantiable RX6 4 ∈ GW := GW_of (i := 446) (by decide +kernel) rfl
theorem in_X7 : Cond.instantiable RX7 10 ∈ GW := GW_of (i := 48) (by decide +kernel) rfl
theorem ls_U : Cond.laysStatic Bundle.tN "UNASSIGNED_STACK" Bundle.steD ∈ lw_tbl := List.mem_of_getElem? (i := 204) (by decide +kernel)
theorem ls_S : Cond.laysStatic Bundle.tN "SUPPRESSED_SENTINEL" Bundle.listD ∈ lw_tbl := List.mem_of_getElem? (i := 206) (by decide +kernel)
theorem ini_T : Cond.initialized Bundle.tN ∈ lw_tbl := List.mem_of_getElem? (i := 27) (by decide +kernel)
theorem nw_U : Cond.isRef (.static Bundle.tN "UNASSIGNED_STACK" Bundle.steD) ∈ flatC (Jvm.Cond.and given_1 narrow_1) := by decide +kernel
theorem nw_S : Cond.isRef (.static Bundle.tN "SUPPRESSED_SENTINEL" Bundle.listD) ∈ flatC (Jvm.Cond.and given_1 narrow_1) := by decide +kernel
theorem nw_c : ncL.all (fun q => decide (Cond.not (.castable q.1 q.2) ∈ flatC (Jvm.Cond.and given_1 narrow_1))) = true := by decide +kernel
theorem arr_p {args : Array Value} {s : State} {ty : FieldType} (h : (Cond.arrayClass ty).before args s = true) (hty : ∀ C, ty ≠ .object C) : ∃ cA, ArrOfT s cA ty ∧ va_RA s cA ty := by
  obtain ⟨cA, kA, comp, h1, h2, h3⟩ := Cond.arrayClass_spec h
  refine ⟨cA, fun n z => ⟨fun k h => (by cases h), kA, h2, comp, h3⟩, ?_⟩
  cases ty with
  | object C => exact absurd rfl (hty C)
  | _ => exact h1
theorem arr_o {args : Array Value} {s : State} {C : String} (h : (Cond.arrayOver (.object C)).before args s = true) : ∃ cA, ArrOfT s cA (.object C) ∧ va_RA s cA (.object C) := by
  obtain ⟨comp, c, k, h1, h2, h3, h4, h5⟩ := Cond.arrayOver_spec h
  exact ⟨c, fun n z => ⟨fun k h => (by cases h), k, h3, comp, h4⟩, k, comp, h3, h4, h1, h5⟩
/-- the law's whole walk, out of J of its body -/
theorem start_of (hJ : ∀ X : GX, xL X ≤ 260 → J X mL_law 0 [some (vR (some tScr))] [] (fun _ => none) room_1.cells room_1.slots (fun o _ => o = rt (vI 1)))
    {p : Program} {e : Env} {s : State} {m : MethodId} {below : List Frame} {meth : Method} {c : Code} (l : Launch) (hflags : l.flags = flags0) (htab : c.exceptionTable.toList = []) (hname : meth.name = "law") {b L : Nat} {xs : Nat → Int32} (hL : L ≤ 260) (C0 : lw_At p s m meth c b L xs) : W p l e room_1 s m #[Value.ref b] below meth c s.heap [] 0 0 (lw_Z below #[Value.ref b] s) (entryFrame m ([Value.ref b] : List Value).toArray 1) := by
  simp only [J_def] at hJ
  obtain ⟨hx, hb, hr, hml, hown, hts, hX, hbl, hlocks, hgv⟩ := id C0
  have hfl := flat_of_before _ hgv
  have htg : ∀ w ∈ GW, w.before #[Value.ref b] s = true := fun w hw => hts w (List.mem_filter.mp hw).1

  obtain ⟨c0, i0, k0⟩ := u_known (C := RX0) (T := TX0) (N := 8) htg okX0.2.1 (htg _ in_X0)
  obtain ⟨c1, i1, k1⟩ := u_known (C := RX1) (T := TX1) (N := 5) htg okX1.2.1 (htg _ in_X1)
  obtain ⟨c2, i2, k2⟩ := u_known (C := RX2) (T := TX2) (N := 10) htg okX2.2.1 (htg _ in_X2)
  obtain ⟨c3, i3, k3⟩ := u_known (C := RX3) (T := TX3) (N := 6) htg okX3.2.1 (htg _ in_X3)
  obtain ⟨c4, i4, k4⟩ := u_known (C := RX4) (T := TX4) (N := 5) htg okX4.2.1 (htg _ in_X4)
  obtain ⟨c5, i5, k5⟩ := u_known (C := RX5) (T := TX5) (N := 3) htg okX5.2.1 (htg _ in_X5)
  obtain ⟨c6, i6, k6⟩ := u_known (C := RX6) (T := TX6) (N := 4) htg okX6.2.1 (htg _ in_X6)
  obtain ⟨c7, i7, k7⟩ := u_known (C := RX7) (T := TX7) (N := 10) htg okX7.2.1 (htg _ in_X7)
  obtain ⟨a0, b0, d0⟩ := arr_p (htg _ aw_int) (fun C h => nomatch h)
  obtain ⟨a1, b1, d1⟩ := arr_p (htg _ aw_int) (fun C h => nomatch h)
  obtain ⟨a2, b2, d2⟩ := arr_p (htg _ aw_long) (fun C h => nomatch h)
  obtain ⟨a3, b3, d3⟩ := arr_o (hts _ ao_3)
  obtain ⟨a4, b4, d4⟩ := arr_o (hts _ ao_4)
  obtain ⟨a5, b5, d5⟩ := arr_o (hts _ ao_5)
  obtain ⟨a6, b6, d6⟩ := arr_o (hts _ ao_6)
  let X : GX := (l, ((fun k => [c0, c1, c2, c3, c4, c5, c6, c7].getD k c0), (fun k => [i0, i1, i2, i3, i4, i5, i6, i7].getD k i0)), (fun k => [a0, a1, a2, a3, a4, a5, a6].getD k a0), s.heap, b, L, xs)
  have hA : ∀ a : Nat, a < s.heap.size → ¬ xA X a := fun a h1 h2 => absurd (show s.heap.size ≤ a from h2) (by omega)
  have hK1 : va_K (xD X) vwCl (tysL (xtc X)) s := by
    refine ⟨fun k q hq => ?_, fun k q hq => ?_⟩
    · match k, hq with
      | 0, hq => cases hq; exact k0
      | 1, hq => cases hq; exact k1
      | 2, hq => cases hq; exact k2
      | 3, hq => cases hq; exact k3
      | 4, hq => cases hq; exact k4
      | 5, hq => cases hq; exact k5
      | 6, hq => cases hq; exact k6
      | 7, hq => cases hq; exact k7
      | k + 8, hq => simp [vwCl] at hq
    · match k, hq with
      | 0, hq => cases hq; exact ⟨b0, d0⟩
      | 1, hq => cases hq; exact ⟨b1, d1⟩
      | 2, hq => cases hq; exact ⟨b2, d2⟩
      | 3, hq => cases hq; exact ⟨b3, d3⟩
      | 4, hq => cases hq; exact ⟨b4, d4⟩
      | 5, hq => cases hq; exact ⟨b5, d5⟩
      | 6, hq => cases hq; exact ⟨b6, d6⟩
      | k + 7, hq => simp [tysL] at hq
  have hstr : ∀ q ∈ strL, ∃ a, vk_R RX7 q.1 q.2 a s := by
    intro q hq
    have h1 := hts _ (str_in q hq)
    obtain ⟨k, cf, j, a, hk, -, -, -, hr, hev⟩ := Cond.stringRef_spec k7.2.1 h1
    exact ⟨a, vk_R.of h1 hev⟩
  have hKK : KK X s := by
    refine ⟨hK1, hstr, fun w hw => ?_, fun C hC => ?_, fun q hq => ?_, ?_, ?_, hX, ?_⟩
    · exact va_Nw.of (mv_tabs (List.mem_filter.mp hw).2) (hts w (List.mem_filter.mp hw).1)
    · simp only [aoL, List.mem_cons, List.not_mem_nil, or_false] at hC
      rcases hC with rfl | rfl | rfl | rfl
      · exact va_AO.of (hts _ ao_3)
      · exact va_AO.of (hts _ ao_4)
      · exact va_AO.of (hts _ ao_5)
      · exact va_AO.of (hts _ ao_6)
    · exact va_Nc.of (hfl _ (of_decide_eq_true (List.all_eq_true.mp nw_c q hq)))
    · exact vx_Zqof (hts _ ls_U) (hts _ ini_T) (hfl _ nw_U) hA
    · exact vx_Zqof (hts _ ls_S) (hts _ ini_T) (hfl _ nw_S) hA
    · show l.stackTraces = false
      unfold Launch.stackTraces
      rw [hflags]
      decide +kernel
  have hR : HR X (fun _ => b) (fun _ => none) s.heap := by
    refine ⟨(fun t c h => nomatch h), (fun t t' h h' _ => ?_), rfl, rfl, hbl, Nat.le_refl _, fun _ _ => rfl⟩
    rcases h with h | h
    · exact absurd rfl h
    · rcases h' with h' | h'
      · exact absurd rfl h'
      · rw [h, h']
  have F : FOK X mL_law p room_1 s m #[Value.ref b] meth c := ⟨hx, hb, hml, hr, hlocks, hown, htg, hKK, rfl, htab, hname, Nat.le_refl _, fun _ _ => rfl⟩
  have hl := lv_entry [Value.ref b] (n := 1) (Nat.le_of_ble_eq_true rfl)
  rw [lg_entry_eq]
  have hW := hJ X hL p e room_1 s m _ below meth c (fun _ => b) (fun _ => none) F (fun _ => b) s.heap [] 0 0 _ hR ext_rf ⟨hl.1, hl.2.1, fun i v hv => ?_⟩ (fun v hv => nomatch hv) (fun v hv => ?_) (fun z hz => nomatch hz) (Nat.le_of_ble_eq_true rfl) (Nat.le_of_ble_eq_true rfl)
  · intro T hT Y
    obtain ⟨t, st, o, g1, g2, g3⟩ := hW T hT Y
    rcases g3 with ⟨⟨v, h', ψ', e1, e2, -⟩, L', hfe, hLL⟩ | ⟨q, -, E, ce, L', ⟨kq, h', ψ', -, e2, -⟩, -⟩
    · cases e2
      refine ⟨t, st, o, g1, g2, e1, hfe.1, hfe.2.1, hfe.2.2.weaken (fun y hy hlt => ?_) (Nat.le_refl _) (Nat.le_refl _)⟩
      exact absurd hlt (Nat.not_lt.mpr (hLL y hy))
    · cases e2
  · match i, hv with
    | 0, hv => cases hv; exact hl.2.2 (0, Value.ref b) List.mem_cons_self
    | i + 1, hv => simp at hv
  · simp at hv
    cases hv
    exact Or.inr rfl
