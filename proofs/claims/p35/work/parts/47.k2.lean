/-! THE CLASS: rows that are there once; references compared; the greater of two -/
theorem z0 (N a : Int) : N * 0 + a = a := by omega
theorem hkqa_4 {h : LH} {ρ : TS} {j x : Int} (hx : 0 ≤ x) (hj : 0 ≤ j ∧ j < 12) : hup (hk h ρ) (2, 0) (cQ 3 12 (va_up (rar 11 (subd (-1) 12 (ρ 4) (12 * 0))) j.toNat (some (11, x)))) = hk h (ts ρ 4 j x) := by
  have e := hkpa_4 (h := h) (ρ := ρ) (i := 0) hx (show CE ρ 2 0 from rfl) hj
  rw [z0] at e
  exact e
theorem hkqa_5 {h : LH} {ρ : TS} {j x : Int} (hx : 0 ≤ x) (hj : 0 ≤ j ∧ j < 24) : hup (hk h ρ) (3, 0) (cQ 4 24 (va_up (rar 12 (subd (-1) 24 (ρ 5) (24 * 0))) j.toNat (some (12, x)))) = hk h (ts ρ 5 j x) := by
  have e := hkpa_5 (h := h) (ρ := ρ) (i := 0) hx (show CE ρ 3 0 from rfl) hj
  rw [z0] at e
  exact e
theorem hkqa_6 {h : LH} {ρ : TS} {j x : Int} (hx : 0 ≤ x) (hj : 0 ≤ j ∧ j < 66) : hup (hk h ρ) (4, 0) (cQ 5 66 (va_up (rar 13 (subd (-1) 66 (ρ 6) (66 * 0))) j.toNat (some (13, x)))) = hk h (ts ρ 6 j x) := by
  have e := hkpa_6 (h := h) (ρ := ρ) (i := 0) hx (show CE ρ 4 0 from rfl) hj
  rw [z0] at e
  exact e
theorem hkq_45 {h : LH} {ρ : TS} {j x : Int} (hj : 0 ≤ j ∧ j < 16) : hup (hk h ρ) (7, 0) (cI 0 16 (arr (upZ (subd 0 16 (ρ 45) (16 * 0)) j x))) = hk h (ts ρ 45 j x) := by
  have e := hkp_45 (h := h) (ρ := ρ) (i := 0) (x := x) (show CE ρ 7 0 from rfl) hj
  rw [z0] at e
  exact e
theorem hkq_46 {h : LH} {ρ : TS} {j x : Int} (hj : 0 ≤ j ∧ j < 32) : hup (hk h ρ) (8, 0) (cI 0 32 (arr (upZ (subd 0 32 (ρ 46) (32 * 0)) j x))) = hk h (ts ρ 46 j x) := by
  have e := hkp_46 (h := h) (ρ := ρ) (i := 0) (x := x) (show CE ρ 8 0 from rfl) hj
  rw [z0] at e
  exact e
theorem hkqa_7 {h : LH} {ρ : TS} {j x : Int} (hx : 0 ≤ x) (hj : 0 ≤ j ∧ j < 16) : hup (hk h ρ) (9, 0) (cQ 5 16 (va_up (rar 13 (subd (-1) 16 (ρ 7) (16 * 0))) j.toNat (some (13, x)))) = hk h (ts ρ 7 j x) := by
  have e := hkpa_7 (h := h) (ρ := ρ) (i := 0) hx (show CE ρ 9 0 from rfl) hj
  rw [z0] at e
  exact e
section JK2
variable {X : GX} {M M' : MI} {pc : Nat} {ls : List (Option LV)} {st rest as : List LV} {h : LH} {k n : Nat} {Q : LO → LH → Prop} {a : Nat} {x y : Int}
theorem K_acne {off : Int} {tgt : Nat} (d : decode (mC M) pc = .ok (.if_acmp .ne off, 3)) (ht : (pc : Int) + off = (tgt : Int)) (hy : 0 ≤ y) (kt : ¬ x = y → J X M tgt ls st h k n Q) (kf : x = y → J X M (pc + 3) ls st h k n Q) : J X M pc ls (vR (some (a, y)) :: vR (rfo a x) :: st) h k n Q := by
  refine J_acne d ht (fun c => kt (fun e => c (by rw [e]; exact rfo_p hy))) (fun c => kf ?_)
  by_cases q : x < 0
  · rw [rfo_n q] at c; cases c
  · rw [rfo_p (Int.not_lt.mp q)] at c
    have e := congrArg (fun z : Option Tg => (z.getD (0, 0)).2) c
    exact e
theorem J_max {u v : Int32} {idx : Nat} (d : decode (mC M) pc = .ok (.invokestatic idx, 3)) (hlk : Cond.methodLink (mN M).cls idx Lib.Math.max.name ∈ GW) (hst : Cond.static Lib.Math.max.name ∈ GW) (hin : Cond.initialized "java/lang/Math" ∈ GW) (hcd : Cond.code Lib.Math.max.name Lib.Math.max.code 2 (some .int) ∈ GW) (hfr : 1 ≤ (mR M).frames) (hlo : 2 * st.length + 13 ≤ (mR M).locals)
    (kk : J X M (pc + 3) ls (vI (if u < v then v else u) :: st) h k n Q) : J X M pc ls (vI v :: vI u :: st) h k n Q := by
  simp only [J_def] at *
  intro p e R s m args below meth c ψ0 h0 F ψ H locs cells slots la hR hE hL hs hl hz hc hn
  have hts := F.2.2.2.2.2.2.1
  have hRR := F.2.2.2.2.2.2.2.2.1
  refine va_mmax F.1 F.2.1 (F.2.2.1.trans hL.1.symm) F.2.2.2.2.2.1 (hts _ hlk) (hts _ hst) (hts _ hin) (hts _ hcd) (by rw [hRR]; exact hfr) (by rw [hRR]; have := cat_sum ψ st; omega) (by rw [hRR]; omega) (by rw [hRR]; omega) d ?_
  exact kk p e R s m args below meth c ψ0 h0 F ψ H locs cells slots la hR hE hL (lv_cons trivial (fun v hv => hs v (List.mem_cons_of_mem _ (List.mem_cons_of_mem _ hv)))) hl hz hc hn
theorem Z_max {idx : Nat} (d : decode (mC M) pc = .ok (.invokestatic idx, 3)) (hlk : Cond.methodLink (mN M).cls idx Lib.Math.max.name ∈ GW) (hst : Cond.static Lib.Math.max.name ∈ GW) (hin : Cond.initialized "java/lang/Math" ∈ GW) (hcd : Cond.code Lib.Math.max.name Lib.Math.max.code 2 (some .int) ∈ GW) (hfr : 1 ≤ (mR M).frames) (hlo : 2 * st.length + 13 ≤ (mR M).locals) (hx : rg x) (hy : rg y)
    (kk : J X M (pc + 3) ls (vI (iI (if x < y then y else x)) :: st) h k n Q) : J X M pc ls (vI (iI y) :: vI (iI x) :: st) h k n Q := by
  refine J_max d hlk hst hin hcd hfr hlo ?_
  have e : (if iI x < iI y then iI y else iI x) = iI (if x < y then y else x) := by
    by_cases q : x < y
    · rw [if_pos q, if_pos ((iI_lt hx hy).mpr q)]
    · rw [if_neg q, if_neg (fun z => q ((iI_lt hx hy).mp z))]
  rw [e]
  exact kk
end JK2
theorem mx_l : Cond.methodLink RX1 25 Lib.Math.max.name ∈ GW := GW_of (i := 814) (by decide +kernel) rfl
theorem mx_s : Cond.static Lib.Math.max.name ∈ GW := GW_of (i := 815) (by decide +kernel) rfl
theorem mx_i : Cond.initialized "java/lang/Math" ∈ GW := GW_of (i := 37) (by decide +kernel) rfl
theorem mx_c : Cond.code Lib.Math.max.name Lib.Math.max.code 2 (some .int) ∈ GW := GW_of (i := 816) (by decide +kernel) rfl
