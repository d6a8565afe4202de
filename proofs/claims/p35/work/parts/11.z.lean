/-! INTS AS INTEGERS: every int on the stack is iI z; sums need no bounds, comparisons do -/
theorem iI_ne : Nonempty {f : Int → Int32 // f = Int32.ofInt} := ⟨⟨_, rfl⟩⟩
/-- (not to be unfolded by unification) -/
noncomputable def iI : Int → Int32 := (Classical.choice iI_ne).1
theorem iI_d (z : Int) : iI z = Int32.ofInt z := congrFun (Classical.choice iI_ne).2 z
theorem iI_toInt (x : Int32) : iI x.toInt = x := by simp [iI_d]
theorem iI_nI (n : Nat) : nI n = iI (n : Int) := by
  rw [iI_d]
  apply Int32.toBitVec_inj.mp
  simp [nI]
theorem iI_add (a b : Int) : iI a + iI b = iI (a + b) := by rw [iI_d, iI_d, iI_d]; exact (Int32.ofInt_add a b).symm
theorem iI_mul (a b : Int) : iI a * iI b = iI (a * b) := by rw [iI_d, iI_d, iI_d]; exact (Int32.ofInt_mul a b).symm
theorem iI_sub (a b : Int) : iI a - iI b = iI (a - b) := by
  rw [show a - b = a + -b from rfl, ← iI_add, show iI (-b) = -iI b by rw [iI_d, iI_d]; exact Int32.ofInt_neg b]
  exact Int32.sub_eq_add_neg _ _
/-- a number of 32 bits -/
def rg (z : Int) : Prop := -2147483648 ≤ z ∧ z ≤ 2147483647
theorem iI_val {z : Int} (h : rg z) : (iI z).toInt = z := by
  unfold rg at h
  rw [iI_d]
  exact Int32.toInt_ofInt_of_le (by simp [Int32.minValue]; omega) (by simp [Int32.maxValue]; omega)
theorem iI_lt {a b : Int} (ha : rg a) (hb : rg b) : iI a < iI b ↔ a < b := by rw [Int32.lt_iff_toInt_lt, iI_val ha, iI_val hb]
theorem iI_le {a b : Int} (ha : rg a) (hb : rg b) : iI a ≤ iI b ↔ a ≤ b := by rw [Int32.le_iff_toInt_le, iI_val ha, iI_val hb]
theorem iI_eq {a b : Int} (ha : rg a) (hb : rg b) : iI a = iI b ↔ a = b := ⟨fun h => by rw [← iI_val ha, ← iI_val hb, h], fun h => by rw [h]⟩
theorem iI_0 : iI 0 = 0 := iI_d 0
theorem iI_1 : iI 1 = 1 := iI_d 1
theorem rg0 : rg 0 := by unfold rg; omega
theorem iI_eq0 {a : Int} (ha : rg a) : iI a = 0 ↔ a = 0 := by have h := iI_eq ha rg0; rw [iI_0] at h; exact h
theorem iI_lt0 {a : Int} (ha : rg a) : iI a < 0 ↔ a < 0 := by have h := iI_lt ha rg0; rw [iI_0] at h; exact h
theorem iI_le0 {a : Int} (ha : rg a) : iI a ≤ 0 ↔ a ≤ 0 := by have h := iI_le ha rg0; rw [iI_0] at h; exact h
theorem iI_0lt {a : Int} (ha : rg a) : 0 < iI a ↔ 0 < a := by have h := iI_lt rg0 ha; rw [iI_0] at h; exact h
theorem iI_0le {a : Int} (ha : rg a) : 0 ≤ iI a ↔ 0 ≤ a := by have h := iI_le rg0 ha; rw [iI_0] at h; exact h
theorem pI_ne : Nonempty {f : Prop → Int // ∀ p, (p → f p = 1) ∧ (¬ p → f p = 0)} := by
  refine ⟨⟨fun p => @ite Int p (Classical.propDecidable p) 1 0, fun p => ⟨fun h => ?_, fun h => ?_⟩⟩⟩
  · exact if_pos h
  · exact if_neg h
/-- a truth value -/
noncomputable def pI : Prop → Int := (Classical.choice pI_ne).1
theorem pI_t {p : Prop} (h : p) : pI p = 1 := ((Classical.choice pI_ne).2 p).1 h
theorem pI_f {p : Prop} (h : ¬ p) : pI p = 0 := ((Classical.choice pI_ne).2 p).2 h
theorem pI_01 (p : Prop) : pI p = 0 ∨ pI p = 1 := by
  by_cases h : p
  · exact Or.inr (pI_t h)
  · exact Or.inl (pI_f h)
theorem pI_rg (p : Prop) : rg (pI p) := by unfold rg; rcases pI_01 p with h | h <;> omega
theorem zb_of {x : Int} (h : x = 0 ∨ x = 1) : xzb (iI x) := by rcases h with rfl | rfl <;> simp [xzb, iI_0, iI_1]
theorem pI_zb (p : Prop) : xzb (iI (pI p)) := zb_of (pI_01 p)
theorem pI_c {p q : Prop} (h : p ↔ q) : pI p = pI q := by rw [propext h]
theorem pI_e0 {p : Prop} : pI p = 0 ↔ ¬ p := ⟨(fun e h => by rw [pI_t h] at e; omega), pI_f⟩
theorem pI_e1 {p : Prop} : pI p = 1 ↔ p := ⟨(fun e => Classical.byContradiction fun h => by rw [pI_f h] at e; omega), pI_t⟩
theorem ix_iI {e : Int} {N : Nat} (h0 : 0 ≤ e) (h1 : e < N) (hN : N < 2147483648) : ix (iI e) N e.toNat := by
  obtain ⟨j, rfl⟩ := Int.eq_ofNat_of_zero_le h0
  rw [← iI_nI]
  exact ix_nI (by omega) (by omega)
/-- what a row of ints holds -/
noncomputable def arr (g : Int → Int) : Nat → Int32 := fun j => iI (g (j : Int))
def upZ (g : Int → Int) (e x : Int) : Int → Int := fun z => if z = e then x else g z
theorem arr_up {g : Int → Int} {e x : Int} (h0 : 0 ≤ e) : upd (arr g) e.toNat (iI x) = arr (upZ g e x) := by
  funext j
  unfold upd arr upZ
  by_cases h : (j : Int) = e
  · rw [if_pos (by omega), if_pos h]
  · rw [if_neg (by omega), if_neg h]
theorem arr_at {g : Int → Int} {e : Int} (h0 : 0 ≤ e) : arr g e.toNat = iI (g e) := by
  unfold arr
  rw [show ((e.toNat : Nat) : Int) = e by omega]
theorem arr_0 : (fun _ : Nat => (0 : Int32)) = arr (fun _ => 0) := by funext j; exact iI_0.symm
section JZ
variable {X : GX} {M : MI} {pc : Nat} {ls : List (Option LV)} {st : List LV} {h : LH} {k n : Nat} {Q : LO → LH → Prop} {a b : Int}
theorem Z_iconst {z : Int} (d : decode (mC M) pc = .ok (.iconst z, 1)) (kk : J X M (pc + 1) ls (vI (iI z) :: st) h k n Q) : J X M pc ls st h k n Q := J_iconst d (iI_d z).symm kk
theorem Z_bipush {z : Int} (d : decode (mC M) pc = .ok (.bipush z, 2)) (hv : (Int8.ofInt z).toInt32 = Int32.ofInt z) (kk : J X M (pc + 2) ls (vI (iI z) :: st) h k n Q) : J X M pc ls st h k n Q := J_bipush d (hv.trans (iI_d z).symm) kk
theorem Z_sipush {z : Int} (d : decode (mC M) pc = .ok (.sipush z, 3)) (hv : (Int16.ofInt z).toInt32 = Int32.ofInt z) (kk : J X M (pc + 3) ls (vI (iI z) :: st) h k n Q) : J X M pc ls st h k n Q := J_sipush d (hv.trans (iI_d z).symm) kk
theorem Z_iadd (d : decode (mC M) pc = .ok (.iadd, 1)) (kk : J X M (pc + 1) ls (vI (iI (a + b)) :: st) h k n Q) : J X M pc ls (vI (iI b) :: vI (iI a) :: st) h k n Q := J_iadd d (by rw [iI_add]; exact kk)
theorem Z_isub (d : decode (mC M) pc = .ok (.isub, 1)) (kk : J X M (pc + 1) ls (vI (iI (a - b)) :: st) h k n Q) : J X M pc ls (vI (iI b) :: vI (iI a) :: st) h k n Q := J_isub d (by rw [iI_sub]; exact kk)
theorem Z_imul (d : decode (mC M) pc = .ok (.imul, 1)) (kk : J X M (pc + 1) ls (vI (iI (a * b)) :: st) h k n Q) : J X M pc ls (vI (iI b) :: vI (iI a) :: st) h k n Q := J_imul d (by rw [iI_mul]; exact kk)
theorem iI_div {a b : Int} (h0 : 0 ≤ a) (ha : rg a) (h1 : 0 < b) (hb : rg b) : iI a / iI b = iI (a / b) := by
  obtain ⟨x, rfl⟩ := Int.eq_ofNat_of_zero_le h0
  obtain ⟨y, rfl⟩ := Int.eq_ofNat_of_zero_le (Int.le_of_lt h1)
  unfold rg at ha hb
  rw [← iI_nI, ← iI_nI, pk_div (by omega) (by omega) (by omega), iI_nI]
  rfl
theorem Z_idiv (h0 : 0 ≤ a) (ha : rg a) (h1 : 0 < b) (hb : rg b) (d : decode (mC M) pc = .ok (.idiv, 1)) (kk : J X M (pc + 1) ls (vI (iI (a / b)) :: st) h k n Q) : J X M pc ls (vI (iI b) :: vI (iI a) :: st) h k n Q := by
  refine J_idiv d (fun e => ?_) (by rw [iI_div h0 ha h1 hb]; exact kk)
  have := (iI_eq0 hb).mp e
  omega
theorem Z_irem (h0 : 0 ≤ a) (ha : rg a) (h1 : 0 < b) (hb : rg b) (d : decode (mC M) pc = .ok (.irem, 1)) (kk : J X M (pc + 1) ls (vI (iI (a % b)) :: st) h k n Q) : J X M pc ls (vI (iI b) :: vI (iI a) :: st) h k n Q := by
  refine J_irem d (fun e => ?_) ?_
  · have := (iI_eq0 hb).mp e
    omega
  · rw [iI_div h0 ha h1 hb, iI_mul, iI_sub, show a - a / b * b = a % b by rw [Int.emod_def, Int.mul_comm]]
    exact kk
theorem Z_iinc {i : Nat} {z : Int} (d : decode (mC M) pc = .ok (.iinc i z, 3)) (hv : ls[i]? = some (some (vI (iI a)))) (hi2 : i < mL M) (kk : J X M (pc + 3) (ls.set i (some (vI (iI (a + z))))) st h k n Q) (hp : nlg ls i = true := by rfl) : J X M pc ls st h k n Q := J_iinc d hv (by rw [← iI_d]; exact iI_add a z) hi2 kk hp
theorem Z_eq {a b : Int} (e : a = b) (kk : J X M pc ls (vI (iI b) :: st) h k n Q) : J X M pc ls (vI (iI a) :: st) h k n Q := e ▸ kk
theorem Z_if_eq {off : Int} {tgt : Nat} (ha : rg a) (d : decode (mC M) pc = .ok (.ifCond .eq off, 3)) (ht : (pc : Int) + off = (tgt : Int)) (kt : a = 0 → J X M tgt ls st h k n Q) (kf : ¬ a = 0 → J X M (pc + 3) ls st h k n Q) : J X M pc ls (vI (iI a) :: st) h k n Q := J_if_eq d ht (fun c => kt ((iI_eq0 ha).mp c)) (fun c => kf (fun e => c ((iI_eq0 ha).mpr e)))
theorem Z_if_ne {off : Int} {tgt : Nat} (ha : rg a) (d : decode (mC M) pc = .ok (.ifCond .ne off, 3)) (ht : (pc : Int) + off = (tgt : Int)) (kt : ¬ a = 0 → J X M tgt ls st h k n Q) (kf : a = 0 → J X M (pc + 3) ls st h k n Q) : J X M pc ls (vI (iI a) :: st) h k n Q := J_if_ne d ht (fun c => kt (fun e => c ((iI_eq0 ha).mpr e))) (fun c => kf ((iI_eq0 ha).mp c))
theorem Z_if_lt {off : Int} {tgt : Nat} (ha : rg a) (d : decode (mC M) pc = .ok (.ifCond .lt off, 3)) (ht : (pc : Int) + off = (tgt : Int)) (kt : a < 0 → J X M tgt ls st h k n Q) (kf : 0 ≤ a → J X M (pc + 3) ls st h k n Q) : J X M pc ls (vI (iI a) :: st) h k n Q := J_if_lt d ht (fun c => kt ((iI_lt0 ha).mp c)) (fun c => kf (Int.not_lt.mp (fun e => c ((iI_lt0 ha).mpr e))))
theorem Z_if_ge {off : Int} {tgt : Nat} (ha : rg a) (d : decode (mC M) pc = .ok (.ifCond .ge off, 3)) (ht : (pc : Int) + off = (tgt : Int)) (kt : 0 ≤ a → J X M tgt ls st h k n Q) (kf : a < 0 → J X M (pc + 3) ls st h k n Q) : J X M pc ls (vI (iI a) :: st) h k n Q := J_if_ge d ht (fun c => kt ((iI_0le ha).mp c)) (fun c => kf (Int.not_le.mp (fun e => c ((iI_0le ha).mpr e))))
theorem Z_if_gt {off : Int} {tgt : Nat} (ha : rg a) (d : decode (mC M) pc = .ok (.ifCond .gt off, 3)) (ht : (pc : Int) + off = (tgt : Int)) (kt : 0 < a → J X M tgt ls st h k n Q) (kf : a ≤ 0 → J X M (pc + 3) ls st h k n Q) : J X M pc ls (vI (iI a) :: st) h k n Q := J_if_gt d ht (fun c => kt ((iI_0lt ha).mp c)) (fun c => kf (Int.not_lt.mp (fun e => c ((iI_0lt ha).mpr e))))
theorem Z_if_le {off : Int} {tgt : Nat} (ha : rg a) (d : decode (mC M) pc = .ok (.ifCond .le off, 3)) (ht : (pc : Int) + off = (tgt : Int)) (kt : a ≤ 0 → J X M tgt ls st h k n Q) (kf : 0 < a → J X M (pc + 3) ls st h k n Q) : J X M pc ls (vI (iI a) :: st) h k n Q := J_if_le d ht (fun c => kt ((iI_le0 ha).mp c)) (fun c => kf (Int.not_le.mp (fun e => c ((iI_le0 ha).mpr e))))
/-- a truth value is asked -/
theorem Z_pf {p : Prop} {off : Int} {tgt : Nat} (d : decode (mC M) pc = .ok (.ifCond .eq off, 3)) (ht : (pc : Int) + off = (tgt : Int)) (kt : ¬ p → J X M tgt ls st h k n Q) (kf : p → J X M (pc + 3) ls st h k n Q) : J X M pc ls (vI (iI (pI p)) :: st) h k n Q :=
  Z_if_eq (pI_rg p) d ht (fun c => kt (fun hp => by rw [pI_t hp] at c; omega)) (fun c => kf (Classical.byContradiction fun hp => c (pI_f hp)))
theorem Z_pt {p : Prop} {off : Int} {tgt : Nat} (d : decode (mC M) pc = .ok (.ifCond .ne off, 3)) (ht : (pc : Int) + off = (tgt : Int)) (kt : p → J X M tgt ls st h k n Q) (kf : ¬ p → J X M (pc + 3) ls st h k n Q) : J X M pc ls (vI (iI (pI p)) :: st) h k n Q :=
  Z_if_ne (pI_rg p) d ht (fun c => kt (Classical.byContradiction fun hp => c (pI_f hp))) (fun c => kf (fun hp => by rw [pI_t hp] at c; omega))
theorem Z_ic_eq {off : Int} {tgt : Nat} (ha : rg a) (hb : rg b) (d : decode (mC M) pc = .ok (.if_icmp .eq off, 3)) (ht : (pc : Int) + off = (tgt : Int)) (kt : a = b → J X M tgt ls st h k n Q) (kf : ¬ a = b → J X M (pc + 3) ls st h k n Q) : J X M pc ls (vI (iI b) :: vI (iI a) :: st) h k n Q := J_ic_eq d ht (fun c => kt ((iI_eq ha hb).mp c)) (fun c => kf (fun e => c ((iI_eq ha hb).mpr e)))
theorem Z_ic_ne {off : Int} {tgt : Nat} (ha : rg a) (hb : rg b) (d : decode (mC M) pc = .ok (.if_icmp .ne off, 3)) (ht : (pc : Int) + off = (tgt : Int)) (kt : ¬ a = b → J X M tgt ls st h k n Q) (kf : a = b → J X M (pc + 3) ls st h k n Q) : J X M pc ls (vI (iI b) :: vI (iI a) :: st) h k n Q := J_ic_ne d ht (fun c => kt (fun e => c ((iI_eq ha hb).mpr e))) (fun c => kf ((iI_eq ha hb).mp c))
theorem Z_ic_lt {off : Int} {tgt : Nat} (ha : rg a) (hb : rg b) (d : decode (mC M) pc = .ok (.if_icmp .lt off, 3)) (ht : (pc : Int) + off = (tgt : Int)) (kt : a < b → J X M tgt ls st h k n Q) (kf : b ≤ a → J X M (pc + 3) ls st h k n Q) : J X M pc ls (vI (iI b) :: vI (iI a) :: st) h k n Q := J_ic_lt d ht (fun c => kt ((iI_lt ha hb).mp c)) (fun c => kf (Int.not_lt.mp (fun e => c ((iI_lt ha hb).mpr e))))
theorem Z_ic_ge {off : Int} {tgt : Nat} (ha : rg a) (hb : rg b) (d : decode (mC M) pc = .ok (.if_icmp .ge off, 3)) (ht : (pc : Int) + off = (tgt : Int)) (kt : b ≤ a → J X M tgt ls st h k n Q) (kf : a < b → J X M (pc + 3) ls st h k n Q) : J X M pc ls (vI (iI b) :: vI (iI a) :: st) h k n Q := J_ic_ge d ht (fun c => kt ((iI_le hb ha).mp c)) (fun c => kf (Int.not_le.mp (fun e => c ((iI_le hb ha).mpr e))))
theorem Z_ic_gt {off : Int} {tgt : Nat} (ha : rg a) (hb : rg b) (d : decode (mC M) pc = .ok (.if_icmp .gt off, 3)) (ht : (pc : Int) + off = (tgt : Int)) (kt : b < a → J X M tgt ls st h k n Q) (kf : a ≤ b → J X M (pc + 3) ls st h k n Q) : J X M pc ls (vI (iI b) :: vI (iI a) :: st) h k n Q := J_ic_gt d ht (fun c => kt ((iI_lt hb ha).mp c)) (fun c => kf (Int.not_lt.mp (fun e => c ((iI_lt hb ha).mpr e))))
theorem Z_ic_le {off : Int} {tgt : Nat} (ha : rg a) (hb : rg b) (d : decode (mC M) pc = .ok (.if_icmp .le off, 3)) (ht : (pc : Int) + off = (tgt : Int)) (kt : a ≤ b → J X M tgt ls st h k n Q) (kf : b < a → J X M (pc + 3) ls st h k n Q) : J X M pc ls (vI (iI b) :: vI (iI a) :: st) h k n Q := J_ic_le d ht (fun c => kt ((iI_le ha hb).mp c)) (fun c => kf (Int.not_le.mp (fun e => c ((iI_le ha hb).mpr e))))
theorem Z_h {h' : LH} (e : h = h') (kk : J X M pc ls st h' k n Q) : J X M pc ls st h k n Q := e ▸ kk
theorem Z_zret {p : Prop} (d : decode (mC M) pc = .ok (.ireturn, 1)) (hT : mT M = some .boolean) (hq : Q (rt (vI (iI (pI p)))) h) : J X M pc ls [vI (iI (pI p))] h k n Q := J_zret d hT (pI_zb p) hq
theorem Z_zret0 (d : decode (mC M) pc = .ok (.ireturn, 1)) (hT : mT M = some .boolean) (hq : Q (rt (vI (iI 0))) h) : J X M pc ls [vI (iI 0)] h k n Q := J_zret d hT (Or.inl iI_0) hq
theorem Z_zret1 (d : decode (mC M) pc = .ok (.ireturn, 1)) (hT : mT M = some .boolean) (hq : Q (rt (vI (iI 1))) h) : J X M pc ls [vI (iI 1)] h k n Q := J_zret d hT (Or.inr iI_1) hq
theorem Z_iald {t : Tg} {N : Nat} {g : Int → Int} (d : decode (mC M) pc = .ok (.iaload, 1)) (hh : h t = some (cI 0 N (arr g))) (hN : N < 2147483648) (h0 : 0 ≤ a) (h1 : a < N) (kk : J X M (pc + 1) ls (vI (iI (g a)) :: st) h k n Q) : J X M pc ls (vI (iI a) :: vR (some t) :: st) h k n Q :=
  J_iald d hh (ix_iI h0 h1 hN) (by rw [arr_at h0]; exact kk)
theorem Z_iast {t : Tg} {N : Nat} {g : Int → Int} {x : Int} (d : decode (mC M) pc = .ok (.iastore, 1)) (hh : h t = some (cI 0 N (arr g))) (hN : N < 2147483648) (h0 : 0 ≤ a) (h1 : a < N) (kk : J X M (pc + 1) ls st (hup h t (cI 0 N (arr (upZ g a x)))) k n Q) : J X M pc ls (vI (iI x) :: vI (iI a) :: vR (some t) :: st) h k n Q :=
  J_iast d hh (ix_iI h0 h1 hN) (by rw [arr_up h0]; exact kk)
theorem Z_aald {t : Tg} {K N : Nat} {f : Nat → Option Tg} (d : decode (mC M) pc = .ok (.aaload, 1)) (hk : K < 7) (hk3 : (aTy K).isReference = true) (hh : h t = some (cQ K N f)) (hN : N < 2147483648) (h0 : 0 ≤ a) (h1 : a < N) (kk : J X M (pc + 1) ls (vR (f a.toNat) :: st) h k n Q) : J X M pc ls (vI (iI a) :: vR (some t) :: st) h k n Q :=
  J_aald d hk hk3 hh (ix_iI h0 h1 hN) kk
end JZ
