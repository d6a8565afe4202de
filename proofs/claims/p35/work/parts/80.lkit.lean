/-! THE LAW'S KIT: calls over a deep stack, longs, bits of longs, the law's rows -/
theorem cat_len (ψ : Tg → Nat) : ∀ st : List LV, st.all c1 = true → ((st.map (ph ψ)).map fun v => v.category).sum = st.length := by
  intro st
  induction st with
  | nil => intro _; rfl
  | cons v st ih =>
    intro hc
    simp only [List.all_cons, Bool.and_eq_true] at hc
    have h1 : (ph ψ v).category = 1 := c1_cat hc.1
    have h2 := ih hc.2
    simp only [List.map_cons, List.sum_cons, List.length_cons]
    omega
section LD
variable {p : Program} {l : Launch} {e : Env} {R : Room} {s : State} {m : MethodId} {args : Array Value} {below : List Frame} {meth : Method} {c : Code} {H : Heap} {locs : List Loc} {cells slots : Nat}
variable {y : MethodName} {bytes cc : ByteArray} {maxL nL mc ms n index : Nat} {ret : Option FieldType} {ws : List Cond} {rm : Room} {Pc : Array Value → State → Prop} {Qc : Array Value → State → Outcome → State → Prop} {free : Addr → Prop} {Ts : List Cond} {own : String} {As rest : List Value} {g : JFrame}
/-- a static call over up to 16 words of the stack -/
theorem ld_run (S : CallFix p m c cc nL s args Ts own) (hM : Met l y ws rm Pc Qc mc ms free) (cw : CallB R s args own index y bytes maxL ret ws rm mc ms n ∧ (Cond.static y).before args s = true) (hlo : 16 + (maxL + 11) + rm.locals ≤ R.locals) (hp : PreS s H Pc As)
    (hg : g.method = m) (hn : As.length = n) (hsize : g.locals.size = nL) (hstack : g.stack = As.reverse ++ rest) (hW : 2 * g.monitorRoom + (rest.map fun v => v.category).sum ≤ 16) (hdg : decode cc g.pc = .ok (.invokestatic index, 3)) (hf : cells + mc ≤ R.cells ∧ slots + ms ≤ R.slots) :
    va_Run p l e R s m args below meth c H locs cells slots mc ms g rest (Qc As.toArray) (free) := by
  obtain ⟨⟨hrc, hrs, hfr, -, hws, hcw, hcode, hini, hy, hlen, hl⟩, hstt⟩ := cw
  have hB : Back l R p e below s args y 3 16 (PreOf R mc ms Pc) (PostOf Qc mc ms free) := back_of (bytes := bytes) (maxL := maxL) (ret := ret) hM hp.1 hrc hrs hfr hlo hws hcw (fun a' U hW => word_at hW (Or.inl (by first | rfl | simp [Cond.onTables, Cond.keeps, Cond.steady])) hini)
  obtain ⟨hx, hb, hml, ho, -⟩ := S
  intro T hT X
  obtain ⟨v, vm₁, ⟨U', l2, c2, s2⟩, hW₁, X', ⟨g', mk, t, L, e1, e2, hq, h1, hL, h2, h3⟩, st⟩ := callS X hx (bytes := bytes) (maxL := maxL) (ret := ret) ho hl hstt hini hcode hy hB hg (hsize.trans hml.symm) (argsL := As) (rest := rest) (fun sig h => hn.trans (hlen sig h)) hstack hW (by rw [hb]; exact hdg) (fun vm₁ hW₁ => ⟨hf.1, hf.2, hp.2 (T.setVm vm₁) hT hW₁⟩)
  dsimp only [Pt.U, Pt.locs, Pt.cells, Pt.slots] at X' e1 e2 h1 h2 h3 st
  subst h1; subst h2; subst h3
  exact ⟨v, (T.setVm vm₁).calling g' mk As.toArray, t, U', L, hT, X', hL, e1, e2, hq, st⟩
end LD
/-- the room of a callee over a deep stack -/
def rmD (M M' : MI) : Prop := (mR M').frames + 1 ≤ (mR M).frames ∧ 16 + (mL M' + 11) + (mR M').locals ≤ (mR M).locals
section JD
variable {X : GX} {M M' : MI} {pc : Nat} {ls : List (Option LV)} {rest st as : List LV} {h : LH} {k n k' n' : Nat} {Q : LO → LH → Prop} {P : Option LV → LH → Prop}
theorem J_callD {idx : Nat} (d : decode (mC M) pc = .ok (.invokestatic idx, 3)) (f : SI (mN M).cls idx M' as.length) (hrm : rmD M M') (hst : st = as.reverse ++ rest) (hlen : rest.length ≤ 16) (hc1 : rest.all c1 = true) (hk : k' + (mR M').cells ≤ k) (hn' : n' + (mR M').slots ≤ n)
    (hc : CT X M' as h (rQ P)) (kk : ∀ v h', P v h' → J X M (pc + 3) ls (v.toList ++ rest) h' k' n' Q) : J X M pc ls st h k n Q := by
  simp only [J_def] at *
  intro p e R s m args below meth c ψ0 h0 F ψ H locs cells slots la hR hE hL hs hl hz hcc hnn
  subst hst
  obtain ⟨f1, f2, f3⟩ := f
  obtain ⟨hG, hws⟩ := KI_good f1
  have hts := F.2.2.2.2.2.2.1
  have hRR := F.2.2.2.2.2.2.2.2.1
  have cb : CallB R s args (mN M).cls idx (mN M') (mC M') (mL M') (mT M') (wsO M') (mR M') (mR M').cells (mR M').slots as.length :=
    callB_of as.length hts hG hws rfl rfl (hts _ f1.2.2.1) (hts _ f2) ⟨f1.2.2.2.1.1, f1.2.2.2.1.2, f1.2.2.2.2⟩ (by rw [hRR]; unfold rmD at hrm; exact ⟨hrm.1, by omega⟩)
  have hrest : ∀ v ∈ rest, Lv h v := fun v hv => hs v (List.mem_append_right _ hv)
  have hargs : ∀ v ∈ as, Lv h v := fun v hv => hs v (List.mem_append_left _ (List.mem_reverse.mpr hv))
  have hr := ld_run (cells := cells) (slots := slots) (locs := locs) (p := p) (l := xl X) (e := e) (below := below) (meth := meth) (As := as.map (ph ψ)) (rest := rest.map (ph ψ)) (g := F0 m pc la ((as.reverse ++ rest).map (ph ψ))) ⟨F.1, F.2.1, F.2.2.1, F.2.2.2.2.2.1, hts⟩ (CT.met hc ψ) ⟨cb, hts _ f3⟩ (by rw [hRR]; exact hrm.2)
    ⟨Pc_blind, fun U hU hW => ⟨rfl, KK.warm hW F.2.2.2.2.2.2.2.1, by rw [hU]; exact hR, hargs⟩⟩ rfl (by rw [List.length_map]) hL.1 (by
      show (as.reverse ++ rest).map (ph ψ) = _
      rw [List.map_append, List.map_reverse]) (by
      have := cat_len ψ rest hc1
      show 2 * 0 + _ ≤ 16
      omega) d (by rw [hRR]; omega)
  exact back_call hr F hE hL hrest hl hz (by omega) (by omega) kk
theorem M_callD {idx : Nat} {r : Option LV} (d : decode (mC M) pc = .ok (.invokestatic idx, 3)) (f : SI (mN M).cls idx M' as.length) (hrm : rmD M M') (hst : st = as.reverse ++ rest) (hlen : rest.length ≤ 16) (hc1 : rest.all c1 = true) (hk : (mR M').cells = 0) (hn : (mR M').slots = 0)
    (hc : CT X M' as h (rQ (fun v h' => v = r ∧ h' = h))) (kk : J X M (pc + 3) ls (r.toList ++ rest) h k n Q) : J X M pc ls st h k n Q := J_callD d f hrm hst hlen hc1 (k' := k) (n' := n) (by omega) (by omega) hc (fun v h' ⟨e1, e2⟩ => by rw [e1, e2]; exact kk)
end JD
/-- longs as integers -/
def lI (z : Int) : Int64 := Int64.ofInt z
theorem lI_i {a : Int} (h : rg a) : (iI a).toInt64 = lI a := by
  apply Int64.toInt_inj.mp
  unfold rg at h
  rw [Int32.toInt_toInt64, iI_val h]
  unfold lI
  rw [Int64.toInt_ofInt_of_le (by simp [Int64.minValue]; omega) (by simp [Int64.maxValue]; omega)]
theorem lI_add (a b : Int) : lI a + lI b = lI (a + b) := (Int64.ofInt_add a b).symm
theorem lI_mul (a b : Int) : lI a * lI b = lI (a * b) := (Int64.ofInt_mul a b).symm
section JL
variable {X : GX} {M : MI} {pc : Nat} {ls : List (Option LV)} {st : List LV} {h : LH} {k n : Nat} {Q : LO → LH → Prop} {a b : Int}
theorem Z_i2l (ha : rg a) (d : decode (mC M) pc = .ok (.i2l, 1)) (kk : J X M (pc + 1) ls (vL (lI a) :: st) h k n Q) : J X M pc ls (vI (iI a) :: st) h k n Q := J_i2l d (by rw [lI_i ha]; exact kk)
theorem Z_ladd (d : decode (mC M) pc = .ok (.ladd, 1)) (kk : J X M (pc + 1) ls (vL (lI (a + b)) :: st) h k n Q) : J X M pc ls (vL (lI b) :: vL (lI a) :: st) h k n Q := J_ladd d (by rw [lI_add]; exact kk)
theorem Z_lmul (d : decode (mC M) pc = .ok (.lmul, 1)) (kk : J X M (pc + 1) ls (vL (lI (a * b)) :: st) h k n Q) : J X M pc ls (vL (lI b) :: vL (lI a) :: st) h k n Q := J_lmul d (by rw [lI_mul]; exact kk)
theorem Z_ldc {idx : Nat} {v : Int32} {z : Int} (d : decode (mC M) pc = .ok (.ldc idx, 2)) (w : Cond.constant (mN M).cls idx v ∈ GW) (e : v = Int32.ofInt z) (kk : J X M (pc + 2) ls (vI (iI z) :: st) h k n Q) : J X M pc ls st h k n Q := J_ldc d w (by rw [e, ← iI_d]; exact kk)
theorem Z_ldc2 {idx : Nat} {v : Int64} {z : Int} (d : decode (mC M) pc = .ok (.ldc2_w idx, 3)) (w : Cond.constantLong (mN M).cls idx v ∈ GW) (e : v = lI z) (kk : J X M (pc + 3) ls (vL (lI z) :: st) h k n Q) : J X M pc ls st h k n Q := J_ldc2 d w (by rw [e]; exact kk)
theorem Z_leq {x y : Int64} (e : x = y) (kk : J X M pc ls (vL y :: st) h k n Q) : J X M pc ls (vL x :: st) h k n Q := e ▸ kk
end JL
/-- the m bits of a long from the place f on, as a number -/
def bt (x : Int64) (f m : Nat) : Int := (((x.toBitVec.toNat >>> f) % 2 ^ m : Nat) : Int)
theorem bt_rg (x : Int64) (f m : Nat) : 0 ≤ bt x f m ∧ bt x f m < ((2 ^ m : Nat) : Int) := by
  unfold bt
  have := Nat.mod_lt (x.toBitVec.toNat >>> f) (Nat.two_pow_pos m)
  omega
theorem bt_ext {x y : Int64} {f g m : Nat} (h : ∀ i, i < m → x.toBitVec.getLsbD (f + i) = y.toBitVec.getLsbD (g + i)) : bt x f m = bt y g m := by
  unfold bt
  congr 1
  apply Nat.eq_of_testBit_eq
  intro i
  rw [Nat.testBit_mod_two_pow, Nat.testBit_mod_two_pow, Nat.testBit_shiftRight, Nat.testBit_shiftRight]
  by_cases hi : i < m
  · have := h i hi
    unfold BitVec.getLsbD at this
    rw [this]
  · simp [hi]
theorem sh64 : ∀ s : Fin 64, (Int32.ofInt (s : Nat)).toInt64.toUInt64 &&& Int64.toUInt64 63 = UInt64.ofNat s := by decide +kernel
theorem sh64' : ∀ s : Fin 64, (Int32.ofInt (s : Nat)).toInt64 &&& 63 = Int64.ofNat s := by decide +kernel
theorem mk_m {m : Int} (hm : 1 ≤ m ∧ m ≤ 4) : iI 1 <<< (iI m &&& 31) - iI 1 = Int32.ofBitVec (BitVec.ofNat 32 (2 ^ m.toNat - 1)) := by
  rw [iI_d, iI_d]
  have : m = 1 ∨ m = 2 ∨ m = 3 ∨ m = 4 := by omega
  rcases this with rfl | rfl | rfl | rfl <;> decide +kernel
theorem bits_eq {x : Int64} {s m : Int} (hs : 0 ≤ s ∧ s < 64) (hm : 1 ≤ m ∧ m ≤ 4) : ((x.toUInt64 >>> ((iI s).toInt64.toUInt64 &&& Int64.toUInt64 63)).toInt64).toInt32 &&& (iI 1 <<< (iI m &&& 31) - iI 1) = iI (bt x s.toNat m.toNat) := by
  obtain ⟨s, rfl⟩ := Int.eq_ofNat_of_zero_le hs.1
  have hs2 : s < 64 := by omega
  have e1 : (iI (s : Int)).toInt64.toUInt64 &&& Int64.toUInt64 63 = UInt64.ofNat s := by rw [iI_d]; exact sh64 ⟨s, hs2⟩
  rw [e1, mk_m hm, iI_d]
  apply Int32.toBitVec_inj.mp
  apply BitVec.eq_of_toNat_eq
  have e2 : (UInt64.ofNat s).toBitVec.toNat % 64 = s := by
    have : (UInt64.ofNat s).toBitVec.toNat = s := by
      show (BitVec.ofNat 64 s).toNat = s
      rw [BitVec.toNat_ofNat]
      omega
    omega
  have e3 : ((x.toUInt64 >>> UInt64.ofNat s).toInt64.toInt32).toBitVec.toNat = (x.toBitVec.toNat >>> s) % 2 ^ 32 := by
    have e9 : ∀ Y : BitVec 64, (Y.signExtend 32).toNat = Y.toNat % 2 ^ 32 := by
      intro Y
      show (BitVec.ofInt 32 Y.toInt).toNat = _
      rw [BitVec.toNat_ofInt, BitVec.toInt_eq_toNat_cond]
      have := Y.isLt
      split <;> omega
    show (BitVec.signExtend 32 (x.toUInt64 >>> UInt64.ofNat s).toBitVec).toNat = _
    rw [e9, UInt64.toBitVec_shiftRight]
    have e4 : (x.toUInt64.toBitVec >>> ((UInt64.ofNat s).toBitVec % 64)).toNat = x.toBitVec.toNat >>> s := by
      show (x.toUInt64.toBitVec >>> ((UInt64.ofNat s).toBitVec % 64).toNat).toNat = _
      rw [BitVec.toNat_ushiftRight, BitVec.toNat_umod]
      show x.toBitVec.toNat >>> ((UInt64.ofNat s).toBitVec.toNat % 64) = _
      rw [e2]
    rw [e4]
  rw [Int32.toBitVec_and, BitVec.toNat_and, e3]
  unfold bt
  rw [show ((s : Int)).toNat = s from rfl]
  generalize x.toBitVec.toNat >>> s = N
  have : m = 1 ∨ m = 2 ∨ m = 3 ∨ m = 4 := by omega
  have e5 : ∀ z : Nat, z < 16 → (Int32.ofInt (z : Int)).toBitVec.toNat = z := by
    intro z hz
    show (BitVec.ofInt 32 z).toNat = z
    rw [BitVec.toNat_ofInt]
    omega
  have em : ∀ j : Nat, 1 ≤ j → j ≤ 4 → N % 2 ^ 32 &&& (Int32.ofBitVec (BitVec.ofNat 32 (2 ^ j - 1))).toBitVec.toNat = N % 2 ^ j := by
    intro j h1 h2
    have h3 : (Int32.ofBitVec (BitVec.ofNat 32 (2 ^ j - 1))).toBitVec.toNat = 2 ^ j - 1 := by
      show (BitVec.ofNat 32 (2 ^ j - 1)).toNat = _
      have : j = 1 ∨ j = 2 ∨ j = 3 ∨ j = 4 := by omega
      rcases this with rfl | rfl | rfl | rfl <;> rfl
    rw [h3, Nat.and_two_pow_sub_one_eq_mod, Nat.mod_mod_of_dvd]
    exact Nat.pow_dvd_pow 2 (by omega)
  rcases this with rfl | rfl | rfl | rfl
  · rw [show (1 : Int).toNat = 1 from rfl, em 1 (by omega) (by omega)]; exact (e5 (N % 2 ^ 1) (by have := Nat.mod_lt N (show 0 < 2 ^ 1 by decide); omega)).symm
  · rw [show (2 : Int).toNat = 2 from rfl, em 2 (by omega) (by omega)]; exact (e5 (N % 2 ^ 2) (by have := Nat.mod_lt N (show 0 < 2 ^ 2 by decide); omega)).symm
  · rw [show (3 : Int).toNat = 3 from rfl, em 3 (by omega) (by omega)]; exact (e5 (N % 2 ^ 3) (by have := Nat.mod_lt N (show 0 < 2 ^ 3 by decide); omega)).symm
  · rw [show (4 : Int).toNat = 4 from rfl, em 4 (by omega) (by omega)]; exact (e5 (N % 2 ^ 4) (by have := Nat.mod_lt N (show 0 < 2 ^ 4 by decide); omega)).symm
/-- n bits are written at the place S -/
noncomputable def pt (x : Int64) (S : Int) (mk a : Int) : Int64 := (x &&& ((lI mk <<< ((iI S).toInt64 &&& 63)) ^^^ lI (-1))) ||| (lI a <<< ((iI S).toInt64 &&& 63))
theorem pt_bit {x : Int64} {S n : Nat} {A : Nat} (hS : S + n ≤ 64) (hS2 : S < 64) (hn : n ≤ 16) (hA : A < 2 ^ n) {i : Nat} (hi : i < 64) : (pt x S ((2 ^ n - 1 : Nat) : Int) A).toBitVec.getLsbD i = if S ≤ i ∧ i < S + n then A.testBit (i - S) else x.toBitVec.getLsbD i := by
  have e1 : (iI (S : Int)).toInt64 &&& 63 = Int64.ofNat S := by rw [iI_d]; exact sh64' ⟨S, hS2⟩
  have e2 : ((Int64.ofNat S).toBitVec.smod 64).toNat = S := by
    have h1 : ∀ s : Fin 64, ((Int64.ofNat s).toBitVec.smod 64).toNat = s := by decide +kernel
    exact h1 ⟨S, hS2⟩
  have e3 : ∀ z : Nat, z < 65536 → (lI (z : Int)).toBitVec = BitVec.ofNat 64 z := by
    intro z hz
    show BitVec.ofInt 64 z = _
    exact BitVec.ofInt_natCast 64 z
  have hp : (2 : Nat) ^ n ≤ 65536 := Nat.pow_le_pow_right (by decide) hn
  have hpp := Nat.two_pow_pos n
  have e4 : (lI (-1)).toBitVec = BitVec.allOnes 64 := by decide +kernel
  unfold pt
  rw [e1, Int64.toBitVec_or, Int64.toBitVec_and, Int64.toBitVec_xor, Int64.toBitVec_shiftLeft, Int64.toBitVec_shiftLeft, e4, e3 _ (by omega), e3 _ (by omega)]
  rw [BitVec.shiftLeft_eq', BitVec.shiftLeft_eq', e2]
  rw [BitVec.getLsbD_or, BitVec.getLsbD_and, BitVec.getLsbD_xor, BitVec.getLsbD_shiftLeft, BitVec.getLsbD_shiftLeft, BitVec.getLsbD_allOnes, BitVec.getLsbD_ofNat, BitVec.getLsbD_ofNat, Nat.testBit_two_pow_sub_one]
  by_cases h1 : S ≤ i
  · have h3 : decide (i < S) = false := decide_eq_false (by omega)
    rw [h3]
    by_cases h2 : i < S + n
    · have h4 : decide (i - S < n) = true := decide_eq_true (by omega)
      have h5 : decide (i - S < 64) = true := decide_eq_true (by omega)
      have h6 : decide (i < 64) = true := decide_eq_true hi
      rw [if_pos ⟨h1, h2⟩, h4, h5, h6]
      simp
    · have h4 : decide (i - S < n) = false := decide_eq_false (by omega)
      have h6 : decide (i < 64) = true := decide_eq_true hi
      have h7 : A.testBit (i - S) = false := Nat.testBit_lt_two_pow (Nat.lt_of_lt_of_le hA (Nat.pow_le_pow_right (by decide) (by omega)))
      rw [if_neg (fun z => h2 z.2), h4, h6, h7]
      simp
  · have h3 : decide (i < S) = true := decide_eq_true (by omega)
    have h6 : decide (i < 64) = true := decide_eq_true hi
    rw [if_neg (fun z => h1 z.1), h3, h6]
    simp
/-- bits that are apart from what was written stay -/
theorem pt_ot {x : Int64} {S n A f m : Nat} (hS : S + n ≤ 64) (hS2 : S < 64) (hn : n ≤ 16) (hA : A < 2 ^ n) (hf : f + m ≤ 64) (hd : f + m ≤ S ∨ S + n ≤ f) : bt (pt x S ((2 ^ n - 1 : Nat) : Int) A) f m = bt x f m := by
  apply bt_ext
  intro i hi
  rw [pt_bit hS hS2 hn hA (by omega), if_neg (by omega)]
/-- what was written is read -/
theorem pt_in {x : Int64} {S n A f m : Nat} (hS : S + n ≤ 64) (hS2 : S < 64) (hn : n ≤ 16) (hA : A < 2 ^ n) (hf : f + m ≤ n) : bt (pt x S ((2 ^ n - 1 : Nat) : Int) A) (S + f) m = ((A / 2 ^ f % 2 ^ m : Nat) : Int) := by
  unfold bt
  congr 1
  apply Nat.eq_of_testBit_eq
  intro i
  rw [Nat.testBit_mod_two_pow, Nat.testBit_mod_two_pow, Nat.testBit_shiftRight, ← Nat.shiftRight_eq_div_pow, Nat.testBit_shiftRight]
  by_cases hi : i < m
  · have h1 := pt_bit (x := x) hS hS2 hn hA (i := S + f + i) (by omega)
    unfold BitVec.getLsbD at h1
    rw [h1, if_pos (by omega), show S + f + i - S = f + i by omega]
  · simp [hi]
/-- a row of longs -/
def arL (π : Int → Int64) : Nat → Int64 := fun j => π (j : Int)
def upL (π : Int → Int64) (i : Int) (x : Int64) : Int → Int64 := fun z => if z = i then x else π z
theorem arL_up {π : Int → Int64} {i : Int} {x : Int64} (h : 0 ≤ i) : vp_updL (arL π) i.toNat x = arL (upL π i x) := by
  funext j
  unfold vp_updL arL upL
  by_cases e : (j : Int) = i
  · rw [if_pos (by omega), if_pos e]
  · rw [if_neg (by omega), if_neg e]
theorem arL_at {π : Int → Int64} {i : Int} (h : 0 ≤ i) : arL π i.toNat = π i := by
  unfold arL
  rw [show ((i.toNat : Nat) : Int) = i by omega]
theorem arL_0 : (fun _ : Nat => (0 : Int64)) = arL (fun _ => 0) := rfl
/-- the law's rows: 30 the weapons, 31 the longs, 32 how many phrases, 33 appeals used, 34 codes, 35 times, 36 winners of nodes, 37 numbers -/
def lnN : Nat → Nat := fun k => match k with
  | 30 => 32
  | 32 => 9
  | 33 => 18
  | 34 => 8
  | 35 => 8
  | 36 => 8
  | 37 => 10
  | _ => 0
noncomputable def HL (σ : TS) (π : Int → Int64) (g : LH) : LH := fun t => if t = (31, 0) then some (cL 2 27 (arL π)) else if t.2 = 0 ∧ lnN t.1 ≠ 0 then some (cI 0 (lnN t.1) (arr (σ t.1))) else g t
noncomputable def HW (g : LH) (σ : TS) (π : Int → Int64) (ρ : TS) : LH := hk (HL σ π g) ρ
theorem lnN_20 {k : Nat} (h : lnN k ≠ 0) : 30 ≤ k := by
  unfold lnN at h
  split at h <;> first | omega | exact absurd rfl h
theorem lnN_31 {k : Nat} (h : lnN k ≠ 0) : k ≠ 31 := by
  intro e
  rw [e] at h
  exact h rfl
theorem HW_at {g : LH} {σ : TS} {π : Int → Int64} {ρ : TS} {k N : Nat} (h0 : lnN k ≠ 0) (hN : lnN k = N) : HW g σ π ρ (k, 0) = some (cI 0 N (arr (σ k))) := by
  have h1 := lnN_20 h0
  have h2 := lnN_31 h0
  unfold HW hk HL
  rw [if_neg (by show ¬ (1 ≤ k ∧ k ≤ 19); omega), if_neg (fun e => h2 (congrArg Prod.fst e)), if_pos ⟨rfl, h0⟩, ← hN]
theorem lw30 {g : LH} {σ : TS} {π : Int → Int64} {ρ : TS} : HW g σ π ρ (30, 0) = some (cI 0 32 (arr (σ 30))) := HW_at (by decide) rfl
theorem lw32 {g : LH} {σ : TS} {π : Int → Int64} {ρ : TS} : HW g σ π ρ (32, 0) = some (cI 0 9 (arr (σ 32))) := HW_at (by decide) rfl
theorem lw33 {g : LH} {σ : TS} {π : Int → Int64} {ρ : TS} : HW g σ π ρ (33, 0) = some (cI 0 18 (arr (σ 33))) := HW_at (by decide) rfl
theorem lw34 {g : LH} {σ : TS} {π : Int → Int64} {ρ : TS} : HW g σ π ρ (34, 0) = some (cI 0 8 (arr (σ 34))) := HW_at (by decide) rfl
theorem lw35 {g : LH} {σ : TS} {π : Int → Int64} {ρ : TS} : HW g σ π ρ (35, 0) = some (cI 0 8 (arr (σ 35))) := HW_at (by decide) rfl
theorem lw36 {g : LH} {σ : TS} {π : Int → Int64} {ρ : TS} : HW g σ π ρ (36, 0) = some (cI 0 8 (arr (σ 36))) := HW_at (by decide) rfl
theorem lw37 {g : LH} {σ : TS} {π : Int → Int64} {ρ : TS} : HW g σ π ρ (37, 0) = some (cI 0 10 (arr (σ 37))) := HW_at (by decide) rfl
theorem lw31 {g : LH} {σ : TS} {π : Int → Int64} {ρ : TS} : HW g σ π ρ (31, 0) = some (cL 2 27 (arL π)) := by
  unfold HW hk HL
  rw [if_neg (by decide), if_pos rfl]
theorem lw1 {g : LH} {σ : TS} {π : Int → Int64} {ρ : TS} : HW g σ π ρ (1, 0) = some (cO 7 [vI (iI (ρ 0 0)), vR (some (2, 0)), vI (iI (ρ 1 0)), vR (some (3, 0)), vI (iI (ρ 2 0)), vR (some (4, 0)), vI (iI (ρ 3 0)), vR (some (5, 0)), vR (some (6, 0)), vR (some (15, 82))]) := hk_1 (show CE ρ 1 0 from rfl)
theorem hk_up {h : LH} {ρ : TS} {t : Tg} {c : LC} (ht : 20 ≤ t.1) : hup (hk h ρ) t c = hk (hup h t c) ρ := by
  funext u
  by_cases e : u = t
  · subst e
    rw [hup_s]
    unfold hk
    rw [if_neg (by omega), hup_s]
  · rw [hup_n e]
    unfold hk
    rw [hup_n e]
theorem HW_up {g : LH} {σ : TS} {π : Int → Int64} {ρ : TS} {k : Nat} {i x : Int} (h0 : lnN k ≠ 0) : hup (HW g σ π ρ) (k, 0) (cI 0 (lnN k) (arr (upZ (σ k) i x))) = HW g (ts σ k i x) π ρ := by
  have h1 := lnN_20 h0
  have h2 := lnN_31 h0
  unfold HW
  rw [hk_up (by show 20 ≤ k; omega)]
  congr 1
  funext u
  by_cases e : u = (k, 0)
  · rw [e, hup_s]
    unfold HL
    rw [if_neg (fun e => h2 (congrArg Prod.fst e)), if_pos ⟨rfl, h0⟩, ts_s]
  · rw [hup_n e]
    unfold HL
    by_cases e1 : u = (31, 0)
    · rw [if_pos e1, if_pos e1]
    · rw [if_neg e1, if_neg e1]
      by_cases e2 : u.2 = 0 ∧ lnN u.1 ≠ 0
      · rw [if_pos e2, if_pos e2, ts_n (fun z => e (Prod.ext z e2.1))]
      · rw [if_neg e2, if_neg e2]
theorem HW_upL {g : LH} {σ : TS} {π : Int → Int64} {ρ : TS} {i : Int} {x : Int64} (hi : 0 ≤ i) : hup (HW g σ π ρ) (31, 0) (cL 2 27 (vp_updL (arL π) i.toNat x)) = HW g σ (upL π i x) ρ := by
  unfold HW
  rw [hk_up (by decide), arL_up hi]
  congr 1
  funext u
  by_cases e : u = (31, 0)
  · rw [e, hup_s]
    unfold HL
    rw [if_pos rfl]
  · rw [hup_n e]
    unfold HL
    rw [if_neg e, if_neg e]
/-- what is new besides the law's rows lies at (38, _) -/
theorem HW_38 {g : LH} {σ : TS} {π : Int → Int64} {ρ : TS} {j : Int} : HW g σ π ρ (38, j) = g (38, j) := by
  unfold HW hk HL
  rw [if_neg (show ¬ (1 ≤ 38 ∧ 38 ≤ 19) by decide), if_neg (fun e => absurd (congrArg Prod.fst e) (show ¬ (38 : Nat) = 31 by decide)), if_neg (fun e => e.2 rfl)]
theorem HW_up38 {g : LH} {σ : TS} {π : Int → Int64} {ρ : TS} {j : Int} {c : LC} : hup (HW g σ π ρ) (38, j) c = HW (hup g (38, j) c) σ π ρ := by
  unfold HW
  rw [hk_up (show 20 ≤ 38 by decide)]
  congr 1
  funext u
  by_cases e : u = (38, j)
  · rw [e, hup_s]
    unfold HL
    rw [if_neg (fun e => absurd (congrArg Prod.fst e) (show ¬ (38 : Nat) = 31 by decide)), if_neg (fun e => e.2 rfl), hup_s]
  · rw [hup_n e]
    unfold HL
    rw [hup_n e]
/-- there is room at (38, _) -/
def GF (g : LH) : Prop := ∃ k : Int, ∀ j, k ≤ j → g (38, j) = none
section JH
variable {X : GX} {M : MI} {pc : Nat} {ls : List (Option LV)} {st : List LV} {g : LH} {σ ρ : TS} {π : Int → Int64} {k n : Nat} {Q : LO → LH → Prop} {a x : Int}
theorem L_iald {kf N : Nat} (d : decode (mC M) pc = .ok (.iaload, 1)) (h0 : lnN kf ≠ 0) (hN : lnN kf = N) (hN2 : N < 2147483648) (ha0 : 0 ≤ a) (ha1 : a < N) (kk : J X M (pc + 1) ls (vI (iI (σ kf a)) :: st) (HW g σ π ρ) k n Q) : J X M pc ls (vI (iI a) :: vR (some (kf, 0)) :: st) (HW g σ π ρ) k n Q := Z_iald d (HW_at h0 hN) hN2 ha0 ha1 kk
theorem L_iast {kf N : Nat} (d : decode (mC M) pc = .ok (.iastore, 1)) (h0 : lnN kf ≠ 0) (hN : lnN kf = N) (hN2 : N < 2147483648) (ha0 : 0 ≤ a) (ha1 : a < N) (kk : J X M (pc + 1) ls st (HW g (ts σ kf a x) π ρ) k n Q) : J X M pc ls (vI (iI x) :: vI (iI a) :: vR (some (kf, 0)) :: st) (HW g σ π ρ) k n Q := Z_iast d (HW_at h0 hN) hN2 ha0 ha1 (by rw [← hN, HW_up h0]; exact kk)
theorem L_lald (d : decode (mC M) pc = .ok (.laload, 1)) (ha0 : 0 ≤ a) (ha1 : a < 27) (kk : J X M (pc + 1) ls (vL (π a) :: st) (HW g σ π ρ) k n Q) : J X M pc ls (vI (iI a) :: vR (some (31, 0)) :: st) (HW g σ π ρ) k n Q := J_lald d lw31 (ix_iI ha0 (by omega) (by decide)) (by rw [arL_at ha0]; exact kk)
theorem L_last {v : Int64} (d : decode (mC M) pc = .ok (.lastore, 1)) (ha0 : 0 ≤ a) (ha1 : a < 27) (kk : J X M (pc + 1) ls st (HW g σ (upL π a v) ρ) k n Q) : J X M pc ls (vL v :: vI (iI a) :: vR (some (31, 0)) :: st) (HW g σ π ρ) k n Q := J_last d lw31 (ix_iI ha0 (by omega) (by decide)) (by rw [HW_upL ha0]; exact kk)
end JH
