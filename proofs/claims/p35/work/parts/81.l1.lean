/-! THE LAW: its methods that read alone -/
noncomputable def sx (X : GX) (i : Int) : Int := (xs X i.toNat).toInt
theorem Z_sld {X : GX} {M : MI} {pc : Nat} {ls : List (Option LV)} {st : List LV} {h : LH} {k n : Nat} {Q : LO → LH → Prop} {i : Int} (d : decode (mC M) pc = .ok (.iaload, 1)) (hL : xL X ≤ 260) (h0 : 0 ≤ i) (h1 : i < xL X) (kk : J X M (pc + 1) ls (vI (iI (sx X i)) :: st) h k n Q) : J X M pc ls (vI (iI i) :: vR (some tScr) :: st) h k n Q := by
  refine J_sld d (ix_iI h0 h1 (by omega)) ?_
  unfold sx at kk
  rw [iI_toInt] at kk
  exact kk
theorem Z_slen {X : GX} {M : MI} {pc : Nat} {ls : List (Option LV)} {st : List LV} {h : LH} {k n : Nat} {Q : LO → LH → Prop} (d : decode (mC M) pc = .ok (.arraylength, 1)) (kk : J X M (pc + 1) ls (vI (iI (xL X)) :: st) h k n Q) : J X M pc ls (vR (some tScr) :: st) h k n Q := by
  refine J_slen d ?_
  rw [← iI_nI] at kk
  exact kk
theorem sx_rg {X : GX} {i : Int} : rg (sx X i) := by
  have h1 := Int32.le_toInt (xs X i.toNat)
  have h2 := Int32.toInt_lt (xs X i.toNat)
  unfold rg sx
  omega
theorem and_pos (x : Int32) : ∃ z : Int, x &&& iI 2147483647 = iI z ∧ 0 ≤ z ∧ z ≤ 2147483647 := by
  have e : iI 2147483647 = 2147483647 := by rw [iI_d]; rfl
  rw [e]
  have h1 : (x &&& 2147483647).toBitVec.toNat ≤ 2147483647 := by
    rw [Int32.toBitVec_and, BitVec.toNat_and]
    exact Nat.and_le_right
  have h2 : (x &&& 2147483647).toInt = ((x &&& 2147483647).toBitVec.toNat : Int) := BitVec.toInt_eq_toNat_of_lt (by omega)
  exact ⟨(x &&& 2147483647).toInt, (iI_toInt _).symm, by omega, by omega⟩
theorem mand_1 {a : Int} (h : 0 ≤ a ∧ a ≤ 3) : mand a 1 = a % 2 := by
  have : a = 0 ∨ a = 1 ∨ a = 2 ∨ a = 3 := by omega
  rcases this with rfl | rfl | rfl | rfl <;> decide
theorem mand_3 {a : Int} (h : 0 ≤ a ∧ a ≤ 3) : mand a 3 = a := by
  have : a = 0 ∨ a = 1 ∨ a = 2 ∨ a = 3 := by omega
  rcases this with rfl | rfl | rfl | rfl <;> decide
def lb (π : Int → Int64) (b j f m : Int) : Int := bt (π (3 * b + j / 4)) (16 * (j % 4) + f).toNat m.toNat
theorem lb2 {π : Int → Int64} {b j f : Int} : 0 ≤ lb π b j f 2 ∧ lb π b j f 2 ≤ 3 := by
  have h := bt_rg (π (3 * b + j / 4)) (16 * (j % 4) + f).toNat 2
  unfold lb
  have e : (2 : Int).toNat = 2 := rfl
  have e2 : ((2 ^ 2 : Nat) : Int) = 4 := rfl
  rw [e]
  rw [e2] at h
  omega
theorem lb4 {π : Int → Int64} {b j f : Int} : 0 ≤ lb π b j f 4 ∧ lb π b j f 4 ≤ 15 := by
  have h := bt_rg (π (3 * b + j / 4)) (16 * (j % 4) + f).toNat 4
  unfold lb
  have e : (4 : Int).toNat = 4 := rfl
  have e2 : ((2 ^ 4 : Nat) : Int) = 16 := rfl
  rw [e]
  rw [e2] at h
  omega
abbrev lst (w : Int → Int) (i b : Int) : Prop := w (2 * i + 1) = 3 ∨ (¬ b < 6 ∧ w (2 * i + 1) = 2)
def lt0 (π : Int → Int64) (b j : Int) : Int := lb π b j (8 + 2 * lb π b j 14 2) 2
def lt1 (w : Int → Int) (π : Int → Int64) (b j : Int) : Int := if lst w (lb π b j 0 4) b then mand (lt0 π b j) 2 else lt0 π b j
/-- the touches of a phrase that are not struck, by the law -/
def ltch (w : Int → Int) (π : Int → Int64) (b j : Int) : Int := if lst w (lb π b j 4 4) b then mand (lt1 w π b j) 1 else lt1 w π b j
theorem lt1_rg {w : Int → Int} {π : Int → Int64} {b j : Int} : 0 ≤ lt1 w π b j ∧ lt1 w π b j ≤ 3 := by
  unfold lt1
  have h0 : 0 ≤ lt0 π b j ∧ lt0 π b j ≤ 3 := lb2
  have h1 := mand_rg (a := lt0 π b j) (b := 2)
  split
  · have e : ((2 : Int).toNat : Int) = 2 := rfl
    omega
  · exact h0
theorem ltch_rg {w : Int → Int} {π : Int → Int64} {b j : Int} : 0 ≤ ltch w π b j ∧ ltch w π b j ≤ 3 := by
  unfold ltch
  have h0 := lt1_rg (w := w) (π := π) (b := b) (j := j)
  have h1 := mand_rg (a := lt1 w π b j) (b := 1)
  split
  · have e : ((1 : Int).toNat : Int) = 1 := rfl
    omega
  · exact h0
def lgl (b : Int) : Int := if b < 6 then 3 else 5
/-- the scores of a bout, and who has won, by the law -/
def lte (w : Int → Int) (π : Int → Int64) (e : Int → Int) (b : Int) : Int × Int × Int :=
  let z := tlF (lgl b) (ltch w π b) (e b).toNat
  (z.1, z.2.1, if z.2.2 = -1 ∧ e b = 12 then (if z.1 < z.2.1 then 1 else 0) else z.2.2)
theorem tl_g {g : Int} {T : Int → Int} (hg : 0 < g) (hT : ∀ i, 0 ≤ T i ∧ T i ≤ 3) : ∀ i : Nat, (0 ≤ (tlF g T i).1 ∧ (tlF g T i).1 ≤ g) ∧ (0 ≤ (tlF g T i).2.1 ∧ (tlF g T i).2.1 ≤ g) ∧ (tlF g T i).2.2 = twon g (tlF g T i).1 (tlF g T i).2.1
  | 0 => by
    refine ⟨⟨Int.le_refl _, Int.le_of_lt hg⟩, ⟨Int.le_refl _, Int.le_of_lt hg⟩, ?_⟩
    show (-1 : Int) = twon g 0 0
    unfold twon
    rw [if_neg (by omega), if_neg (by omega)]
  | i + 1 => by
    have ih := tl_g hg hT i
    have h1 := hT i
    have h2 := mand1 (a := T i)
    unfold tlF
    generalize tlF g T i = s at ih ⊢
    split
    · rename_i hw
      rw [hw] at ih
      have h4 : ¬ s.1 = g ∧ ¬ s.2.1 = g := by
        have h5 := ih.2.2
        unfold twon at h5
        split at h5
        · omega
        · split at h5 <;> omega
      refine ⟨?_, ?_, rfl⟩
      · show 0 ≤ (tadd g (T i) s).1 ∧ (tadd g (T i) s).1 ≤ g
        unfold tadd
        split
        · show 0 ≤ s.1 + mand (T i) 1 ∧ s.1 + mand (T i) 1 ≤ g; omega
        · show 0 ≤ s.1 ∧ s.1 ≤ g; omega
      · show 0 ≤ (tadd g (T i) s).2 ∧ (tadd g (T i) s).2 ≤ g
        unfold tadd
        split
        · show 0 ≤ s.2.1 + T i / 2 ∧ s.2.1 + T i / 2 ≤ g; omega
        · show 0 ≤ s.2.1 ∧ s.2.1 ≤ g; omega
    · exact ih
theorem lgl_35 {b : Int} : lgl b = 3 ∨ lgl b = 5 := by
  unfold lgl
  split
  · exact Or.inl rfl
  · exact Or.inr rfl
theorem lte_rg {w : Int → Int} {π : Int → Int64} {e : Int → Int} {b : Int} : (0 ≤ (lte w π e b).1 ∧ (lte w π e b).1 ≤ 5) ∧ (0 ≤ (lte w π e b).2.1 ∧ (lte w π e b).2.1 ≤ 5) ∧ -1 ≤ (lte w π e b).2.2 ∧ (lte w π e b).2.2 ≤ 1 := by
  have hg := lgl_35 (b := b)
  have h := tl_g (g := lgl b) (T := ltch w π b) (by omega) (fun i => ltch_rg) (e b).toNat
  have h2 := tlF_rg (g := lgl b) (T := ltch w π b) (fun i => ltch_rg) (e b).toNat
  unfold lte
  simp only []
  generalize tlF (lgl b) (ltch w π b) (e b).toNat = z at h h2 ⊢
  refine ⟨by omega, by omega, ?_⟩
  split
  · split <;> omega
  · omega
/-- the law's answer: 100 times who has won, 10 times one score and the other one -/
def ltold (w : Int → Int) (π : Int → Int64) (e : Int → Int) (b : Int) : Int := 100 * ((lte w π e b).2.2 + 1) + 10 * (lte w π e b).1 + (lte w π e b).2.1
theorem ltold_rg {w : Int → Int} {π : Int → Int64} {e : Int → Int} {b : Int} : 0 ≤ ltold w π e b ∧ ltold w π e b ≤ 255 := by
  have h := lte_rg (w := w) (π := π) (e := e) (b := b)
  unfold ltold
  omega
def lfen (x : Int → Int) (b s : Int) : Int := if 5 < b then x (2 * (b - 5) + s) else if s = 0 then (if b < 3 then 0 else if b < 5 then 1 else 2) else (if b < 3 then b + 1 else if b < 5 then b - 1 else 3)
theorem lfen_rg {x : Int → Int} {b s : Int} (Bx : ∀ z, -1 ≤ x z ∧ x z ≤ 3) (hb : 0 ≤ b) : -1 ≤ lfen x b s ∧ lfen x b s ≤ 3 := by
  have := Bx (2 * (b - 5) + s)
  unfold lfen
  split
  · exact this
  · split
    · split
      · omega
      · split <;> omega
    · split
      · omega
      · split <;> omega
def lwin (w : Int → Int) (π : Int → Int64) (e x : Int → Int) (b : Int) : Int := if (lte w π e b).2.2 = -1 then -1 else lfen x b (lte w π e b).2.2
theorem lwin_rg {w : Int → Int} {π : Int → Int64} {e x : Int → Int} {b : Int} (Bx : ∀ z, -1 ≤ x z ∧ x z ≤ 3) (hb : 0 ≤ b) : -1 ≤ lwin w π e x b ∧ lwin w π e x b ≤ 3 := by
  unfold lwin
  split
  · omega
  · exact lfen_rg Bx hb
def num (b : Int) : Int := if b < 6 then b else 95 + b
set_option maxRecDepth 100000 in
set_option maxHeartbeats 4000000 in
theorem rL_from {X : GX} {h : LH} {k b : Int} (hL : xL X ≤ 260) (hk : 0 ≤ k ∧ k ≤ 2000) (hb : 0 < b ∧ b ≤ 10000000) : CT X mL_from [vR (some tScr), vI (iI k), vI (iI b)] h (rQ (fun v h' => (∃ z, v = some (vI (iI z)) ∧ 0 ≤ z ∧ z < b) ∧ h' = h)) := by
  have hj28 : ∀ x : Int32, J X mL_from 28 [some (vR (some tScr)), some (vI (iI k)), some (vI (iI b)), none] [vI x] h 0 0 (rQ (fun v h' => (∃ z, v = some (vI (iI z)) ∧ 0 ≤ z ∧ z < b) ∧ h' = h)) := by
    intro x
    refine J_istore_n (M := mL_from) dL_from_28 rfl (by decide) ?_
    refine J_iload_n (M := mL_from) dL_from_29 rfl rfl ?_
    refine Z_ldc (M := mL_from) (z := 2147483647) dL_from_30 kc_8 rfl ?_
    refine J_iand (M := mL_from) dL_from_32 ?_
    obtain ⟨z, hz, hz0, hz1⟩ := and_pos x
    refine J_eq (M := mL_from) hz ?_
    refine J_iload_n (M := mL_from) dL_from_33 rfl rfl ?_
    refine Z_irem (M := mL_from) (by omega) (by unfold rg; omega) (by omega) (by unfold rg; omega) dL_from_34 ?_
    refine J_iret (M := mL_from) dL_from_35 rfl ?_
    exact And.intro ⟨_, rfl, by first | omega | exact Int.emod_nonneg _ (by omega), by first | omega | exact Int.emod_lt_of_pos _ (by omega)⟩ rfl
  refine CT_of (by decide +kernel) rfl (Nat.le_of_ble_eq_true rfl) ?_
  refine J_aload_n (M := mL_from) dL_from_0 rfl rfl ?_
  refine Z_slen (M := mL_from) dL_from_1 ?_
  refine Z_if_ne (M := mL_from) (tgt := 17) (by unfold rg; omega) dL_from_2 (by decide) (fun c_2 => ?_) (fun c_2 => ?_)
  · refine J_aload_n (M := mL_from) dL_from_17 rfl rfl ?_
    refine J_iload_n (M := mL_from) dL_from_18 rfl rfl ?_
    refine J_aload_n (M := mL_from) dL_from_19 rfl rfl ?_
    refine Z_slen (M := mL_from) dL_from_20 ?_
    refine Z_irem (M := mL_from) (by omega) (by unfold rg; omega) (by omega) (by unfold rg; omega) dL_from_21 ?_
    have hm1 := Int.emod_nonneg k (show (xL X : Int) ≠ 0 by omega)
    have hm2 := Int.emod_lt_of_pos k (show (0 : Int) < xL X by omega)
    refine Z_sld (M := mL_from) dL_from_22 hL (by omega) (by omega) ?_
    refine Z_ldc (M := mL_from) (z := 230003) dL_from_23 kc_7 rfl ?_
    refine J_iload_n (M := mL_from) dL_from_25 rfl rfl ?_
    refine Z_imul (M := mL_from) dL_from_26 ?_
    refine J_ixor (M := mL_from) dL_from_27 ?_
    exact hj28 _
  · refine Z_sipush (M := mL_from) dL_from_5 rfl ?_
    refine J_iload_n (M := mL_from) dL_from_8 rfl rfl ?_
    refine Z_imul (M := mL_from) dL_from_9 ?_
    refine Z_sipush (M := mL_from) dL_from_10 rfl ?_
    refine Z_iadd (M := mL_from) dL_from_13 ?_
    refine J_goto (M := mL_from) (tgt := 28) dL_from_14 (by decide) ?_
    exact hj28 _

set_option maxRecDepth 100000 in
set_option maxHeartbeats 4000000 in
theorem rL_number {X : GX} {h : LH} {b : Int} (hb : 0 ≤ b ∧ b ≤ 8) : CT X mL_number [vI (iI b)] h (rQ (fun v h' => v = some (vI (iI (num b))) ∧ h' = h)) := by
  refine CT_of (by decide +kernel) rfl (Nat.le_of_ble_eq_true rfl) ?_
  refine J_iload_n (M := mL_number) dL_number_0 rfl rfl ?_
  refine Z_bipush (M := mL_number) dL_number_1 rfl ?_
  refine Z_ic_ge (M := mL_number) (tgt := 10) (by first | assumption | exact pI_rg _ | (unfold rg; omega)) (by first | assumption | exact pI_rg _ | (unfold rg; omega)) dL_number_3 (by decide) (fun c_3 => ?_) (fun c_3 => ?_)
  · refine Z_bipush (M := mL_number) dL_number_10 rfl ?_
    refine J_iload_n (M := mL_number) dL_number_12 rfl rfl ?_
    refine Z_iadd (M := mL_number) dL_number_13 ?_
    refine J_iret (M := mL_number) dL_number_14 rfl ?_
    first
      | exact And.intro (congrArg (fun z => some (vI (iI z))) (if_pos (by omega)).symm) rfl
      | exact And.intro (congrArg (fun z => some (vI (iI z))) (if_neg (by omega)).symm) rfl
  · refine J_iload_n (M := mL_number) dL_number_6 rfl rfl ?_
    refine J_goto (M := mL_number) (tgt := 14) dL_number_7 (by decide) ?_
    refine J_iret (M := mL_number) dL_number_14 rfl ?_
    first
      | exact And.intro (congrArg (fun z => some (vI (iI z))) (if_pos (by omega)).symm) rfl
      | exact And.intro (congrArg (fun z => some (vI (iI z))) (if_neg (by omega)).symm) rfl

set_option maxRecDepth 100000 in
set_option maxHeartbeats 4000000 in
theorem rL_bits {X : GX} {h : LH} {t : Tg} {π : Int → Int64} (hp : h t = some (cL 2 27 (arL π))) {b j f m : Int} (hb : 0 ≤ b ∧ b ≤ 8) (hj : 0 ≤ j ∧ j ≤ 11) (hf : 0 ≤ f ∧ f ≤ 14) (hm : 1 ≤ m ∧ m ≤ 4) : CT X mL_bits [vR (some t), vI (iI b), vI (iI j), vI (iI f), vI (iI m)] h (rQ (fun v h' => v = some (vI (iI (lb π b j f m))) ∧ h' = h)) := by
  refine CT_of (by decide +kernel) rfl (Nat.le_of_ble_eq_true rfl) ?_
  refine J_aload_n (M := mL_bits) dL_bits_0 rfl rfl ?_
  refine Z_iconst (M := mL_bits) dL_bits_1 ?_
  refine J_iload_n (M := mL_bits) dL_bits_2 rfl rfl ?_
  refine Z_imul (M := mL_bits) dL_bits_3 ?_
  refine J_iload_n (M := mL_bits) dL_bits_4 rfl rfl ?_
  refine Z_iconst (M := mL_bits) dL_bits_5 ?_
  refine Z_idiv (M := mL_bits) (by omega) (by first | assumption | exact pI_rg _ | (unfold rg; omega)) (by decide) (by first | assumption | exact pI_rg _ | (unfold rg; omega)) dL_bits_6 ?_
  refine Z_iadd (M := mL_bits) dL_bits_7 ?_
  refine J_lald (M := mL_bits) dL_bits_8 hp (ix_iI (by omega) (by omega) (by decide)) ?_
  refine Z_leq (M := mL_bits) (arL_at (by omega)) ?_
  refine Z_bipush (M := mL_bits) dL_bits_9 rfl ?_
  refine J_iload_n (M := mL_bits) dL_bits_11 rfl rfl ?_
  refine Z_iconst (M := mL_bits) dL_bits_12 ?_
  refine Z_irem (M := mL_bits) (by omega) (by first | assumption | exact pI_rg _ | (unfold rg; omega)) (by decide) (by first | assumption | exact pI_rg _ | (unfold rg; omega)) dL_bits_13 ?_
  refine Z_imul (M := mL_bits) dL_bits_14 ?_
  refine J_iload_n (M := mL_bits) dL_bits_15 rfl rfl ?_
  refine Z_iadd (M := mL_bits) dL_bits_16 ?_
  refine J_lushr (M := mL_bits) dL_bits_17 ?_
  refine J_l2i (M := mL_bits) dL_bits_18 ?_
  refine Z_iconst (M := mL_bits) dL_bits_19 ?_
  refine J_iload (M := mL_bits) dL_bits_20 rfl ?_
  refine J_ishl (M := mL_bits) dL_bits_22 ?_
  refine Z_iconst (M := mL_bits) dL_bits_23 ?_
  refine J_isub (M := mL_bits) dL_bits_24 ?_
  refine J_iand (M := mL_bits) dL_bits_25 ?_
  refine J_eq (M := mL_bits) (bits_eq (s := 16 * (j % 4) + f) (m := m) ⟨by omega, by omega⟩ hm) ?_
  refine J_iret (M := mL_bits) dL_bits_26 rfl ?_
  exact And.intro rfl rfl

set_option maxRecDepth 100000 in
set_option maxHeartbeats 4000000 in
theorem rL_strikes {X : GX} {h : LH} {t : Tg} {w : Int → Int} (hw : h t = some (cI 0 32 (arr w))) (Bw : ∀ z, 0 ≤ w z ∧ w z ≤ 3) {i : Int} {q : Prop} (hi : 0 ≤ i ∧ i ≤ 15) : CT X mL_strikes [vR (some t), vI (iI i), vI (iI (pI q))] h (rQ (fun v h' => v = some (vI (iI (pI (w (2 * i + 1) = 3 ∨ (¬ q ∧ w (2 * i + 1) = 2))))) ∧ h' = h)) := by
  have b1 := Bw (2 * i + 1)
  refine CT_of (by decide +kernel) rfl (Nat.le_of_ble_eq_true rfl) ?_
  refine J_aload_n (M := mL_strikes) dL_strikes_0 rfl rfl ?_
  refine Z_iconst (M := mL_strikes) dL_strikes_1 ?_
  refine J_iload_n (M := mL_strikes) dL_strikes_2 rfl rfl ?_
  refine Z_imul (M := mL_strikes) dL_strikes_3 ?_
  refine Z_iconst (M := mL_strikes) dL_strikes_4 ?_
  refine Z_iadd (M := mL_strikes) dL_strikes_5 ?_
  refine Z_iald (M := mL_strikes) dL_strikes_6 (by assumption) (by decide) (by omega) (by omega) ?_
  refine Z_iconst (M := mL_strikes) dL_strikes_7 ?_
  refine Z_ic_eq (M := mL_strikes) (tgt := 26) (by first | assumption | exact pI_rg _ | (unfold rg; omega)) (by first | assumption | exact pI_rg _ | (unfold rg; omega)) dL_strikes_8 (by decide) (fun c_8 => ?_) (fun c_8 => ?_)
  · refine Z_iconst (M := mL_strikes) dL_strikes_26 ?_
    refine J_goto (M := mL_strikes) (tgt := 31) dL_strikes_27 (by decide) ?_
    refine J_zret (M := mL_strikes) dL_strikes_31 rfl (by first | exact pI_zb _ | exact zb_of (Or.inl rfl) | exact zb_of (Or.inr rfl) | assumption) ?_
    first
      | exact And.intro (r1 (Or.inl (by assumption))) rfl
      | exact And.intro (r1 (Or.inr (And.intro (by assumption) (by assumption)))) rfl
  · refine J_iload_n (M := mL_strikes) dL_strikes_11 rfl rfl ?_
    first
      | refine Z_pt (M := mL_strikes) (tgt := 30) dL_strikes_12 (by decide) (fun c_12 => ?_) (fun c_12 => ?_)
      | refine Z_if_ne (M := mL_strikes) (tgt := 30) (by first | assumption | exact pI_rg _ | (unfold rg; omega)) dL_strikes_12 (by decide) (fun c_12 => ?_) (fun c_12 => ?_)
    · refine Z_iconst (M := mL_strikes) dL_strikes_30 ?_
      refine J_zret (M := mL_strikes) dL_strikes_31 rfl (by first | exact pI_zb _ | exact zb_of (Or.inl rfl) | exact zb_of (Or.inr rfl) | assumption) ?_
      exact And.intro (r0 (by rintro (y | ⟨y1, y2⟩) <;> first | omega | contradiction)) rfl
    · refine J_aload_n (M := mL_strikes) dL_strikes_15 rfl rfl ?_
      refine Z_iconst (M := mL_strikes) dL_strikes_16 ?_
      refine J_iload_n (M := mL_strikes) dL_strikes_17 rfl rfl ?_
      refine Z_imul (M := mL_strikes) dL_strikes_18 ?_
      refine Z_iconst (M := mL_strikes) dL_strikes_19 ?_
      refine Z_iadd (M := mL_strikes) dL_strikes_20 ?_
      refine Z_iald (M := mL_strikes) dL_strikes_21 (by assumption) (by decide) (by omega) (by omega) ?_
      refine Z_iconst (M := mL_strikes) dL_strikes_22 ?_
      refine Z_ic_ne (M := mL_strikes) (tgt := 30) (by first | assumption | exact pI_rg _ | (unfold rg; omega)) (by first | assumption | exact pI_rg _ | (unfold rg; omega)) dL_strikes_23 (by decide) (fun c_23 => ?_) (fun c_23 => ?_)
      · refine Z_iconst (M := mL_strikes) dL_strikes_30 ?_
        refine J_zret (M := mL_strikes) dL_strikes_31 rfl (by first | exact pI_zb _ | exact zb_of (Or.inl rfl) | exact zb_of (Or.inr rfl) | assumption) ?_
        exact And.intro (r0 (by rintro (y | ⟨y1, y2⟩) <;> first | omega | contradiction)) rfl
      · refine Z_iconst (M := mL_strikes) dL_strikes_26 ?_
        refine J_goto (M := mL_strikes) (tgt := 31) dL_strikes_27 (by decide) ?_
        refine J_zret (M := mL_strikes) dL_strikes_31 rfl (by first | exact pI_zb _ | exact zb_of (Or.inl rfl) | exact zb_of (Or.inr rfl) | assumption) ?_
        first
          | exact And.intro (r1 (Or.inl (by assumption))) rfl
          | exact And.intro (r1 (Or.inr (And.intro (by assumption) (by assumption)))) rfl

set_option maxRecDepth 100000 in
set_option maxHeartbeats 4000000 in
theorem rL_touches {X : GX} {h : LH} {t u : Tg} {w : Int → Int} {π : Int → Int64} (hw : h t = some (cI 0 32 (arr w))) (hp : h u = some (cL 2 27 (arL π))) (Bw : ∀ z, 0 ≤ w z ∧ w z ≤ 3) {b j : Int} (hb : 0 ≤ b ∧ b ≤ 8) (hj : 0 ≤ j ∧ j ≤ 11) : CT X mL_touches [vR (some t), vR (some u), vI (iI b), vI (iI j)] h (rQ (fun v h' => v = some (vI (iI (ltch w π b j))) ∧ h' = h)) := by
  have q1 := lb2 (π := π) (b := b) (j := j) (f := 14)
  have q2 : 0 ≤ lt0 π b j ∧ lt0 π b j ≤ 3 := lb2
  have q3 := lb4 (π := π) (b := b) (j := j) (f := 0)
  have q4 := lb4 (π := π) (b := b) (j := j) (f := 4)
  have q5 := lt1_rg (w := w) (π := π) (b := b) (j := j)
  refine CT_of (by decide +kernel) rfl (Nat.le_of_ble_eq_true rfl) ?_
  refine J_aload_n (M := mL_touches) dL_touches_0 rfl rfl ?_
  refine J_iload_n (M := mL_touches) dL_touches_1 rfl rfl ?_
  refine J_iload_n (M := mL_touches) dL_touches_2 rfl rfl ?_
  refine Z_bipush (M := mL_touches) dL_touches_3 rfl ?_
  refine Z_iconst (M := mL_touches) dL_touches_5 ?_
  refine J_aload_n (M := mL_touches) dL_touches_6 rfl rfl ?_
  refine J_iload_n (M := mL_touches) dL_touches_7 rfl rfl ?_
  refine J_iload_n (M := mL_touches) dL_touches_8 rfl rfl ?_
  refine Z_bipush (M := mL_touches) dL_touches_9 rfl ?_
  refine Z_iconst (M := mL_touches) dL_touches_11 ?_
  refine M_callD (M := mL_touches) (as := [_, _, _, _, _]) dL_touches_12 ca_L_9 ⟨by decide, by decide⟩ rfl (Nat.le_of_ble_eq_true rfl) rfl rfl rfl (rL_bits hp hb hj (by omega) (by omega)) ?_
  refine Z_imul (M := mL_touches) dL_touches_15 ?_
  refine Z_iadd (M := mL_touches) dL_touches_16 ?_
  refine Z_iconst (M := mL_touches) dL_touches_17 ?_
  refine M_callS (M := mL_touches) (as := [_, _, _, _, _]) dL_touches_18 ca_L_9 ⟨by decide, by decide⟩ rfl (Nat.le_of_ble_eq_true rfl) rfl rfl (rL_bits hp hb hj (by omega) (by omega)) ?_
  refine Z_eq (M := mL_touches) (b := lt0 π b j) rfl ?_
  refine J_istore (M := mL_touches) dL_touches_21 (by decide) ?_
  refine Z_ij (M := mL_touches) (pcB := 58) (lt1 w π b j) (fun hj_58 => ?_) ?_
  · refine J_aload_n (M := mL_touches) dL_touches_23 rfl rfl ?_
    refine J_aload_n (M := mL_touches) dL_touches_24 rfl rfl ?_
    refine J_iload_n (M := mL_touches) dL_touches_25 rfl rfl ?_
    refine J_iload_n (M := mL_touches) dL_touches_26 rfl rfl ?_
    refine Z_iconst (M := mL_touches) dL_touches_27 ?_
    refine Z_iconst (M := mL_touches) dL_touches_28 ?_
    refine M_callS (M := mL_touches) (as := [_, _, _, _, _]) dL_touches_29 ca_L_9 ⟨by decide, by decide⟩ rfl (Nat.le_of_ble_eq_true rfl) rfl rfl (rL_bits hp hb hj (by omega) (by omega)) ?_
    refine Z_bj (M := mL_touches) (pcB := 43) (b < 6) (fun hj_43 => ?_) ?_
    · refine J_iload_n (M := mL_touches) dL_touches_32 rfl rfl ?_
      refine Z_bipush (M := mL_touches) dL_touches_33 rfl ?_
      refine Z_ic_ge (M := mL_touches) (tgt := 42) (by first | assumption | exact pI_rg _ | (unfold rg; omega)) (by first | assumption | exact pI_rg _ | (unfold rg; omega)) dL_touches_35 (by decide) (fun c_35 => ?_) (fun c_35 => ?_)
      · refine Z_iconst (M := mL_touches) dL_touches_42 ?_
        exact hj_43 _ (pI_f (by omega)).symm
      · refine Z_iconst (M := mL_touches) dL_touches_38 ?_
        refine J_goto (M := mL_touches) (tgt := 43) dL_touches_39 (by decide) ?_
        exact hj_43 _ (pI_t (by omega)).symm
    refine M_callS (M := mL_touches) (as := [_, _, _]) dL_touches_43 ca_L_15 ⟨by decide, by decide⟩ rfl (Nat.le_of_ble_eq_true rfl) rfl rfl (rL_strikes hw Bw (by omega)) ?_
    first
      | refine Z_pf (M := mL_touches) (tgt := 56) dL_touches_46 (by decide) (fun c_46 => ?_) (fun c_46 => ?_)
      | refine Z_if_eq (M := mL_touches) (tgt := 56) (by first | assumption | exact pI_rg _ | (unfold rg; omega)) dL_touches_46 (by decide) (fun c_46 => ?_) (fun c_46 => ?_)
    · refine J_iload (M := mL_touches) dL_touches_56 rfl ?_
      exact hj_58 _ (by unfold lt1; first | rw [if_pos (by assumption)] | rw [if_neg (by assumption)])
    · refine J_iload (M := mL_touches) dL_touches_49 rfl ?_
      refine Z_iconst (M := mL_touches) dL_touches_51 ?_
      refine J_iand (M := mL_touches) dL_touches_52 ?_
      refine J_eq (M := mL_touches) (iI_and (by omega) (by omega)) ?_
      refine J_goto (M := mL_touches) (tgt := 58) dL_touches_53 (by decide) ?_
      exact hj_58 _ (by unfold lt1; first | rw [if_pos (by assumption)] | rw [if_neg (by assumption)])
  refine J_istore (M := mL_touches) dL_touches_58 (by decide) ?_
  refine Z_ij (M := mL_touches) (pcB := 95) (ltch w π b j) (fun hj_95 => ?_) ?_
  · refine J_aload_n (M := mL_touches) dL_touches_60 rfl rfl ?_
    refine J_aload_n (M := mL_touches) dL_touches_61 rfl rfl ?_
    refine J_iload_n (M := mL_touches) dL_touches_62 rfl rfl ?_
    refine J_iload_n (M := mL_touches) dL_touches_63 rfl rfl ?_
    refine Z_iconst (M := mL_touches) dL_touches_64 ?_
    refine Z_iconst (M := mL_touches) dL_touches_65 ?_
    refine M_callS (M := mL_touches) (as := [_, _, _, _, _]) dL_touches_66 ca_L_9 ⟨by decide, by decide⟩ rfl (Nat.le_of_ble_eq_true rfl) rfl rfl (rL_bits hp hb hj (by omega) (by omega)) ?_
    refine Z_bj (M := mL_touches) (pcB := 80) (b < 6) (fun hj_80 => ?_) ?_
    · refine J_iload_n (M := mL_touches) dL_touches_69 rfl rfl ?_
      refine Z_bipush (M := mL_touches) dL_touches_70 rfl ?_
      refine Z_ic_ge (M := mL_touches) (tgt := 79) (by first | assumption | exact pI_rg _ | (unfold rg; omega)) (by first | assumption | exact pI_rg _ | (unfold rg; omega)) dL_touches_72 (by decide) (fun c_72 => ?_) (fun c_72 => ?_)
      · refine Z_iconst (M := mL_touches) dL_touches_79 ?_
        exact hj_80 _ (pI_f (by omega)).symm
      · refine Z_iconst (M := mL_touches) dL_touches_75 ?_
        refine J_goto (M := mL_touches) (tgt := 80) dL_touches_76 (by decide) ?_
        exact hj_80 _ (pI_t (by omega)).symm
    refine M_callS (M := mL_touches) (as := [_, _, _]) dL_touches_80 ca_L_15 ⟨by decide, by decide⟩ rfl (Nat.le_of_ble_eq_true rfl) rfl rfl (rL_strikes hw Bw (by omega)) ?_
    first
      | refine Z_pf (M := mL_touches) (tgt := 93) dL_touches_83 (by decide) (fun c_83 => ?_) (fun c_83 => ?_)
      | refine Z_if_eq (M := mL_touches) (tgt := 93) (by first | assumption | exact pI_rg _ | (unfold rg; omega)) dL_touches_83 (by decide) (fun c_83 => ?_) (fun c_83 => ?_)
    · refine J_iload (M := mL_touches) dL_touches_93 rfl ?_
      exact hj_95 _ (by unfold ltch; first | rw [if_pos (by assumption)] | rw [if_neg (by assumption)])
    · refine J_iload (M := mL_touches) dL_touches_86 rfl ?_
      refine Z_iconst (M := mL_touches) dL_touches_88 ?_
      refine J_iand (M := mL_touches) dL_touches_89 ?_
      refine J_eq (M := mL_touches) (iI_and (by omega) (by omega)) ?_
      refine J_goto (M := mL_touches) (tgt := 95) dL_touches_90 (by decide) ?_
      exact hj_95 _ (by unfold ltch; first | rw [if_pos (by assumption)] | rw [if_neg (by assumption)])
  refine J_iret (M := mL_touches) dL_touches_95 rfl ?_
  exact And.intro rfl rfl

set_option maxRecDepth 100000 in
set_option maxHeartbeats 4000000 in
theorem told_l {X : GX} {h : LH} {k n : Nat} {Q : LO → LH → Prop} {t u v : Tg} {w e : Int → Int} {π : Int → Int64} (hw : h t = some (cI 0 32 (arr w))) (hp : h u = some (cL 2 27 (arL π))) (he : h v = some (cI 0 9 (arr e))) (Bw : ∀ z, 0 ≤ w z ∧ w z ≤ 3) (Be : ∀ z, 0 ≤ e z ∧ e z ≤ 12) {b : Int} (hb : 0 ≤ b ∧ b ≤ 8) : ∀ (m i : Nat), (i : Int) + m = e b → J X mL_told 127 [some (vR (some t)), some (vR (some u)), some (vR (some v)), some (vI (iI b)), some (vI (iI (lgl b))), some (vI (iI (tlF (lgl b) (ltch w π b) (e b).toNat).1)), some (vI (iI (tlF (lgl b) (ltch w π b) (e b).toNat).2.1)), none, none, none] [] h k n Q → J X mL_told 22 [some (vR (some t)), some (vR (some u)), some (vR (some v)), some (vI (iI b)), some (vI (iI (lgl b))), some (vI (iI (tlF (lgl b) (ltch w π b) i).1)), some (vI (iI (tlF (lgl b) (ltch w π b) i).2.1)), some (vI (iI i)), none, none] [] h k n Q := by
  have hg := lgl_35 (b := b)
  have b1 := Be b
  intro m
  induction m with
  | zero =>
    intro i hi kk
    have ei : i = (e b).toNat := by omega
    subst ei
    refine J_iload (M := mL_told) dL_told_22 rfl ?_
    refine J_aload_n (M := mL_told) dL_told_24 rfl rfl ?_
    refine J_iload_n (M := mL_told) dL_told_25 rfl rfl ?_
    refine Z_iald (M := mL_told) dL_told_26 (by assumption) (by decide) (by omega) (by omega) ?_
    refine Z_ic_ge (M := mL_told) (tgt := 127) (by first | assumption | exact pI_rg _ | (unfold rg; omega)) (by first | assumption | exact pI_rg _ | (unfold rg; omega)) dL_told_27 (by decide) (fun c_27 => ?_) (fun c_27 => ?_)
    · exact J_sub kk (And.intro rfl (And.intro rfl (And.intro rfl (And.intro rfl (And.intro rfl (And.intro rfl (And.intro rfl trivial)))))))
    · omega
  | succ m ih =>
    intro i hi kk
    have b4 := tl_g (g := lgl b) (T := ltch w π b) (by omega) (fun i => ltch_rg) i
    generalize hi9 : (tlF (lgl b) (ltch w π b) i) = z0 at b4 ⊢
    obtain ⟨a0, b0, w0⟩ := z0
    simp only [] at b4 ⊢
    refine J_iload (M := mL_told) dL_told_22 rfl ?_
    refine J_aload_n (M := mL_told) dL_told_24 rfl rfl ?_
    refine J_iload_n (M := mL_told) dL_told_25 rfl rfl ?_
    refine Z_iald (M := mL_told) dL_told_26 (by assumption) (by decide) (by omega) (by omega) ?_
    refine Z_ic_ge (M := mL_told) (tgt := 127) (by first | assumption | exact pI_rg _ | (unfold rg; omega)) (by first | assumption | exact pI_rg _ | (unfold rg; omega)) dL_told_27 (by decide) (fun c_27 => ?_) (fun c_27 => ?_)
    · omega
    · refine J_iload (M := mL_told) dL_told_30 rfl ?_
      refine J_iload (M := mL_told) dL_told_32 rfl ?_
      refine Z_ic_ge (M := mL_told) (tgt := 127) (by unfold rg; omega) (by unfold rg; omega) dL_told_34 (by decide) (fun c_34 => ?_) (fun c_34 => ?_)
      · have e9 : i + (m + 1) = (e b).toNat := by omega
        have hw0 : ¬ w0 = -1 := by
          rw [b4.2.2]
          unfold twon
          split
          · omega
          · split <;> omega
        have e8 : (tlF (lgl b) (ltch w π b) (e b).toNat) = (a0, b0, w0) := by
          rw [← e9, tlF_stay (by rw [hi9]; exact hw0), hi9]
        rw [e8] at kk
        exact J_sub kk (And.intro rfl (And.intro rfl (And.intro rfl (And.intro rfl (And.intro rfl (And.intro rfl (And.intro rfl trivial)))))))
      · refine J_iload (M := mL_told) dL_told_37 rfl ?_
        refine J_iload (M := mL_told) dL_told_39 rfl ?_
        refine Z_ic_ge (M := mL_told) (tgt := 127) (by unfold rg; omega) (by unfold rg; omega) dL_told_41 (by decide) (fun c_41 => ?_) (fun c_41 => ?_)
        · have e9 : i + (m + 1) = (e b).toNat := by omega
          have hw0 : ¬ w0 = -1 := by
            rw [b4.2.2]
            unfold twon
            split
            · omega
            · split <;> omega
          have e8 : (tlF (lgl b) (ltch w π b) (e b).toNat) = (a0, b0, w0) := by
            rw [← e9, tlF_stay (by rw [hi9]; exact hw0), hi9]
          rw [e8] at kk
          exact J_sub kk (And.intro rfl (And.intro rfl (And.intro rfl (And.intro rfl (And.intro rfl (And.intro rfl (And.intro rfl trivial)))))))
        · refine J_aload_n (M := mL_told) dL_told_44 rfl rfl ?_
          refine J_aload_n (M := mL_told) dL_told_45 rfl rfl ?_
          refine J_iload_n (M := mL_told) dL_told_46 rfl rfl ?_
          refine J_iload (M := mL_told) dL_told_47 rfl ?_
          refine M_callS (M := mL_told) (as := [_, _, _, _]) dL_told_49 ca_L_19 ⟨by decide, by decide⟩ rfl (Nat.le_of_ble_eq_true rfl) rfl rfl (rL_touches hw hp Bw hb (by omega)) ?_
          have b6 := ltch_rg (w := w) (π := π) (b := b) (j := i)
          refine J_istore (M := mL_told) dL_told_52 (by decide) ?_
          refine Z_bj (M := mL_told) (pcB := 83) ((ltch w π b i = 3 ∧ a0 = lgl b - 1 ∧ b0 = lgl b - 1)) (fun hj_83 => ?_) ?_
          · refine J_iload (M := mL_told) dL_told_54 rfl ?_
            refine Z_iconst (M := mL_told) dL_told_56 ?_
            refine Z_ic_ne (M := mL_told) (tgt := 82) (by first | assumption | exact pI_rg _ | (unfold rg; omega)) (by first | assumption | exact pI_rg _ | (unfold rg; omega)) dL_told_57 (by decide) (fun c_57 => ?_) (fun c_57 => ?_)
            · refine Z_iconst (M := mL_told) dL_told_82 ?_
              exact hj_83 _ (pI_f (by omega)).symm
            · refine J_iload (M := mL_told) dL_told_60 rfl ?_
              refine J_iload (M := mL_told) dL_told_62 rfl ?_
              refine Z_iconst (M := mL_told) dL_told_64 ?_
              refine Z_isub (M := mL_told) dL_told_65 ?_
              refine Z_ic_ne (M := mL_told) (tgt := 82) (by first | assumption | exact pI_rg _ | (unfold rg; omega)) (by first | assumption | exact pI_rg _ | (unfold rg; omega)) dL_told_66 (by decide) (fun c_66 => ?_) (fun c_66 => ?_)
              · refine Z_iconst (M := mL_told) dL_told_82 ?_
                exact hj_83 _ (pI_f (by omega)).symm
              · refine J_iload (M := mL_told) dL_told_69 rfl ?_
                refine J_iload (M := mL_told) dL_told_71 rfl ?_
                refine Z_iconst (M := mL_told) dL_told_73 ?_
                refine Z_isub (M := mL_told) dL_told_74 ?_
                refine Z_ic_ne (M := mL_told) (tgt := 82) (by first | assumption | exact pI_rg _ | (unfold rg; omega)) (by first | assumption | exact pI_rg _ | (unfold rg; omega)) dL_told_75 (by decide) (fun c_75 => ?_) (fun c_75 => ?_)
                · refine Z_iconst (M := mL_told) dL_told_82 ?_
                  exact hj_83 _ (pI_f (by omega)).symm
                · refine Z_iconst (M := mL_told) dL_told_78 ?_
                  refine J_goto (M := mL_told) (tgt := 83) dL_told_79 (by decide) ?_
                  exact hj_83 _ (pI_t (by omega)).symm
          refine J_istore (M := mL_told) dL_told_83 (by decide) ?_
          refine J_iload (M := mL_told) dL_told_85 rfl ?_
          refine Z_ij (M := mL_told) (pcB := 100) (if (ltch w π b i = 3 ∧ a0 = lgl b - 1 ∧ b0 = lgl b - 1) then 0 else ltch w π b i % 2) (fun hj_100 => ?_) ?_
          · refine J_iload (M := mL_told) dL_told_87 rfl ?_
            first
              | refine Z_pf (M := mL_told) (tgt := 96) dL_told_89 (by decide) (fun c_89 => ?_) (fun c_89 => ?_)
              | refine Z_if_eq (M := mL_told) (tgt := 96) (by first | assumption | exact pI_rg _ | (unfold rg; omega)) dL_told_89 (by decide) (fun c_89 => ?_) (fun c_89 => ?_)
            · refine J_iload (M := mL_told) dL_told_96 rfl ?_
              refine Z_iconst (M := mL_told) dL_told_98 ?_
              refine Z_irem (M := mL_told) (by omega) (by first | assumption | exact pI_rg _ | (unfold rg; omega)) (by decide) (by first | assumption | exact pI_rg _ | (unfold rg; omega)) dL_told_99 ?_
              exact hj_100 _ (by first | rw [if_pos (by assumption)] | rw [if_neg (by assumption)])
            · refine Z_iconst (M := mL_told) dL_told_92 ?_
              refine J_goto (M := mL_told) (tgt := 100) dL_told_93 (by decide) ?_
              exact hj_100 _ (by first | rw [if_pos (by assumption)] | rw [if_neg (by assumption)])
          refine Z_iadd (M := mL_told) dL_told_100 ?_
          refine J_istore (M := mL_told) dL_told_101 (by decide) ?_
          refine J_iload (M := mL_told) dL_told_103 rfl ?_
          refine Z_ij (M := mL_told) (pcB := 118) (if (ltch w π b i = 3 ∧ a0 = lgl b - 1 ∧ b0 = lgl b - 1) then 0 else ltch w π b i / 2) (fun hj_118 => ?_) ?_
          · refine J_iload (M := mL_told) dL_told_105 rfl ?_
            first
              | refine Z_pf (M := mL_told) (tgt := 114) dL_told_107 (by decide) (fun c_107 => ?_) (fun c_107 => ?_)
              | refine Z_if_eq (M := mL_told) (tgt := 114) (by first | assumption | exact pI_rg _ | (unfold rg; omega)) dL_told_107 (by decide) (fun c_107 => ?_) (fun c_107 => ?_)
            · refine J_iload (M := mL_told) dL_told_114 rfl ?_
              refine Z_iconst (M := mL_told) dL_told_116 ?_
              refine Z_idiv (M := mL_told) (by omega) (by first | assumption | exact pI_rg _ | (unfold rg; omega)) (by decide) (by first | assumption | exact pI_rg _ | (unfold rg; omega)) dL_told_117 ?_
              exact hj_118 _ (by first | rw [if_pos (by assumption)] | rw [if_neg (by assumption)])
            · refine Z_iconst (M := mL_told) dL_told_110 ?_
              refine J_goto (M := mL_told) (tgt := 118) dL_told_111 (by decide) ?_
              exact hj_118 _ (by first | rw [if_pos (by assumption)] | rw [if_neg (by assumption)])
          refine Z_iadd (M := mL_told) dL_told_118 ?_
          refine J_istore (M := mL_told) dL_told_119 (by decide) ?_
          refine Z_iinc (M := mL_told) dL_told_121 rfl (by decide) ?_
          refine J_goto (M := mL_told) (tgt := 22) dL_told_124 (by decide) ?_
          have hw0 : w0 = -1 := by
            rw [b4.2.2]
            unfold twon
            rw [if_neg (by omega), if_neg (by omega)]
          have e8 : (tlF (lgl b) (ltch w π b) (i + 1)) = ((tadd (lgl b) (ltch w π b i) (a0, b0, w0)).1, (tadd (lgl b) (ltch w π b i) (a0, b0, w0)).2, twon (lgl b) (tadd (lgl b) (ltch w π b i) (a0, b0, w0)).1 (tadd (lgl b) (ltch w π b i) (a0, b0, w0)).2) := by
            show (if _ then _ else _) = _
            rw [hi9, if_pos hw0]
          have kk2 := ih (i + 1) (by omega) kk
          rw [e8] at kk2
          have hm1 := mand_1 b6
          refine J_sub (M := mL_told) kk2 (And.intro rfl (And.intro rfl (And.intro rfl (And.intro rfl (And.intro rfl (And.intro (vz (by show (tadd (lgl b) (ltch w π b i) (a0, b0, w0)).1 = _; unfold tadd; simp only []; rw [hm1]; split <;> split <;> omega)) (And.intro (vz (by show (tadd (lgl b) (ltch w π b i) (a0, b0, w0)).2 = _; unfold tadd; simp only []; rw [hm1]; split <;> split <;> omega)) (And.intro (vz (by push_cast; omega)) trivial))))))))

set_option maxRecDepth 100000 in
set_option maxHeartbeats 4000000 in
theorem rL_told {X : GX} {h : LH} {t u v : Tg} {w e : Int → Int} {π : Int → Int64} (hw : h t = some (cI 0 32 (arr w))) (hp : h u = some (cL 2 27 (arL π))) (he : h v = some (cI 0 9 (arr e))) (Bw : ∀ z, 0 ≤ w z ∧ w z ≤ 3) (Be : ∀ z, 0 ≤ e z ∧ e z ≤ 12) {b : Int} (hb : 0 ≤ b ∧ b ≤ 8) : CT X mL_told [vR (some t), vR (some u), vR (some v), vI (iI b)] h (rQ (fun r h' => r = some (vI (iI (ltold w π e b))) ∧ h' = h)) := by
  have hg := lgl_35 (b := b)
  have b1 := Be b
  have hj11 : J X mL_told 11 [some (vR (some t)), some (vR (some u)), some (vR (some v)), some (vI (iI b)), none, none, none, none, none, none] [vI (iI (lgl b))] h 0 0 (rQ (fun r h' => r = some (vI (iI (ltold w π e b))) ∧ h' = h)) := by
    refine J_istore (M := mL_told) dL_told_11 (by decide) ?_
    refine Z_iconst (M := mL_told) dL_told_13 ?_
    refine J_istore (M := mL_told) dL_told_14 (by decide) ?_
    refine Z_iconst (M := mL_told) dL_told_16 ?_
    refine J_istore (M := mL_told) dL_told_17 (by decide) ?_
    refine Z_iconst (M := mL_told) dL_told_19 ?_
    refine J_istore (M := mL_told) dL_told_20 (by decide) ?_
    refine J_sub (M := mL_told) (told_l hw hp he Bw Be hb (e b).toNat 0 (by omega) ?_) (And.intro rfl (And.intro rfl (And.intro rfl (And.intro rfl (And.intro rfl (And.intro rfl (And.intro rfl (And.intro rfl trivial))))))))
    have b4 := tl_g (g := lgl b) (T := ltch w π b) (by omega) (fun i => ltch_rg) (e b).toNat
    have hte : lte w π e b = lte w π e b := rfl
    conv at hte => rhs; unfold lte
    simp only [] at hte
    generalize (tlF (lgl b) (ltch w π b) (e b).toNat) = z0 at b4 hte ⊢
    obtain ⟨a0, b0, w0⟩ := z0
    simp only [] at b4 hte ⊢
    have hw0 := b4.2.2
    unfold twon at hw0
    have ht : ltold w π e b = 100 * ((lte w π e b).2.2 + 1) + 10 * a0 + b0 := by unfold ltold; rw [hte]
    have h3 : (lte w π e b).2.2 = (if w0 = -1 ∧ e b = 12 then (if a0 < b0 then 1 else 0) else w0) := by rw [hte]
    refine Z_ij (M := mL_told) (pcB := 173) ((lte w π e b).2.2 + 1) (fun hj_173 => ?_) ?_
    · refine J_iload (M := mL_told) dL_told_127 rfl ?_
      refine J_iload (M := mL_told) dL_told_129 rfl ?_
      refine Z_ic_ne (M := mL_told) (tgt := 138) (by first | assumption | exact pI_rg _ | (unfold rg; omega)) (by first | assumption | exact pI_rg _ | (unfold rg; omega)) dL_told_131 (by decide) (fun c_131 => ?_) (fun c_131 => ?_)
      · refine J_iload (M := mL_told) dL_told_138 rfl ?_
        refine J_iload (M := mL_told) dL_told_140 rfl ?_
        refine Z_ic_ne (M := mL_told) (tgt := 149) (by first | assumption | exact pI_rg _ | (unfold rg; omega)) (by first | assumption | exact pI_rg _ | (unfold rg; omega)) dL_told_142 (by decide) (fun c_142 => ?_) (fun c_142 => ?_)
        · refine J_aload_n (M := mL_told) dL_told_149 rfl rfl ?_
          refine J_iload_n (M := mL_told) dL_told_150 rfl rfl ?_
          refine Z_iald (M := mL_told) dL_told_151 (by assumption) (by decide) (by omega) (by omega) ?_
          refine Z_bipush (M := mL_told) dL_told_152 rfl ?_
          refine Z_ic_ge (M := mL_told) (tgt := 161) (by first | assumption | exact pI_rg _ | (unfold rg; omega)) (by first | assumption | exact pI_rg _ | (unfold rg; omega)) dL_told_154 (by decide) (fun c_154 => ?_) (fun c_154 => ?_)
          · refine J_iload (M := mL_told) dL_told_161 rfl ?_
            refine J_iload (M := mL_told) dL_told_163 rfl ?_
            refine Z_ic_le (M := mL_told) (tgt := 172) (by first | assumption | exact pI_rg _ | (unfold rg; omega)) (by first | assumption | exact pI_rg _ | (unfold rg; omega)) dL_told_165 (by decide) (fun c_165 => ?_) (fun c_165 => ?_)
            · refine Z_iconst (M := mL_told) dL_told_172 ?_
              exact hj_173 _ (by rw [h3]; split at hw0 <;> (try split at hw0) <;> split <;> (try split) <;> omega)
            · refine Z_iconst (M := mL_told) dL_told_168 ?_
              refine J_goto (M := mL_told) (tgt := 173) dL_told_169 (by decide) ?_
              exact hj_173 _ (by rw [h3]; split at hw0 <;> (try split at hw0) <;> split <;> (try split) <;> omega)
          · refine Z_iconst (M := mL_told) dL_told_157 ?_
            refine J_goto (M := mL_told) (tgt := 173) dL_told_158 (by decide) ?_
            exact hj_173 _ (by rw [h3]; split at hw0 <;> (try split at hw0) <;> split <;> (try split) <;> omega)
        · refine Z_iconst (M := mL_told) dL_told_145 ?_
          refine J_goto (M := mL_told) (tgt := 173) dL_told_146 (by decide) ?_
          exact hj_173 _ (by rw [h3]; split at hw0 <;> (try split at hw0) <;> split <;> (try split) <;> omega)
      · refine Z_iconst (M := mL_told) dL_told_134 ?_
        refine J_goto (M := mL_told) (tgt := 173) dL_told_135 (by decide) ?_
        exact hj_173 _ (by rw [h3]; split at hw0 <;> (try split at hw0) <;> split <;> (try split) <;> omega)
    refine J_istore (M := mL_told) dL_told_173 (by decide) ?_
    refine Z_bipush (M := mL_told) dL_told_175 rfl ?_
    refine J_iload (M := mL_told) dL_told_177 rfl ?_
    refine Z_imul (M := mL_told) dL_told_179 ?_
    refine Z_bipush (M := mL_told) dL_told_180 rfl ?_
    refine J_iload (M := mL_told) dL_told_182 rfl ?_
    refine Z_imul (M := mL_told) dL_told_184 ?_
    refine Z_iadd (M := mL_told) dL_told_185 ?_
    refine J_iload (M := mL_told) dL_told_186 rfl ?_
    refine Z_iadd (M := mL_told) dL_told_188 ?_
    refine J_iret (M := mL_told) dL_told_189 rfl ?_
    exact And.intro (congrArg (fun z => some (vI (iI z))) (by rw [ht])) rfl
    
  refine CT_of (by decide +kernel) rfl (Nat.le_of_ble_eq_true rfl) ?_
  refine J_iload_n (M := mL_told) dL_told_0 rfl rfl ?_
  refine Z_bipush (M := mL_told) dL_told_1 rfl ?_
  refine Z_ic_ge (M := mL_told) (tgt := 10) (by first | assumption | exact pI_rg _ | (unfold rg; omega)) (by first | assumption | exact pI_rg _ | (unfold rg; omega)) dL_told_3 (by decide) (fun c_3 => ?_) (fun c_3 => ?_)
  · refine Z_iconst (M := mL_told) dL_told_10 ?_
    first
      | exact (show lgl b = 3 from if_pos (by omega)) ▸ hj11
      | exact (show lgl b = 5 from if_neg (by omega)) ▸ hj11
  · refine Z_iconst (M := mL_told) dL_told_6 ?_
    refine J_goto (M := mL_told) (tgt := 11) dL_told_7 (by decide) ?_
    first
      | exact (show lgl b = 3 from if_pos (by omega)) ▸ hj11
      | exact (show lgl b = 5 from if_neg (by omega)) ▸ hj11

set_option maxRecDepth 100000 in
set_option maxHeartbeats 4000000 in
theorem rL_fencer {X : GX} {h : LH} {t : Tg} {x : Int → Int} (hx : h t = some (cI 0 8 (arr x))) {b s : Int} (hb : 0 ≤ b ∧ b ≤ 8) (hs : 0 ≤ s ∧ s ≤ 1) : CT X mL_fencer [vR (some t), vI (iI b), vI (iI s)] h (rQ (fun v h' => v = some (vI (iI (lfen x b s))) ∧ h' = h)) := by
  refine CT_of (by decide +kernel) rfl (Nat.le_of_ble_eq_true rfl) ?_
  refine J_iload_n (M := mL_fencer) dL_fencer_0 rfl rfl ?_
  refine Z_iconst (M := mL_fencer) dL_fencer_1 ?_
  refine Z_ic_le (M := mL_fencer) (tgt := 15) (by first | assumption | exact pI_rg _ | (unfold rg; omega)) (by first | assumption | exact pI_rg _ | (unfold rg; omega)) dL_fencer_2 (by decide) (fun c_2 => ?_) (fun c_2 => ?_)
  · refine J_iload_n (M := mL_fencer) dL_fencer_15 rfl rfl ?_
    first
      | refine Z_pt (M := mL_fencer) (tgt := 41) dL_fencer_16 (by decide) (fun c_16 => ?_) (fun c_16 => ?_)
      | refine Z_if_ne (M := mL_fencer) (tgt := 41) (by first | assumption | exact pI_rg _ | (unfold rg; omega)) dL_fencer_16 (by decide) (fun c_16 => ?_) (fun c_16 => ?_)
    · refine J_iload_n (M := mL_fencer) dL_fencer_41 rfl rfl ?_
      refine Z_iconst (M := mL_fencer) dL_fencer_42 ?_
      refine Z_ic_ge (M := mL_fencer) (tgt := 52) (by first | assumption | exact pI_rg _ | (unfold rg; omega)) (by first | assumption | exact pI_rg _ | (unfold rg; omega)) dL_fencer_43 (by decide) (fun c_43 => ?_) (fun c_43 => ?_)
      · refine J_iload_n (M := mL_fencer) dL_fencer_52 rfl rfl ?_
        refine Z_iconst (M := mL_fencer) dL_fencer_53 ?_
        refine Z_ic_ge (M := mL_fencer) (tgt := 63) (by first | assumption | exact pI_rg _ | (unfold rg; omega)) (by first | assumption | exact pI_rg _ | (unfold rg; omega)) dL_fencer_54 (by decide) (fun c_54 => ?_) (fun c_54 => ?_)
        · refine Z_iconst (M := mL_fencer) dL_fencer_63 ?_
          refine J_iret (M := mL_fencer) dL_fencer_64 rfl ?_
          exact And.intro (congrArg (fun z => some (vI (iI z))) (by unfold lfen; repeat (first | rw [if_pos (by omega)] | rw [if_neg (by omega)]))) rfl
        · refine J_iload_n (M := mL_fencer) dL_fencer_57 rfl rfl ?_
          refine Z_iconst (M := mL_fencer) dL_fencer_58 ?_
          refine Z_isub (M := mL_fencer) dL_fencer_59 ?_
          refine J_goto (M := mL_fencer) (tgt := 64) dL_fencer_60 (by decide) ?_
          refine J_iret (M := mL_fencer) dL_fencer_64 rfl ?_
          exact And.intro (congrArg (fun z => some (vI (iI z))) (by unfold lfen; repeat (first | rw [if_pos (by omega)] | rw [if_neg (by omega)]))) rfl
      · refine J_iload_n (M := mL_fencer) dL_fencer_46 rfl rfl ?_
        refine Z_iconst (M := mL_fencer) dL_fencer_47 ?_
        refine Z_iadd (M := mL_fencer) dL_fencer_48 ?_
        refine J_goto (M := mL_fencer) (tgt := 64) dL_fencer_49 (by decide) ?_
        refine J_iret (M := mL_fencer) dL_fencer_64 rfl ?_
        exact And.intro (congrArg (fun z => some (vI (iI z))) (by unfold lfen; repeat (first | rw [if_pos (by omega)] | rw [if_neg (by omega)]))) rfl
    · refine J_iload_n (M := mL_fencer) dL_fencer_19 rfl rfl ?_
      refine Z_iconst (M := mL_fencer) dL_fencer_20 ?_
      refine Z_ic_ge (M := mL_fencer) (tgt := 28) (by first | assumption | exact pI_rg _ | (unfold rg; omega)) (by first | assumption | exact pI_rg _ | (unfold rg; omega)) dL_fencer_21 (by decide) (fun c_21 => ?_) (fun c_21 => ?_)
      · refine J_iload_n (M := mL_fencer) dL_fencer_28 rfl rfl ?_
        refine Z_iconst (M := mL_fencer) dL_fencer_29 ?_
        refine Z_ic_ge (M := mL_fencer) (tgt := 37) (by first | assumption | exact pI_rg _ | (unfold rg; omega)) (by first | assumption | exact pI_rg _ | (unfold rg; omega)) dL_fencer_30 (by decide) (fun c_30 => ?_) (fun c_30 => ?_)
        · refine Z_iconst (M := mL_fencer) dL_fencer_37 ?_
          refine J_goto (M := mL_fencer) (tgt := 64) dL_fencer_38 (by decide) ?_
          refine J_iret (M := mL_fencer) dL_fencer_64 rfl ?_
          exact And.intro (congrArg (fun z => some (vI (iI z))) (by unfold lfen; repeat (first | rw [if_pos (by omega)] | rw [if_neg (by omega)]))) rfl
        · refine Z_iconst (M := mL_fencer) dL_fencer_33 ?_
          refine J_goto (M := mL_fencer) (tgt := 64) dL_fencer_34 (by decide) ?_
          refine J_iret (M := mL_fencer) dL_fencer_64 rfl ?_
          exact And.intro (congrArg (fun z => some (vI (iI z))) (by unfold lfen; repeat (first | rw [if_pos (by omega)] | rw [if_neg (by omega)]))) rfl
      · refine Z_iconst (M := mL_fencer) dL_fencer_24 ?_
        refine J_goto (M := mL_fencer) (tgt := 64) dL_fencer_25 (by decide) ?_
        refine J_iret (M := mL_fencer) dL_fencer_64 rfl ?_
        exact And.intro (congrArg (fun z => some (vI (iI z))) (by unfold lfen; repeat (first | rw [if_pos (by omega)] | rw [if_neg (by omega)]))) rfl
  · refine J_aload_n (M := mL_fencer) dL_fencer_5 rfl rfl ?_
    refine Z_iconst (M := mL_fencer) dL_fencer_6 ?_
    refine J_iload_n (M := mL_fencer) dL_fencer_7 rfl rfl ?_
    refine Z_iconst (M := mL_fencer) dL_fencer_8 ?_
    refine Z_isub (M := mL_fencer) dL_fencer_9 ?_
    refine Z_imul (M := mL_fencer) dL_fencer_10 ?_
    refine J_iload_n (M := mL_fencer) dL_fencer_11 rfl rfl ?_
    refine Z_iadd (M := mL_fencer) dL_fencer_12 ?_
    refine Z_iald (M := mL_fencer) dL_fencer_13 (by assumption) (by decide) (by omega) (by omega) ?_
    refine J_iret (M := mL_fencer) dL_fencer_14 rfl ?_
    exact And.intro (congrArg (fun z => some (vI (iI z))) (by unfold lfen; repeat (first | rw [if_pos (by omega)] | rw [if_neg (by omega)]))) rfl

set_option maxRecDepth 100000 in
set_option maxHeartbeats 4000000 in
theorem rL_winner {X : GX} {h : LH} {t u v y : Tg} {w e x : Int → Int} {π : Int → Int64} (hw : h t = some (cI 0 32 (arr w))) (hp : h u = some (cL 2 27 (arL π))) (he : h v = some (cI 0 9 (arr e))) (Bw : ∀ z, 0 ≤ w z ∧ w z ≤ 3) (Be : ∀ z, 0 ≤ e z ∧ e z ≤ 12) {b : Int} (hb : 0 ≤ b ∧ b ≤ 8) (hx : h y = some (cI 0 8 (arr x))) : CT X mL_winner [vR (some t), vR (some u), vR (some v), vR (some y), vI (iI b)] h (rQ (fun v h' => v = some (vI (iI (lwin w π e x b))) ∧ h' = h)) := by
  have q1 := lte_rg (w := w) (π := π) (e := e) (b := b)
  have q2 := ltold_rg (w := w) (π := π) (e := e) (b := b)
  have q3 : ltold w π e b / 100 = (lte w π e b).2.2 + 1 := by unfold ltold; omega
  refine CT_of (by decide +kernel) rfl (Nat.le_of_ble_eq_true rfl) ?_
  refine J_aload_n (M := mL_winner) dL_winner_0 rfl rfl ?_
  refine J_aload_n (M := mL_winner) dL_winner_1 rfl rfl ?_
  refine J_aload_n (M := mL_winner) dL_winner_2 rfl rfl ?_
  refine J_iload (M := mL_winner) dL_winner_3 rfl ?_
  refine M_callS (M := mL_winner) (as := [_, _, _, _]) dL_winner_5 ca_L_23 ⟨by decide, by decide⟩ rfl (Nat.le_of_ble_eq_true rfl) rfl rfl (rL_told hw hp he Bw Be (by omega)) ?_
  refine Z_bipush (M := mL_winner) dL_winner_8 rfl ?_
  refine Z_idiv (M := mL_winner) (by omega) (by first | assumption | exact pI_rg _ | (unfold rg; omega)) (by decide) (by first | assumption | exact pI_rg _ | (unfold rg; omega)) dL_winner_10 ?_
  refine Z_eq (M := mL_winner) q3 ?_
  refine J_istore (M := mL_winner) dL_winner_11 (by decide) ?_
  refine J_iload (M := mL_winner) dL_winner_13 rfl ?_
  first
    | refine Z_pt (M := mL_winner) (tgt := 22) dL_winner_15 (by decide) (fun c_15 => ?_) (fun c_15 => ?_)
    | refine Z_if_ne (M := mL_winner) (tgt := 22) (by first | assumption | exact pI_rg _ | (unfold rg; omega)) dL_winner_15 (by decide) (fun c_15 => ?_) (fun c_15 => ?_)
  · refine J_aload_n (M := mL_winner) dL_winner_22 rfl rfl ?_
    refine J_iload (M := mL_winner) dL_winner_23 rfl ?_
    refine J_iload (M := mL_winner) dL_winner_25 rfl ?_
    refine Z_iconst (M := mL_winner) dL_winner_27 ?_
    refine Z_isub (M := mL_winner) dL_winner_28 ?_
    refine M_callS (M := mL_winner) (as := [_, _, _]) dL_winner_29 ca_L_27 ⟨by decide, by decide⟩ rfl (Nat.le_of_ble_eq_true rfl) rfl rfl (rL_fencer hx (by omega) (by omega)) ?_
    refine J_iret (M := mL_winner) dL_winner_32 rfl ?_
    first
      | exact And.intro (congrArg (fun z => some (vI (iI z))) (by unfold lwin; rw [if_pos (by omega)])) rfl
      | exact And.intro (congrArg (fun z => some (vI (iI z))) (by unfold lwin; rw [if_neg (by omega), show (lte w π e b).2.2 + 1 - 1 = (lte w π e b).2.2 by omega])) rfl
  · refine Z_iconst (M := mL_winner) dL_winner_18 ?_
    refine J_goto (M := mL_winner) (tgt := 32) dL_winner_19 (by decide) ?_
    refine J_iret (M := mL_winner) dL_winner_32 rfl ?_
    first
      | exact And.intro (congrArg (fun z => some (vI (iI z))) (by unfold lwin; rw [if_pos (by omega)])) rfl
      | exact And.intro (congrArg (fun z => some (vI (iI z))) (by unfold lwin; rw [if_neg (by omega), show (lte w π e b).2.2 + 1 - 1 = (lte w π e b).2.2 by omega])) rfl

