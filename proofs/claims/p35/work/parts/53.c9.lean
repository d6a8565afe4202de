/-! THE CLASS: contracts with throws; what it reads -/
def QE (h : LH) (ρ : TS) (P : Option LV → TS → Prop) (E : Nat → Prop) : LO → LH → Prop := fun o h' => match o with
  | .inl v => ∃ ρ', h' = hk h ρ' ∧ P v ρ'
  | .inr k => E k ∧ h' = hk h ρ
def CX (X : GX) (M : MI) (as : List LV) (h : LH) (ρ : TS) (P : Option LV → TS → Prop) (E : Nat → Prop) : Prop := CT X M as (hk h ρ) (QE h ρ P E)
section JE
variable {X : GX} {M : MI} {pc : Nat} {ls : List (Option LV)} {st : List LV} {h : LH} {ρ ρ' : TS} {k n : Nat} {P : Option LV → TS → Prop} {E : Nat → Prop} {x : Int}
theorem QE_ok {v : Option LV} (hp : P v ρ') : QE h ρ P E (.inl v) (hk h ρ') := ⟨ρ', rfl, hp⟩
theorem K_iretE (d : decode (mC M) pc = .ok (.ireturn, 1)) (hT : mT M = some .int) (hq : P (some (vI (iI x))) ρ') : J X M pc ls [vI (iI x)] (hk h ρ') k n (QE h ρ P E) := J_iret d hT (QE_ok hq)
theorem K_zretE (d : decode (mC M) pc = .ok (.ireturn, 1)) (hT : mT M = some .boolean) (hx : x = 0 ∨ x = 1) (hq : P (some (vI (iI x))) ρ') : J X M pc ls [vI (iI x)] (hk h ρ') k n (QE h ρ P E) := J_zret d hT (zb_of hx) (QE_ok hq)
theorem K_thr {ik is ic kq : Nat} (hlk : (mN M).cls = RX7) (hH : mH M = []) (f : TI ik is ic kq) (hfr : 5 < (mR M).frames) (hlo : 2 * st.length + 82 ≤ (mR M).locals) (hk1 : 1 ≤ k) (hn : 6 ≤ n)
    (dd : (decode (mC M) pc = .ok (.new ik, 3) ∧ decode (mC M) (pc + 3) = .ok (.dup, 1) ∧ decode (mC M) (pc + 4) = .ok (.ldc is, 2) ∧ decode (mC M) (pc + 6) = .ok (.invokespecial ic, 3) ∧ decode (mC M) (pc + 9) = .ok (.athrow, 1)) ∨
      (decode (mC M) pc = .ok (.new ik, 3) ∧ decode (mC M) (pc + 3) = .ok (.dup, 1) ∧ decode (mC M) (pc + 4) = .ok (.ldc_w is, 3) ∧ decode (mC M) (pc + 7) = .ok (.invokespecial ic, 3) ∧ decode (mC M) (pc + 10) = .ok (.athrow, 1))) (hE : E kq) : J X M pc ls st (hk h ρ) k n (QE h ρ P E) := J_throwA hlk hH f hfr hlo hk1 hn ⟨hE, rfl⟩ dd
end JE
def EM (l : List Nat) (g : Int) (k : Nat) : Prop := 1 ≤ g ∧ l[(g - 1).toNat]? = some k
def PX (g v : Int) (T : TS → Prop) : Option LV → TS → Prop := fun o r => g = 0 ∧ o = some (vI (iI v)) ∧ T r
theorem EM_1 {l : List Nat} {a b c : Int} {k : Nat} (h : a = 0) (hl : l[0]? = some k) : EM l (gl a b c) k := by
  have e : gl a b c = 1 := by unfold gl; rw [if_pos h]
  rw [e]
  exact ⟨by decide, hl⟩
theorem EM_2 {l : List Nat} {a b c : Int} {k : Nat} (h : ¬ a = 0) (h2 : b = 0) (hl : l[1]? = some k) : EM l (gl a b c) k := by
  have e : gl a b c = 2 := by unfold gl; rw [if_neg h, if_pos h2]
  rw [e]
  exact ⟨by decide, hl⟩
theorem EM_3 {l : List Nat} {a b c : Int} {k : Nat} (h : ¬ a = 0) (h2 : ¬ b = 0) (h3 : c = 0) (hl : l[2]? = some k) : EM l (gl a b c) k := by
  have e : gl a b c = 3 := by unfold gl; rw [if_neg h, if_neg h2, if_pos h3]
  rw [e]
  exact ⟨by decide, hl⟩
theorem n10 : ¬ (1 : Int) = 0 := by decide
abbrev isB (τ : TS) (b : Int) : Prop := (0 ≤ b ∧ b ≤ τ 9 0 - 1) ∨ (0 < τ 21 0 ∧ 101 ≤ b ∧ b ≤ 99 + τ 21 0)
def fAt (τ : TS) (n : Int) : Int := if 0 ≤ n ∧ n ≤ τ 1 0 - 1 then n else -1
def wAt (τ : TS) (n : Int) : Int := if 0 ≤ n ∧ n ≤ τ 5 0 - 1 then n else -1
noncomputable def bAt (τ : TS) (n : Int) : Int := @ite Int (isB τ n) (Classical.propDecidable _) (slo n) (-1)
def bav (ρ : TS) (n : Int) : Int := if 0 ≤ n ∧ n < ρ 3 0 then ρ 6 n else if 100 < n then (if 1 ≤ n - 100 ∧ n - 100 < ρ 43 0 then ρ 7 (n - 100) else -1) else -1
section RRF
variable {ρ τ : TS} {c : Int} (R : RR ρ τ c)
theorem fAt_e {n : Int} (R : RR ρ τ c) : (if 0 ≤ n ∧ n < ρ 1 0 then ρ 4 n else -1) = fAt τ n := by
  obtain ⟨W, V, ⟨a, b1, b2, b3, b4, b5, b6⟩, -⟩ := R
  unfold fAt
  by_cases q : 0 ≤ n ∧ n ≤ τ 1 0 - 1
  · rw [if_pos q, if_pos (by omega)]
    exact (b1 n q.1 (by omega)).1
  · rw [if_neg q, if_neg (by omega)]
theorem wAt_e {n : Int} (R : RR ρ τ c) : (if 0 ≤ n ∧ n < ρ 2 0 then ρ 5 n else -1) = wAt τ n := by
  obtain ⟨W, V, ⟨a, b1, b2, b3, b4, b5, b6⟩, -⟩ := R
  unfold wAt
  by_cases q : 0 ≤ n ∧ n ≤ τ 5 0 - 1
  · rw [if_pos q, if_pos (by omega)]
    exact (b2 n q.1 (by omega)).1
  · rw [if_neg q, if_neg (by omega)]
theorem wAt_c {n : Int} (R : RR ρ τ c) : ((0 ≤ n ∧ n ≤ τ 5 0 - 1) ∧ wAt τ n = n ∧ CE ρ 12 n ∧ ρ 13 n = n ∧ ρ 14 n = τ 2 n ∧ ρ 15 n = τ 3 n ∧ ρ 16 n = τ 4 n) ∨ (¬ (0 ≤ n ∧ n ≤ τ 5 0 - 1) ∧ wAt τ n = -1) := by
  obtain ⟨W, V, ⟨a, b1, b2, b3, b4, b5, b6⟩, s, -⟩ := R
  have w := s.2.2.2.2.2.2.2.2.2
  by_cases q : 0 ≤ n ∧ n ≤ τ 5 0 - 1
  · obtain ⟨c1, c2, c3⟩ := b2 n q.1 (by omega)
    obtain ⟨d1, d2, d3⟩ := w n q.1 (by omega)
    exact Or.inl ⟨q, if_pos q, ⟨q.1, by omega⟩, c2, c3, d1, d2⟩
  · exact Or.inr ⟨q, if_neg q⟩
theorem bAt_e {n : Int} (R : RR ρ τ c) : bav ρ n = bAt τ n := by
  obtain ⟨W, V, ⟨a, b1, b2, b3, b4, b5, b6⟩, s, -⟩ := R
  have w9 := wf9 W 0
  have w21 := wf21 W 0
  have s3 := s.1
  unfold bav bAt
  by_cases q : isB τ n
  · rw [if_pos q]
    by_cases q1 : 0 ≤ n ∧ n ≤ τ 9 0 - 1
    · rw [if_pos (by omega), (b4 n q1.1 (by omega)).1]
      unfold slo
      rw [if_neg (by omega)]
    · rw [if_neg (by omega), if_pos (by omega), if_pos (by omega), s.2.1 (n - 100) (by omega) (by omega)]
      unfold slo
      rw [if_pos (by omega)]
      omega
  · rw [if_neg q, if_neg (by omega)]
    by_cases q2 : 100 < n
    · rw [if_pos q2, if_neg (by omega)]
    · rw [if_neg q2]
theorem bAt_c {n : Int} (R : RR ρ τ c) : (isB τ n ∧ bAt τ n = slo n ∧ (0 ≤ slo n ∧ slo n < 82) ∧ BB ρ τ (slo n) ∧ (n < 100 → slo n = n ∧ n < τ 9 0) ∧ (100 ≤ n → slo n = n - 34 ∧ 1 ≤ n - 100 ∧ n - 100 < τ 21 0)) ∨ (¬ isB τ n ∧ bAt τ n = -1) := by
  obtain ⟨W, V, b, s, -⟩ := R
  have w9 := wf9 W 0
  have w21 := wf21 W 0
  by_cases q : isB τ n
  · left
    have hs : (n < 100 → slo n = n) ∧ (100 ≤ n → slo n = n - 34) := by unfold slo; split <;> omega
    have hl : LVb τ (slo n) := by
      unfold LVb
      rcases q with q | q
      · left; rw [hs.1 (by omega)]; omega
      · right; rw [hs.2 (by omega)]; omega
    have B := s.2.2.1 _ hl
    exact ⟨q, if_pos q, B.1.1, B, fun z => ⟨hs.1 z, by omega⟩, fun z => ⟨hs.2 z, by omega⟩⟩
  · right
    exact ⟨q, if_neg q⟩
end RRF
set_option maxRecDepth 100000 in
set_option maxHeartbeats 4000000 in
theorem kX7_isSide {X : GX} {h : LH} {s : Int} (hs : rg s) : CT X mX7_isSide [vI (iI s)] h (rQ (fun r h' => r = some (vI (iI (pI (0 ≤ s ∧ s ≤ 1)))) ∧ h' = h)) := by
  refine CT_of (by decide +kernel) rfl (Nat.le_of_ble_eq_true rfl) ?_
  refine J_iload_n (M := mX7_isSide) dX7_isSide_0 rfl rfl ?_
  first
    | refine Z_pf (M := mX7_isSide) (tgt := 9) dX7_isSide_1 (by decide) (fun c_1 => ?_) (fun c_1 => ?_)
    | refine Z_if_eq (M := mX7_isSide) (tgt := 9) (by first | assumption | exact pI_rg _ | (unfold rg; omega)) dX7_isSide_1 (by decide) (fun c_1 => ?_) (fun c_1 => ?_)
  · refine Z_iconst (M := mX7_isSide) dX7_isSide_9 ?_
    refine J_goto (M := mX7_isSide) (tgt := 14) dX7_isSide_10 (by decide) ?_
    refine J_zret (M := mX7_isSide) dX7_isSide_14 rfl (by first | exact pI_zb _ | exact zb_of (Or.inl rfl) | exact zb_of (Or.inr rfl) | assumption) ?_
    exact And.intro (r1 (by omega)) rfl
  · refine J_iload_n (M := mX7_isSide) dX7_isSide_4 rfl rfl ?_
    refine Z_iconst (M := mX7_isSide) dX7_isSide_5 ?_
    refine Z_ic_ne (M := mX7_isSide) (tgt := 13) (by first | assumption | exact pI_rg _ | (unfold rg; omega)) (by first | assumption | exact pI_rg _ | (unfold rg; omega)) dX7_isSide_6 (by decide) (fun c_6 => ?_) (fun c_6 => ?_)
    · refine Z_iconst (M := mX7_isSide) dX7_isSide_13 ?_
      refine J_zret (M := mX7_isSide) dX7_isSide_14 rfl (by first | exact pI_zb _ | exact zb_of (Or.inl rfl) | exact zb_of (Or.inr rfl) | assumption) ?_
      exact And.intro (r0 (by omega)) rfl
    · refine Z_iconst (M := mX7_isSide) dX7_isSide_9 ?_
      refine J_goto (M := mX7_isSide) (tgt := 14) dX7_isSide_10 (by decide) ?_
      refine J_zret (M := mX7_isSide) dX7_isSide_14 rfl (by first | exact pI_zb _ | exact zb_of (Or.inl rfl) | exact zb_of (Or.inr rfl) | assumption) ?_
      exact And.intro (r1 (by omega)) rfl

set_option maxRecDepth 100000 in
set_option maxHeartbeats 4000000 in
theorem kX7_isSideOrNone {X : GX} {h : LH} {s : Int} (hs : rg s) : CT X mX7_isSideOrNone [vI (iI s)] h (rQ (fun r h' => r = some (vI (iI (pI (-1 ≤ s ∧ s ≤ 1)))) ∧ h' = h)) := by
  refine CT_of (by decide +kernel) rfl (Nat.le_of_ble_eq_true rfl) ?_
  refine J_iload_n (M := mX7_isSideOrNone) dX7_isSideOrNone_0 rfl rfl ?_
  refine Z_iconst (M := mX7_isSideOrNone) dX7_isSideOrNone_1 ?_
  refine Z_ic_eq (M := mX7_isSideOrNone) (tgt := 12) (by first | assumption | exact pI_rg _ | (unfold rg; omega)) (by first | assumption | exact pI_rg _ | (unfold rg; omega)) dX7_isSideOrNone_2 (by decide) (fun c_2 => ?_) (fun c_2 => ?_)
  · refine Z_iconst (M := mX7_isSideOrNone) dX7_isSideOrNone_12 ?_
    refine J_goto (M := mX7_isSideOrNone) (tgt := 17) dX7_isSideOrNone_13 (by decide) ?_
    refine J_zret (M := mX7_isSideOrNone) dX7_isSideOrNone_17 rfl (by first | exact pI_zb _ | exact zb_of (Or.inl rfl) | exact zb_of (Or.inr rfl) | assumption) ?_
    exact And.intro (r1 (by omega)) rfl
  · refine J_iload_n (M := mX7_isSideOrNone) dX7_isSideOrNone_5 rfl rfl ?_
    refine M_callS (M := mX7_isSideOrNone) (as := [_]) dX7_isSideOrNone_6 ca_X7_144 ⟨by decide, by decide⟩ rfl (Nat.le_of_ble_eq_true rfl) rfl rfl (kX7_isSide (by first | assumption | exact pI_rg _ | (unfold rg; omega))) ?_
    first
      | refine Z_pf (M := mX7_isSideOrNone) (tgt := 16) dX7_isSideOrNone_9 (by decide) (fun c_9 => ?_) (fun c_9 => ?_)
      | refine Z_if_eq (M := mX7_isSideOrNone) (tgt := 16) (by first | assumption | exact pI_rg _ | (unfold rg; omega)) dX7_isSideOrNone_9 (by decide) (fun c_9 => ?_) (fun c_9 => ?_)
    · refine Z_iconst (M := mX7_isSideOrNone) dX7_isSideOrNone_16 ?_
      refine J_zret (M := mX7_isSideOrNone) dX7_isSideOrNone_17 rfl (by first | exact pI_zb _ | exact zb_of (Or.inl rfl) | exact zb_of (Or.inr rfl) | assumption) ?_
      exact And.intro (r0 (by omega)) rfl
    · refine Z_iconst (M := mX7_isSideOrNone) dX7_isSideOrNone_12 ?_
      refine J_goto (M := mX7_isSideOrNone) (tgt := 17) dX7_isSideOrNone_13 (by decide) ?_
      refine J_zret (M := mX7_isSideOrNone) dX7_isSideOrNone_17 rfl (by first | exact pI_zb _ | exact zb_of (Or.inl rfl) | exact zb_of (Or.inr rfl) | assumption) ?_
      exact And.intro (r1 (by omega)) rfl

set_option maxRecDepth 100000 in
set_option maxHeartbeats 4000000 in
theorem kX7_fencerAt {X : GX} {h : LH} {ρ : TS} (V : WK ρ) {n : Int} (hn : rg n) : CK X mX7_fencerAt [vR (some (1, 0)), vI (iI n)] h ρ (fun v r => v = some (vR (rfo 11 (if 0 ≤ n ∧ n < ρ 1 0 then ρ 4 n else -1))) ∧ r = ρ) := by
  have b := wk1 V 0
  refine CT_of (by decide +kernel) rfl (Nat.le_of_ble_eq_true rfl) ?_
  refine J_iload_n (M := mX7_fencerAt) dX7_fencerAt_0 rfl rfl ?_
  refine Z_if_lt (M := mX7_fencerAt) (tgt := 21) (by first | assumption | exact pI_rg _ | (unfold rg; omega)) dX7_fencerAt_1 (by decide) (fun c_1 => ?_) (fun c_1 => ?_)
  · refine J_null (M := mX7_fencerAt) dX7_fencerAt_21 ?_
    first | refine Z_uns (M := mX7_fencerAt) (by omega) ?_ | refine Z_unn (M := mX7_fencerAt) 11 ?_ | skip
    refine J_aret (M := mX7_fencerAt) dX7_fencerAt_22 rfl (QK_ok ?_)
    first
      | (exfalso; omega)
      | exact And.intro (by rw [if_pos (by omega)]) rfl
      | exact And.intro (by rw [if_neg (by omega)]) rfl
  · refine J_iload_n (M := mX7_fencerAt) dX7_fencerAt_4 rfl rfl ?_
    refine J_aload_n (M := mX7_fencerAt) dX7_fencerAt_5 rfl rfl ?_
    refine J_getf (M := mX7_fencerAt) dX7_fencerAt_6 fi_X7_52 (hk_1 (by first | exact rfl | assumption | exact Or.inl (by assumption) | exact Or.inr rfl | (show 0 ≤ _ ∧ _ < _; omega))) rfl ?_
    refine Z_wb (M := mX7_fencerAt) (g := ρ 1) (wk1 V) rfl (fun wb_1_8 => ?_)
    refine Z_ic_ge (M := mX7_fencerAt) (tgt := 21) (by first | assumption | exact pI_rg _ | (unfold rg; omega)) (by first | assumption | exact pI_rg _ | (unfold rg; omega)) dX7_fencerAt_9 (by decide) (fun c_9 => ?_) (fun c_9 => ?_)
    · refine J_null (M := mX7_fencerAt) dX7_fencerAt_21 ?_
      first | refine Z_uns (M := mX7_fencerAt) (by omega) ?_ | refine Z_unn (M := mX7_fencerAt) 11 ?_ | skip
      refine J_aret (M := mX7_fencerAt) dX7_fencerAt_22 rfl (QK_ok ?_)
      first
        | (exfalso; omega)
        | exact And.intro (by rw [if_pos (by omega)]) rfl
        | exact And.intro (by rw [if_neg (by omega)]) rfl
    · refine J_aload_n (M := mX7_fencerAt) dX7_fencerAt_12 rfl rfl ?_
      refine J_getf (M := mX7_fencerAt) dX7_fencerAt_13 fi_X7_11 (hk_1 (by first | exact rfl | assumption | exact Or.inl (by assumption) | exact Or.inr rfl | (show 0 ≤ _ ∧ _ < _; omega))) rfl ?_
      refine J_iload_n (M := mX7_fencerAt) dX7_fencerAt_16 rfl rfl ?_
      refine Z_aald (M := mX7_fencerAt) dX7_fencerAt_17 (by decide) rfl (hk_2 (by first | exact rfl | assumption | exact Or.inl (by assumption) | exact Or.inr rfl | (show 0 ≤ _ ∧ _ < _; omega))) (by decide) (by omega) (by omega) ?_
      refine Z_req (M := mX7_fencerAt) (rar_at (by omega)) ?_
      refine Z_rfe (M := mX7_fencerAt) (sub_at ⟨by omega, by omega⟩) ?_
      refine Z_rwb (M := mX7_fencerAt) (g := ρ 4) (wk4 V) (congrArg (ρ 4) (z0 _ _)) (fun wb_4_18 => ?_)
      first | refine Z_some (M := mX7_fencerAt) (by omega) ?_ | skip
      refine J_goto (M := mX7_fencerAt) (tgt := 22) dX7_fencerAt_18 (by decide) ?_
      first | refine Z_uns (M := mX7_fencerAt) (by omega) ?_ | refine Z_unn (M := mX7_fencerAt) 11 ?_ | skip
      refine J_aret (M := mX7_fencerAt) dX7_fencerAt_22 rfl (QK_ok ?_)
      first
        | (exfalso; omega)
        | exact And.intro (by rw [if_pos (by omega)]) rfl
        | exact And.intro (by rw [if_neg (by omega)]) rfl

set_option maxRecDepth 100000 in
set_option maxHeartbeats 4000000 in
theorem kX7_weaponAt {X : GX} {h : LH} {ρ : TS} (V : WK ρ) {n : Int} (hn : rg n) : CK X mX7_weaponAt [vR (some (1, 0)), vI (iI n)] h ρ (fun v r => v = some (vR (rfo 12 (if 0 ≤ n ∧ n < ρ 2 0 then ρ 5 n else -1))) ∧ r = ρ) := by
  have b := wk2 V 0
  refine CT_of (by decide +kernel) rfl (Nat.le_of_ble_eq_true rfl) ?_
  refine J_iload_n (M := mX7_weaponAt) dX7_weaponAt_0 rfl rfl ?_
  refine Z_if_lt (M := mX7_weaponAt) (tgt := 21) (by first | assumption | exact pI_rg _ | (unfold rg; omega)) dX7_weaponAt_1 (by decide) (fun c_1 => ?_) (fun c_1 => ?_)
  · refine J_null (M := mX7_weaponAt) dX7_weaponAt_21 ?_
    first | refine Z_uns (M := mX7_weaponAt) (by omega) ?_ | refine Z_unn (M := mX7_weaponAt) 12 ?_ | skip
    refine J_aret (M := mX7_weaponAt) dX7_weaponAt_22 rfl (QK_ok ?_)
    first
      | (exfalso; omega)
      | exact And.intro (by rw [if_pos (by omega)]) rfl
      | exact And.intro (by rw [if_neg (by omega)]) rfl
  · refine J_iload_n (M := mX7_weaponAt) dX7_weaponAt_4 rfl rfl ?_
    refine J_aload_n (M := mX7_weaponAt) dX7_weaponAt_5 rfl rfl ?_
    refine J_getf (M := mX7_weaponAt) dX7_weaponAt_6 fi_X7_79 (hk_1 (by first | exact rfl | assumption | exact Or.inl (by assumption) | exact Or.inr rfl | (show 0 ≤ _ ∧ _ < _; omega))) rfl ?_
    refine Z_wb (M := mX7_weaponAt) (g := ρ 2) (wk2 V) rfl (fun wb_2_8 => ?_)
    refine Z_ic_ge (M := mX7_weaponAt) (tgt := 21) (by first | assumption | exact pI_rg _ | (unfold rg; omega)) (by first | assumption | exact pI_rg _ | (unfold rg; omega)) dX7_weaponAt_9 (by decide) (fun c_9 => ?_) (fun c_9 => ?_)
    · refine J_null (M := mX7_weaponAt) dX7_weaponAt_21 ?_
      first | refine Z_uns (M := mX7_weaponAt) (by omega) ?_ | refine Z_unn (M := mX7_weaponAt) 12 ?_ | skip
      refine J_aret (M := mX7_weaponAt) dX7_weaponAt_22 rfl (QK_ok ?_)
      first
        | (exfalso; omega)
        | exact And.intro (by rw [if_pos (by omega)]) rfl
        | exact And.intro (by rw [if_neg (by omega)]) rfl
    · refine J_aload_n (M := mX7_weaponAt) dX7_weaponAt_12 rfl rfl ?_
      refine J_getf (M := mX7_weaponAt) dX7_weaponAt_13 fi_X7_17 (hk_1 (by first | exact rfl | assumption | exact Or.inl (by assumption) | exact Or.inr rfl | (show 0 ≤ _ ∧ _ < _; omega))) rfl ?_
      refine J_iload_n (M := mX7_weaponAt) dX7_weaponAt_16 rfl rfl ?_
      refine Z_aald (M := mX7_weaponAt) dX7_weaponAt_17 (by decide) rfl (hk_3 (by first | exact rfl | assumption | exact Or.inl (by assumption) | exact Or.inr rfl | (show 0 ≤ _ ∧ _ < _; omega))) (by decide) (by omega) (by omega) ?_
      refine Z_req (M := mX7_weaponAt) (rar_at (by omega)) ?_
      refine Z_rfe (M := mX7_weaponAt) (sub_at ⟨by omega, by omega⟩) ?_
      refine Z_rwb (M := mX7_weaponAt) (g := ρ 5) (wk5 V) (congrArg (ρ 5) (z0 _ _)) (fun wb_5_18 => ?_)
      first | refine Z_some (M := mX7_weaponAt) (by omega) ?_ | skip
      refine J_goto (M := mX7_weaponAt) (tgt := 22) dX7_weaponAt_18 (by decide) ?_
      first | refine Z_uns (M := mX7_weaponAt) (by omega) ?_ | refine Z_unn (M := mX7_weaponAt) 12 ?_ | skip
      refine J_aret (M := mX7_weaponAt) dX7_weaponAt_22 rfl (QK_ok ?_)
      first
        | (exfalso; omega)
        | exact And.intro (by rw [if_pos (by omega)]) rfl
        | exact And.intro (by rw [if_neg (by omega)]) rfl

set_option maxRecDepth 100000 in
set_option maxHeartbeats 4000000 in
theorem kX7_boutAt {X : GX} {h : LH} {ρ : TS} (V : WK ρ) {n : Int} (hn : rg n) : CK X mX7_boutAt [vR (some (1, 0)), vI (iI n)] h ρ (fun v r => v = some (vR (rfo 13 (bav ρ n))) ∧ r = ρ) := by
  have b := wk3 V 0
  refine CT_of (by decide +kernel) rfl (Nat.le_of_ble_eq_true rfl) ?_
  refine J_iload_n (M := mX7_boutAt) dX7_boutAt_0 rfl rfl ?_
  refine Z_if_lt (M := mX7_boutAt) (tgt := 19) (by first | assumption | exact pI_rg _ | (unfold rg; omega)) dX7_boutAt_1 (by decide) (fun c_1 => ?_) (fun c_1 => ?_)
  · refine J_iload_n (M := mX7_boutAt) dX7_boutAt_19 rfl rfl ?_
    refine Z_bipush (M := mX7_boutAt) dX7_boutAt_20 rfl ?_
    refine Z_ic_le (M := mX7_boutAt) (tgt := 39) (by first | assumption | exact pI_rg _ | (unfold rg; omega)) (by first | assumption | exact pI_rg _ | (unfold rg; omega)) dX7_boutAt_22 (by decide) (fun c_22 => ?_) (fun c_22 => ?_)
    · refine J_null (M := mX7_boutAt) dX7_boutAt_39 ?_
      first | refine Z_uns (M := mX7_boutAt) (by omega) ?_ | refine Z_unn (M := mX7_boutAt) 13 ?_ | skip
      refine J_aret (M := mX7_boutAt) dX7_boutAt_40 rfl (QK_ok ?_)
      first
        | (exfalso; omega)
        | exact And.intro (by unfold bav; first | (rw [if_pos (show 0 ≤ n ∧ n < ρ 3 0 by omega)]; done) | (rw [if_neg (show ¬ (0 ≤ n ∧ n < ρ 3 0) by omega), if_pos (show 100 < n by omega)]; done) | (rw [if_neg (show ¬ (0 ≤ n ∧ n < ρ 3 0) by omega), if_neg (show ¬ 100 < n by omega)]; done)) rfl
    · refine J_aload_n (M := mX7_boutAt) dX7_boutAt_25 rfl rfl ?_
      refine J_getf (M := mX7_boutAt) dX7_boutAt_26 fi_X7_37 (hk_1 (by first | exact rfl | assumption | exact Or.inl (by assumption) | exact Or.inr rfl | (show 0 ≤ _ ∧ _ < _; omega))) rfl ?_
      refine J_iload_n (M := mX7_boutAt) dX7_boutAt_29 rfl rfl ?_
      refine Z_bipush (M := mX7_boutAt) dX7_boutAt_30 rfl ?_
      refine Z_isub (M := mX7_boutAt) dX7_boutAt_32 ?_
      refine J_callV (M := mX7_boutAt) (as := [_]) dX7_boutAt_33 ca_X7_334 ⟨by decide, by decide⟩ (hk_6 (by first | exact rfl | assumption | exact Or.inl (by assumption) | exact Or.inr rfl | (show 0 ≤ _ ∧ _ < _; omega))) rfl (Nat.le_of_ble_eq_true rfl) (k' := 0) (n' := 0) (by decide) (by decide) (kX4_boutAt V (by unfold rg at *; omega)) (fun v_33 h_33 hv_33 => ?_)
      obtain ⟨r_33, rfl, hv_33⟩ := hv_33
      obtain ⟨rfl, e_33⟩ := hv_33
      rw [e_33]
      refine J_goto (M := mX7_boutAt) (tgt := 40) dX7_boutAt_36 (by decide) ?_
      first | refine Z_uns (M := mX7_boutAt) (by omega) ?_ | refine Z_unn (M := mX7_boutAt) 13 ?_ | skip
      refine J_aret (M := mX7_boutAt) dX7_boutAt_40 rfl (QK_ok ?_)
      first
        | (exfalso; omega)
        | exact And.intro (by unfold bav; first | (rw [if_pos (show 0 ≤ n ∧ n < ρ 3 0 by omega)]; done) | (rw [if_neg (show ¬ (0 ≤ n ∧ n < ρ 3 0) by omega), if_pos (show 100 < n by omega)]; done) | (rw [if_neg (show ¬ (0 ≤ n ∧ n < ρ 3 0) by omega), if_neg (show ¬ 100 < n by omega)]; done)) rfl
  · refine J_iload_n (M := mX7_boutAt) dX7_boutAt_4 rfl rfl ?_
    refine J_aload_n (M := mX7_boutAt) dX7_boutAt_5 rfl rfl ?_
    refine J_getf (M := mX7_boutAt) dX7_boutAt_6 fi_X7_284 (hk_1 (by first | exact rfl | assumption | exact Or.inl (by assumption) | exact Or.inr rfl | (show 0 ≤ _ ∧ _ < _; omega))) rfl ?_
    refine Z_wb (M := mX7_boutAt) (g := ρ 3) (wk3 V) rfl (fun wb_3_22 => ?_)
    refine Z_ic_ge (M := mX7_boutAt) (tgt := 19) (by first | assumption | exact pI_rg _ | (unfold rg; omega)) (by first | assumption | exact pI_rg _ | (unfold rg; omega)) dX7_boutAt_9 (by decide) (fun c_9 => ?_) (fun c_9 => ?_)
    · refine J_iload_n (M := mX7_boutAt) dX7_boutAt_19 rfl rfl ?_
      refine Z_bipush (M := mX7_boutAt) dX7_boutAt_20 rfl ?_
      refine Z_ic_le (M := mX7_boutAt) (tgt := 39) (by first | assumption | exact pI_rg _ | (unfold rg; omega)) (by first | assumption | exact pI_rg _ | (unfold rg; omega)) dX7_boutAt_22 (by decide) (fun c_22 => ?_) (fun c_22 => ?_)
      · refine J_null (M := mX7_boutAt) dX7_boutAt_39 ?_
        first | refine Z_uns (M := mX7_boutAt) (by omega) ?_ | refine Z_unn (M := mX7_boutAt) 13 ?_ | skip
        refine J_aret (M := mX7_boutAt) dX7_boutAt_40 rfl (QK_ok ?_)
        first
          | (exfalso; omega)
          | exact And.intro (by unfold bav; first | (rw [if_pos (show 0 ≤ n ∧ n < ρ 3 0 by omega)]; done) | (rw [if_neg (show ¬ (0 ≤ n ∧ n < ρ 3 0) by omega), if_pos (show 100 < n by omega)]; done) | (rw [if_neg (show ¬ (0 ≤ n ∧ n < ρ 3 0) by omega), if_neg (show ¬ 100 < n by omega)]; done)) rfl
      · refine J_aload_n (M := mX7_boutAt) dX7_boutAt_25 rfl rfl ?_
        refine J_getf (M := mX7_boutAt) dX7_boutAt_26 fi_X7_37 (hk_1 (by first | exact rfl | assumption | exact Or.inl (by assumption) | exact Or.inr rfl | (show 0 ≤ _ ∧ _ < _; omega))) rfl ?_
        refine J_iload_n (M := mX7_boutAt) dX7_boutAt_29 rfl rfl ?_
        refine Z_bipush (M := mX7_boutAt) dX7_boutAt_30 rfl ?_
        refine Z_isub (M := mX7_boutAt) dX7_boutAt_32 ?_
        refine J_callV (M := mX7_boutAt) (as := [_]) dX7_boutAt_33 ca_X7_334 ⟨by decide, by decide⟩ (hk_6 (by first | exact rfl | assumption | exact Or.inl (by assumption) | exact Or.inr rfl | (show 0 ≤ _ ∧ _ < _; omega))) rfl (Nat.le_of_ble_eq_true rfl) (k' := 0) (n' := 0) (by decide) (by decide) (kX4_boutAt V (by unfold rg at *; omega)) (fun v_33 h_33 hv_33 => ?_)
        obtain ⟨r_33, rfl, hv_33⟩ := hv_33
        obtain ⟨rfl, e_33⟩ := hv_33
        rw [e_33]
        refine J_goto (M := mX7_boutAt) (tgt := 40) dX7_boutAt_36 (by decide) ?_
        first | refine Z_uns (M := mX7_boutAt) (by omega) ?_ | refine Z_unn (M := mX7_boutAt) 13 ?_ | skip
        refine J_aret (M := mX7_boutAt) dX7_boutAt_40 rfl (QK_ok ?_)
        first
          | (exfalso; omega)
          | exact And.intro (by unfold bav; first | (rw [if_pos (show 0 ≤ n ∧ n < ρ 3 0 by omega)]; done) | (rw [if_neg (show ¬ (0 ≤ n ∧ n < ρ 3 0) by omega), if_pos (show 100 < n by omega)]; done) | (rw [if_neg (show ¬ (0 ≤ n ∧ n < ρ 3 0) by omega), if_neg (show ¬ 100 < n by omega)]; done)) rfl
    · refine J_aload_n (M := mX7_boutAt) dX7_boutAt_12 rfl rfl ?_
      refine J_getf (M := mX7_boutAt) dX7_boutAt_13 fi_X7_23 (hk_1 (by first | exact rfl | assumption | exact Or.inl (by assumption) | exact Or.inr rfl | (show 0 ≤ _ ∧ _ < _; omega))) rfl ?_
      refine J_iload_n (M := mX7_boutAt) dX7_boutAt_16 rfl rfl ?_
      refine Z_aald (M := mX7_boutAt) dX7_boutAt_17 (by decide) rfl (hk_4 (by first | exact rfl | assumption | exact Or.inl (by assumption) | exact Or.inr rfl | (show 0 ≤ _ ∧ _ < _; omega))) (by decide) (by omega) (by omega) ?_
      refine Z_req (M := mX7_boutAt) (rar_at (by omega)) ?_
      refine Z_rfe (M := mX7_boutAt) (sub_at ⟨by omega, by omega⟩) ?_
      refine Z_rwb (M := mX7_boutAt) (g := ρ 6) (wk6 V) (congrArg (ρ 6) (z0 _ _)) (fun wb_6_46 => ?_)
      first | refine Z_some (M := mX7_boutAt) (by omega) ?_ | skip
      first | refine Z_uns (M := mX7_boutAt) (by omega) ?_ | refine Z_unn (M := mX7_boutAt) 13 ?_ | skip
      refine J_aret (M := mX7_boutAt) dX7_boutAt_18 rfl (QK_ok ?_)
      first
        | (exfalso; omega)
        | exact And.intro (by unfold bav; first | (rw [if_pos (show 0 ≤ n ∧ n < ρ 3 0 by omega)]; done) | (rw [if_neg (show ¬ (0 ≤ n ∧ n < ρ 3 0) by omega), if_pos (show 100 < n by omega)]; done) | (rw [if_neg (show ¬ (0 ≤ n ∧ n < ρ 3 0) by omega), if_neg (show ¬ 100 < n by omega)]; done)) rfl

set_option maxRecDepth 100000 in
set_option maxHeartbeats 4000000 in
theorem kX7_arePoolsDrawn {X : GX} {h : LH} {ρ : TS} (V : WK ρ) : CK X mX7_arePoolsDrawn [vR (some (1, 0))] h ρ (fun v r => v = some (vI (iI (pI (0 < ρ 3 0)))) ∧ r = ρ) := by
  refine CT_of (by decide +kernel) rfl (Nat.le_of_ble_eq_true rfl) ?_
  refine J_aload_n (M := mX7_arePoolsDrawn) dX7_arePoolsDrawn_0 rfl rfl ?_
  refine J_getf (M := mX7_arePoolsDrawn) dX7_arePoolsDrawn_1 fi_X7_284 (hk_1 (by first | exact rfl | assumption | exact Or.inl (by assumption) | exact Or.inr rfl | (show 0 ≤ _ ∧ _ < _; omega))) rfl ?_
  refine Z_wb (M := mX7_arePoolsDrawn) (g := ρ 3) (wk3 V) rfl (fun wb_3_2 => ?_)
  refine Z_if_le (M := mX7_arePoolsDrawn) (tgt := 11) (by first | assumption | exact pI_rg _ | (unfold rg; omega)) dX7_arePoolsDrawn_4 (by decide) (fun c_4 => ?_) (fun c_4 => ?_)
  · refine Z_iconst (M := mX7_arePoolsDrawn) dX7_arePoolsDrawn_11 ?_
    refine K_zret dX7_arePoolsDrawn_12 rfl (by first | exact pI_01 _ | exact Or.inl rfl | exact Or.inr rfl | omega) ?_
    exact And.intro (r0 (by omega)) rfl
  · refine Z_iconst (M := mX7_arePoolsDrawn) dX7_arePoolsDrawn_7 ?_
    refine J_goto (M := mX7_arePoolsDrawn) (tgt := 12) dX7_arePoolsDrawn_8 (by decide) ?_
    refine K_zret dX7_arePoolsDrawn_12 rfl (by first | exact pI_01 _ | exact Or.inl rfl | exact Or.inr rfl | omega) ?_
    exact And.intro (r1 (by omega)) rfl

def ltv (ρ : TS) (p : Int) : Int := if 0 < ρ 33 p then ρ 32 (8 * p + (ρ 33 p - 1)) else 0
set_option maxRecDepth 100000 in
set_option maxHeartbeats 4000000 in
theorem kX7_isTooEarly {X : GX} {h : LH} {ρ : TS} (V : WK ρ) {t : Int} (ht : rg t) (hr : 0 ≤ ρ 41 0 → ρ 41 0 < ρ 47 2) : CK X mX7_isTooEarly [vR (some (1, 0)), vI (iI t)] h ρ (fun v r => v = some (vI (iI (pI (t < 0 ∨ (0 ≤ ρ 41 0 ∧ t < ltv ρ (ρ 41 0)))))) ∧ r = ρ) := by
  have b : 0 ≤ ltv ρ (ρ 41 0) ∧ ltv ρ (ρ 41 0) ≤ 2147483647 := by
    have := wk32 V (8 * ρ 41 0 + (ρ 33 (ρ 41 0) - 1))
    unfold ltv
    split <;> omega
  refine CT_of (by decide +kernel) rfl (Nat.le_of_ble_eq_true rfl) ?_
  refine J_aload_n (M := mX7_isTooEarly) dX7_isTooEarly_0 rfl rfl ?_
  refine J_getf (M := mX7_isTooEarly) dX7_isTooEarly_1 fi_X7_30 (hk_1 (by first | exact rfl | assumption | exact Or.inl (by assumption) | exact Or.inr rfl | (show 0 ≤ _ ∧ _ < _; omega))) rfl ?_
  refine J_getf (M := mX7_isTooEarly) dX7_isTooEarly_4 fi_X7_101 (hk_5 (by first | exact rfl | assumption | exact Or.inl (by assumption) | exact Or.inr rfl | (show 0 ≤ _ ∧ _ < _; omega))) rfl ?_
  refine Z_rwb (M := mX7_isTooEarly) (g := ρ 41) (wk41 V) rfl (fun wb_41_3 => ?_)
  first | refine Z_some (M := mX7_isTooEarly) (by omega) ?_ | skip
  refine J_astore_n (M := mX7_isTooEarly) dX7_isTooEarly_7 rfl (by decide) ?_
  refine J_iload_n (M := mX7_isTooEarly) dX7_isTooEarly_8 rfl rfl ?_
  refine Z_if_lt (M := mX7_isTooEarly) (tgt := 24) (by first | assumption | exact pI_rg _ | (unfold rg; omega)) dX7_isTooEarly_9 (by decide) (fun c_9 => ?_) (fun c_9 => ?_)
  · refine Z_iconst (M := mX7_isTooEarly) dX7_isTooEarly_24 ?_
    refine J_goto (M := mX7_isTooEarly) (tgt := 29) dX7_isTooEarly_25 (by decide) ?_
    refine K_zret dX7_isTooEarly_29 rfl (by first | exact pI_01 _ | exact Or.inl rfl | exact Or.inr rfl | omega) ?_
    exact And.intro (r1 (by omega)) rfl
  · refine J_aload_n (M := mX7_isTooEarly) dX7_isTooEarly_12 rfl rfl ?_
    first | refine Z_some (M := mX7_isTooEarly) (by omega) ?_ | skip
    first | refine Z_uns (M := mX7_isTooEarly) (by omega) ?_ | skip
    refine K_ifnull (tgt := 28) dX7_isTooEarly_13 (by decide) (fun c_13 => ?_) (fun c_13 => ?_)
    · refine Z_iconst (M := mX7_isTooEarly) dX7_isTooEarly_28 ?_
      refine K_zret dX7_isTooEarly_29 rfl (by first | exact pI_01 _ | exact Or.inl rfl | exact Or.inr rfl | omega) ?_
      exact And.intro (r0 (by omega)) rfl
    · refine J_iload_n (M := mX7_isTooEarly) dX7_isTooEarly_16 rfl rfl ?_
      refine J_aload_n (M := mX7_isTooEarly) dX7_isTooEarly_17 rfl rfl ?_
      first | refine Z_some (M := mX7_isTooEarly) (by omega) ?_ | skip
      refine J_callV (M := mX7_isTooEarly) (as := []) dX7_isTooEarly_18 ca_X7_331 ⟨by decide, by decide⟩ (hk_16 (by first | exact rfl | assumption | exact Or.inl (by assumption) | exact Or.inr rfl | (show 0 ≤ _ ∧ _ < _; omega))) rfl (Nat.le_of_ble_eq_true rfl) (k' := 0) (n' := 0) (by decide) (by decide) (kX2_latestTime V (show 0 ≤ _ ∧ _ < _ by omega)) (fun v_18 h_18 hv_18 => ?_)
      obtain ⟨r_18, rfl, hv_18⟩ := hv_18
      obtain ⟨rfl, e_18⟩ := hv_18
      rw [e_18]
      refine Z_eq (M := mX7_isTooEarly) (show _ = ltv ρ (ρ 41 0) from rfl) ?_
      refine Z_ic_ge (M := mX7_isTooEarly) (tgt := 28) (by first | assumption | exact pI_rg _ | (unfold rg; omega)) (by first | assumption | exact pI_rg _ | (unfold rg; omega)) dX7_isTooEarly_21 (by decide) (fun c_21 => ?_) (fun c_21 => ?_)
      · refine Z_iconst (M := mX7_isTooEarly) dX7_isTooEarly_28 ?_
        refine K_zret dX7_isTooEarly_29 rfl (by first | exact pI_01 _ | exact Or.inl rfl | exact Or.inr rfl | omega) ?_
        exact And.intro (r0 (by omega)) rfl
      · refine Z_iconst (M := mX7_isTooEarly) dX7_isTooEarly_24 ?_
        refine J_goto (M := mX7_isTooEarly) (tgt := 29) dX7_isTooEarly_25 (by decide) ?_
        refine K_zret dX7_isTooEarly_29 rfl (by first | exact pI_01 _ | exact Or.inl rfl | exact Or.inr rfl | omega) ?_
        exact And.intro (r1 (by omega)) rfl

set_option maxRecDepth 100000 in
set_option maxHeartbeats 4000000 in
theorem p_size {X : GX} {h : LH} {ρ τ : TS} {c : Int} (R : RR ρ τ c) : CK X mX7_size [vR (some (1, 0))] h ρ (fun v r => v = some (vI (iI (τ 21 0))) ∧ r = ρ) := by
  have W := R.1
  have V := R.2.1
  obtain ⟨b0, -⟩ := R.2.2.1
  have s0 := R.2.2.2.1.1
  refine CT_of (by decide +kernel) rfl (Nat.le_of_ble_eq_true rfl) ?_
  refine J_aload_n (M := mX7_size) dX7_size_0 rfl rfl ?_
  refine J_getf (M := mX7_size) dX7_size_1 fi_X7_37 (hk_1 (by first | exact rfl | assumption | exact Or.inl (by assumption) | exact Or.inr rfl | (show 0 ≤ _ ∧ _ < _; omega))) rfl ?_
  refine J_getf (M := mX7_size) dX7_size_4 fi_X7_320 (hk_6 (by first | exact rfl | assumption | exact Or.inl (by assumption) | exact Or.inr rfl | (show 0 ≤ _ ∧ _ < _; omega))) rfl ?_
  refine Z_eq (M := mX7_size) (b := ρ 43 _) rfl ?_
  refine K_iret dX7_size_7 rfl ?_
  exact And.intro (by rw [s0.1]) rfl

set_option maxRecDepth 100000 in
set_option maxHeartbeats 4000000 in
theorem p_gone {X : GX} {h : LH} {ρ τ : TS} {c : Int} (R : RR ρ τ c) : CK X mX7_gone [vR (some (1, 0))] h ρ (fun v r => v = some (vI (iI (τ 24 0))) ∧ r = ρ) := by
  have W := R.1
  have V := R.2.1
  obtain ⟨b0, -⟩ := R.2.2.1
  have s0 := R.2.2.2.1.1
  refine CT_of (by decide +kernel) rfl (Nat.le_of_ble_eq_true rfl) ?_
  refine J_aload_n (M := mX7_gone) dX7_gone_0 rfl rfl ?_
  refine J_getf (M := mX7_gone) dX7_gone_1 fi_X7_37 (hk_1 (by first | exact rfl | assumption | exact Or.inl (by assumption) | exact Or.inr rfl | (show 0 ≤ _ ∧ _ < _; omega))) rfl ?_
  refine J_getf (M := mX7_gone) dX7_gone_4 fi_X7_328 (hk_6 (by first | exact rfl | assumption | exact Or.inl (by assumption) | exact Or.inr rfl | (show 0 ≤ _ ∧ _ < _; omega))) rfl ?_
  refine Z_eq (M := mX7_gone) (b := ρ 44 _) rfl ?_
  refine K_iret dX7_gone_7 rfl ?_
  exact And.intro (by rw [s0.2.1]) rfl

set_option maxRecDepth 100000 in
set_option maxHeartbeats 4000000 in
theorem p_piste {X : GX} {h : LH} {ρ τ : TS} {c : Int} (R : RR ρ τ c) : CK X mX7_piste [vR (some (1, 0))] h ρ (fun v r => v = some (vI (iI (τ 17 0))) ∧ r = ρ) := by
  have W := R.1
  have V := R.2.1
  have e0 : ρ 37 0 = τ 17 0 := by
    by_cases q : τ 19 0 = 0
    · exact (R.2.2.2.2.1.1 q).2.1
    · exact (R.2.2.2.2.1.2 q).2.2.1
  refine CT_of (by decide +kernel) rfl (Nat.le_of_ble_eq_true rfl) ?_
  refine J_aload_n (M := mX7_piste) dX7_piste_0 rfl rfl ?_
  refine J_getf (M := mX7_piste) dX7_piste_1 fi_X7_30 (hk_1 (by first | exact rfl | assumption | exact Or.inl (by assumption) | exact Or.inr rfl | (show 0 ≤ _ ∧ _ < _; omega))) rfl ?_
  refine J_getf (M := mX7_piste) dX7_piste_4 fi_X7_249 (hk_5 (by first | exact rfl | assumption | exact Or.inl (by assumption) | exact Or.inr rfl | (show 0 ≤ _ ∧ _ < _; omega))) rfl ?_
  refine Z_eq (M := mX7_piste) (b := ρ 37 _) rfl ?_
  refine K_iret dX7_piste_7 rfl ?_
  exact And.intro (by rw [e0]) rfl

set_option maxRecDepth 100000 in
set_option maxHeartbeats 4000000 in
theorem p_isFencing {X : GX} {h : LH} {ρ τ : TS} {c : Int} (R : RR ρ τ c) : CK X mX7_isFencing [vR (some (1, 0))] h ρ (fun v r => v = some (vI (iI (τ 19 0))) ∧ r = ρ) := by
  have W := R.1
  have V := R.2.1
  have b19 := wf19 W 0
  have b41 := wk41 V 0
  have e0 : ∀ {x : Int}, (x = if 0 ≤ ρ 41 0 then 1 else 0) → τ 19 0 = x := by
    intro x hx
    by_cases q : τ 19 0 = 0
    · have := (R.2.2.2.2.1.1 q).1
      rw [hx, if_neg (by omega)]; exact q
    · have := (R.2.2.2.2.1.2 q).2.2.2.2.2.1.1
      rw [hx, if_pos (by omega)]; omega
  refine CT_of (by decide +kernel) rfl (Nat.le_of_ble_eq_true rfl) ?_
  refine J_aload_n (M := mX7_isFencing) dX7_isFencing_0 rfl rfl ?_
  refine J_getf (M := mX7_isFencing) dX7_isFencing_1 fi_X7_30 (hk_1 (by first | exact rfl | assumption | exact Or.inl (by assumption) | exact Or.inr rfl | (show 0 ≤ _ ∧ _ < _; omega))) rfl ?_
  refine J_getf (M := mX7_isFencing) dX7_isFencing_4 fi_X7_101 (hk_5 (by first | exact rfl | assumption | exact Or.inl (by assumption) | exact Or.inr rfl | (show 0 ≤ _ ∧ _ < _; omega))) rfl ?_
  refine Z_rfe (M := mX7_isFencing) (y := ρ 41 _) rfl ?_
  first | refine Z_some (M := mX7_isFencing) (by omega) ?_ | skip
  first | refine Z_uns (M := mX7_isFencing) (by omega) ?_ | skip
  refine K_ifnull (tgt := 14) dX7_isFencing_7 (by decide) (fun c_7 => ?_) (fun c_7 => ?_)
  · refine Z_iconst (M := mX7_isFencing) dX7_isFencing_14 ?_
    refine K_zret dX7_isFencing_15 rfl (by first | exact pI_01 _ | exact Or.inl rfl | exact Or.inr rfl | omega) ?_
    first
      | exact And.intro (congrArg (fun z => some (vI (iI z))) (e0 (if_pos (by omega)).symm).symm) rfl
      | exact And.intro (congrArg (fun z => some (vI (iI z))) (e0 (if_neg (by omega)).symm).symm) rfl
  · refine Z_iconst (M := mX7_isFencing) dX7_isFencing_10 ?_
    refine J_goto (M := mX7_isFencing) (tgt := 15) dX7_isFencing_11 (by decide) ?_
    refine K_zret dX7_isFencing_15 rfl (by first | exact pI_01 _ | exact Or.inl rfl | exact Or.inr rfl | omega) ?_
    first
      | exact And.intro (congrArg (fun z => some (vI (iI z))) (e0 (if_pos (by omega)).symm).symm) rfl
      | exact And.intro (congrArg (fun z => some (vI (iI z))) (e0 (if_neg (by omega)).symm).symm) rfl

set_option maxRecDepth 100000 in
set_option maxHeartbeats 4000000 in
theorem p_mark {X : GX} {h : LH} {ρ τ : TS} {c : Int} (R : RR ρ τ c) {w : Int} (hw : rg w) : CX X mX7_mark [vR (some (1, 0)), vI (iI w)] h ρ (PX (gl (pI (0 ≤ w ∧ w ≤ τ 5 0 - 1)) 1 1) (τ 3 w) (fun r => RR r τ c)) (EM [2] (gl (pI (0 ≤ w ∧ w ≤ τ 5 0 - 1)) 1 1)) := by
  have W := R.1
  have V := R.2.1
  refine CT_of (by decide +kernel) rfl (Nat.le_of_ble_eq_true rfl) ?_
  rcases wAt_c (n := w) R with ⟨i1, i2, i3, i4, i5, i6, i7⟩ | ⟨i1, i2⟩
  · refine J_aload_n (M := mX7_mark) dX7_mark_0 rfl rfl ?_
    refine J_iload_n (M := mX7_mark) dX7_mark_1 rfl rfl ?_
    refine J_callV (M := mX7_mark) (as := [_]) dX7_mark_2 ca_X7_87 ⟨by decide, by decide⟩ (hk_1 (by first | exact rfl | assumption | exact Or.inl (by assumption) | exact Or.inr rfl | (show 0 ≤ _ ∧ _ < _; omega))) rfl (Nat.le_of_ble_eq_true rfl) (k' := 1) (n' := 6) (by decide) (by decide) (kX7_weaponAt V hw) (fun v_2 h_2 hv_2 => ?_)
    obtain ⟨r_2, rfl, hv_2⟩ := hv_2
    obtain ⟨rfl, e_2⟩ := hv_2
    rw [e_2]
    refine Z_rfe (M := mX7_mark) ((wAt_e R).trans i2) ?_
    refine J_astore_n (M := mX7_mark) dX7_mark_5 rfl (by decide) ?_
    refine J_aload_n (M := mX7_mark) dX7_mark_6 rfl rfl ?_
    first | refine Z_some (M := mX7_mark) (by omega) ?_ | skip
    first | refine Z_uns (M := mX7_mark) (by omega) ?_ | skip
    refine K_ifnonnull (tgt := 20) dX7_mark_7 (by decide) (fun c_7 => ?_) (fun c_7 => ?_)
    · refine J_aload_n (M := mX7_mark) dX7_mark_20 rfl rfl ?_
      first | refine Z_some (M := mX7_mark) (by omega) ?_ | skip
      refine J_getf (M := mX7_mark) dX7_mark_21 fi_X7_98 (hk_12 (by first | exact rfl | assumption | exact Or.inl (by assumption) | exact Or.inr rfl | (show 0 ≤ _ ∧ _ < _; omega))) rfl ?_
      refine Z_wb (M := mX7_mark) (g := ρ 15) (wk15 V) rfl (fun wb_15_13 => ?_)
      refine K_iretE dX7_mark_24 rfl ?_
      exact ⟨(gl_0 ⟨(by first | exact n10 | exact pI_n0.mpr (by omega)), (by first | exact n10 | exact pI_n0.mpr (by omega)), (by first | exact n10 | exact pI_n0.mpr (by omega))⟩), (by rw [i6]), R⟩
    · omega
  · refine J_aload_n (M := mX7_mark) dX7_mark_0 rfl rfl ?_
    refine J_iload_n (M := mX7_mark) dX7_mark_1 rfl rfl ?_
    refine J_callV (M := mX7_mark) (as := [_]) dX7_mark_2 ca_X7_87 ⟨by decide, by decide⟩ (hk_1 (by first | exact rfl | assumption | exact Or.inl (by assumption) | exact Or.inr rfl | (show 0 ≤ _ ∧ _ < _; omega))) rfl (Nat.le_of_ble_eq_true rfl) (k' := 1) (n' := 6) (by decide) (by decide) (kX7_weaponAt V hw) (fun v_2 h_2 hv_2 => ?_)
    obtain ⟨r_2, rfl, hv_2⟩ := hv_2
    obtain ⟨rfl, e_2⟩ := hv_2
    rw [e_2]
    refine Z_rfe (M := mX7_mark) ((wAt_e R).trans i2) ?_
    refine J_astore_n (M := mX7_mark) dX7_mark_5 rfl (by decide) ?_
    refine J_aload_n (M := mX7_mark) dX7_mark_6 rfl rfl ?_
    first | refine Z_some (M := mX7_mark) (by omega) ?_ | skip
    first | refine Z_uns (M := mX7_mark) (by omega) ?_ | skip
    refine K_ifnonnull (tgt := 20) dX7_mark_7 (by decide) (fun c_7 => ?_) (fun c_7 => ?_)
    · omega
    · refine K_thr (M := mX7_mark) rfl rfl ti_74_91_78 (by decide) (by decide) (by decide) (by decide) (Or.inl ⟨dX7_mark_10, dX7_mark_13, dX7_mark_14, dX7_mark_16, dX7_mark_19⟩) ?_
      first
        | exact EM_1 (pI_f (by omega)) rfl
        | exact EM_2 (pI_n0.mpr (by omega)) (pI_f (by omega)) rfl
        | exact EM_3 (pI_n0.mpr (by omega)) (pI_n0.mpr (by omega)) (pI_f (by omega)) rfl

set_option maxRecDepth 100000 in
set_option maxHeartbeats 4000000 in
theorem p_owner {X : GX} {h : LH} {ρ τ : TS} {c : Int} (R : RR ρ τ c) {w : Int} (hw : rg w) : CX X mX7_owner [vR (some (1, 0)), vI (iI w)] h ρ (PX (gl (pI (0 ≤ w ∧ w ≤ τ 5 0 - 1)) 1 1) (τ 2 w) (fun r => RR r τ c)) (EM [2] (gl (pI (0 ≤ w ∧ w ≤ τ 5 0 - 1)) 1 1)) := by
  have W := R.1
  have V := R.2.1
  refine CT_of (by decide +kernel) rfl (Nat.le_of_ble_eq_true rfl) ?_
  rcases wAt_c (n := w) R with ⟨i1, i2, i3, i4, i5, i6, i7⟩ | ⟨i1, i2⟩
  · refine J_aload_n (M := mX7_owner) dX7_owner_0 rfl rfl ?_
    refine J_iload_n (M := mX7_owner) dX7_owner_1 rfl rfl ?_
    refine J_callV (M := mX7_owner) (as := [_]) dX7_owner_2 ca_X7_87 ⟨by decide, by decide⟩ (hk_1 (by first | exact rfl | assumption | exact Or.inl (by assumption) | exact Or.inr rfl | (show 0 ≤ _ ∧ _ < _; omega))) rfl (Nat.le_of_ble_eq_true rfl) (k' := 1) (n' := 6) (by decide) (by decide) (kX7_weaponAt V hw) (fun v_2 h_2 hv_2 => ?_)
    obtain ⟨r_2, rfl, hv_2⟩ := hv_2
    obtain ⟨rfl, e_2⟩ := hv_2
    rw [e_2]
    refine Z_rfe (M := mX7_owner) ((wAt_e R).trans i2) ?_
    refine J_astore_n (M := mX7_owner) dX7_owner_5 rfl (by decide) ?_
    refine J_aload_n (M := mX7_owner) dX7_owner_6 rfl rfl ?_
    first | refine Z_some (M := mX7_owner) (by omega) ?_ | skip
    first | refine Z_uns (M := mX7_owner) (by omega) ?_ | skip
    refine K_ifnonnull (tgt := 20) dX7_owner_7 (by decide) (fun c_7 => ?_) (fun c_7 => ?_)
    · refine J_aload_n (M := mX7_owner) dX7_owner_20 rfl rfl ?_
      first | refine Z_some (M := mX7_owner) (by omega) ?_ | skip
      refine J_getf (M := mX7_owner) dX7_owner_21 fi_X7_111 (hk_12 (by first | exact rfl | assumption | exact Or.inl (by assumption) | exact Or.inr rfl | (show 0 ≤ _ ∧ _ < _; omega))) rfl ?_
      refine Z_wb (M := mX7_owner) (g := ρ 14) (wk14 V) rfl (fun wb_14_13 => ?_)
      refine K_iretE dX7_owner_24 rfl ?_
      exact ⟨(gl_0 ⟨(by first | exact n10 | exact pI_n0.mpr (by omega)), (by first | exact n10 | exact pI_n0.mpr (by omega)), (by first | exact n10 | exact pI_n0.mpr (by omega))⟩), (by rw [i5]), R⟩
    · omega
  · refine J_aload_n (M := mX7_owner) dX7_owner_0 rfl rfl ?_
    refine J_iload_n (M := mX7_owner) dX7_owner_1 rfl rfl ?_
    refine J_callV (M := mX7_owner) (as := [_]) dX7_owner_2 ca_X7_87 ⟨by decide, by decide⟩ (hk_1 (by first | exact rfl | assumption | exact Or.inl (by assumption) | exact Or.inr rfl | (show 0 ≤ _ ∧ _ < _; omega))) rfl (Nat.le_of_ble_eq_true rfl) (k' := 1) (n' := 6) (by decide) (by decide) (kX7_weaponAt V hw) (fun v_2 h_2 hv_2 => ?_)
    obtain ⟨r_2, rfl, hv_2⟩ := hv_2
    obtain ⟨rfl, e_2⟩ := hv_2
    rw [e_2]
    refine Z_rfe (M := mX7_owner) ((wAt_e R).trans i2) ?_
    refine J_astore_n (M := mX7_owner) dX7_owner_5 rfl (by decide) ?_
    refine J_aload_n (M := mX7_owner) dX7_owner_6 rfl rfl ?_
    first | refine Z_some (M := mX7_owner) (by omega) ?_ | skip
    first | refine Z_uns (M := mX7_owner) (by omega) ?_ | skip
    refine K_ifnonnull (tgt := 20) dX7_owner_7 (by decide) (fun c_7 => ?_) (fun c_7 => ?_)
    · omega
    · refine K_thr (M := mX7_owner) rfl rfl ti_74_91_78 (by decide) (by decide) (by decide) (by decide) (Or.inl ⟨dX7_owner_10, dX7_owner_13, dX7_owner_14, dX7_owner_16, dX7_owner_19⟩) ?_
      first
        | exact EM_1 (pI_f (by omega)) rfl
        | exact EM_2 (pI_n0.mpr (by omega)) (pI_f (by omega)) rfl
        | exact EM_3 (pI_n0.mpr (by omega)) (pI_n0.mpr (by omega)) (pI_f (by omega)) rfl

theorem fa_e {ρ τ : TS} {c b s : Int} (R : RR ρ τ c) (hB : isB τ b) (hs : 0 ≤ s ∧ s ≤ 1) : (if s = 0 then ρ 18 (slo b) else ρ 19 (slo b)) = (if fa τ b s < 0 then -1 else fa τ b s) := by
  have W := R.1
  have w6 := wf6 W b
  have w7 := wf7 W b
  have w9 := wf9 W 0
  rcases bAt_c (n := b) R with ⟨i1, i2, i3, i4, i5, i6⟩ | ⟨i1, i2⟩
  · by_cases q : 100 ≤ b
    · obtain ⟨q1, q2, q3⟩ := i6 q
      obtain ⟨⟨e1, e2⟩, -⟩ := R.2.2.2.1.2.2.2.2.1 (b - 100) q2 q3
      rw [show slo b = 66 + (b - 100) by omega, e1, e2]
      unfold fa
      rw [if_pos q]
      by_cases z : s = 0
      · rw [if_pos z, z, Int.add_zero]; rfl
      · rw [if_neg z, show s = 1 by omega]; rfl
    · obtain ⟨q1, q2⟩ := i5 (by omega)
      obtain ⟨-, e1, e2, -⟩ := R.2.2.1.2.2.2.2.1 b (by omega) q2
      rw [q1, e1, e2]
      unfold fa
      rw [if_neg q]
      by_cases z : s = 0
      · rw [if_pos z, if_neg (by omega)]
      · rw [if_neg z, if_neg (by omega)]
  · exact absurd hB i1
set_option maxRecDepth 100000 in
set_option maxHeartbeats 4000000 in
theorem p_fencerOf {X : GX} {h : LH} {ρ τ : TS} {c : Int} (R : RR ρ τ c) {b s : Int} (hb : rg b) (hs : rg s) : CX X mX7_fencerOf [vR (some (1, 0)), vI (iI b), vI (iI s)] h ρ (PX (gl (pI (((0 ≤ b ∧ b ≤ τ 9 0 - 1) ∨ (0 < τ 21 0 ∧ 101 ≤ b ∧ b ≤ 99 + τ 21 0)) ∧ 0 ≤ s ∧ s ≤ 1)) 1 1) (if fa τ b s < 0 then -1 else fa τ b s) (fun r => RR r τ c)) (EM [2] (gl (pI (((0 ≤ b ∧ b ≤ τ 9 0 - 1) ∨ (0 < τ 21 0 ∧ 101 ≤ b ∧ b ≤ 99 + τ 21 0)) ∧ 0 ≤ s ∧ s ≤ 1)) 1 1)) := by
  have W := R.1
  have V := R.2.1
  refine CT_of (by decide +kernel) rfl (Nat.le_of_ble_eq_true rfl) ?_
  rcases bAt_c (n := b) R with ⟨i1, i2, i3, i4, i5, i6⟩ | ⟨i1, i2⟩
  · have e13 : CE ρ 13 (slo b) := i4.1.2.1
    have e15 : CE ρ 15 (slo b) := Or.inl e13
    obtain ⟨⟨g1, g2, g3, g4, g5, g6⟩, ⟨t1, t2⟩, t3, t4⟩ := id i4
    refine J_aload_n (M := mX7_fencerOf) dX7_fencerOf_0 rfl rfl ?_
    refine J_iload_n (M := mX7_fencerOf) dX7_fencerOf_1 rfl rfl ?_
    refine J_callV (M := mX7_fencerOf) (as := [_]) dX7_fencerOf_2 ca_X7_114 ⟨by decide, by decide⟩ (hk_1 (by first | exact rfl | assumption | exact Or.inl (by assumption) | exact Or.inr rfl | (show 0 ≤ _ ∧ _ < _; omega))) rfl (Nat.le_of_ble_eq_true rfl) (k' := 1) (n' := 6) (by decide) (by decide) (kX7_boutAt V hb) (fun v_2 h_2 hv_2 => ?_)
    obtain ⟨r_2, rfl, hv_2⟩ := hv_2
    obtain ⟨rfl, e_2⟩ := hv_2
    rw [e_2]
    refine Z_rfe (M := mX7_fencerOf) ((bAt_e R).trans i2) ?_
    refine J_astore_n (M := mX7_fencerOf) dX7_fencerOf_5 rfl (by decide) ?_
    refine J_aload_n (M := mX7_fencerOf) dX7_fencerOf_6 rfl rfl ?_
    first | refine Z_some (M := mX7_fencerOf) (by omega) ?_ | skip
    first | refine Z_uns (M := mX7_fencerOf) (by omega) ?_ | skip
    refine K_ifnull (tgt := 17) dX7_fencerOf_7 (by decide) (fun c_7 => ?_) (fun c_7 => ?_)
    · omega
    · refine J_iload_n (M := mX7_fencerOf) dX7_fencerOf_10 rfl rfl ?_
      refine M_callS (M := mX7_fencerOf) (as := [_]) dX7_fencerOf_11 ca_X7_144 ⟨by decide, by decide⟩ rfl (Nat.le_of_ble_eq_true rfl) rfl rfl (kX7_isSide (by first | assumption | exact pI_rg _ | (unfold rg; omega))) ?_
      first
        | refine Z_pt (M := mX7_fencerOf) (tgt := 27) dX7_fencerOf_14 (by decide) (fun c_14 => ?_) (fun c_14 => ?_)
        | refine Z_if_ne (M := mX7_fencerOf) (tgt := 27) (by first | assumption | exact pI_rg _ | (unfold rg; omega)) dX7_fencerOf_14 (by decide) (fun c_14 => ?_) (fun c_14 => ?_)
      · refine J_aload_n (M := mX7_fencerOf) dX7_fencerOf_27 rfl rfl ?_
        first | refine Z_some (M := mX7_fencerOf) (by omega) ?_ | skip
        refine J_iload_n (M := mX7_fencerOf) dX7_fencerOf_28 rfl rfl ?_
        refine J_callV (M := mX7_fencerOf) (as := [_]) dX7_fencerOf_29 ca_X7_155 ⟨by decide, by decide⟩ (hk_13 (by first | exact rfl | assumption | exact Or.inl (by assumption) | exact Or.inr rfl | (show 0 ≤ _ ∧ _ < _; omega))) rfl (Nat.le_of_ble_eq_true rfl) (k' := 1) (n' := 6) (by decide) (by decide) (kX0_fencerAt hs e13) (fun v_29 h_29 hv_29 => ?_)
        obtain ⟨r_29, rfl, hv_29⟩ := hv_29
        obtain ⟨rfl, e_29⟩ := hv_29
        rw [e_29]
        refine K_iretE dX7_fencerOf_32 rfl ?_
        exact ⟨(gl_0 ⟨(by first | exact n10 | exact pI_n0.mpr (by omega)), (by first | exact n10 | exact pI_n0.mpr (by omega)), (by first | exact n10 | exact pI_n0.mpr (by omega))⟩), (by rw [fa_e R i1 (by omega)]), R⟩
      · refine K_thr (M := mX7_fencerOf) rfl rfl ti_74_252_78 (by decide) (by decide) (by decide) (by decide) (Or.inl ⟨dX7_fencerOf_17, dX7_fencerOf_20, dX7_fencerOf_21, dX7_fencerOf_23, dX7_fencerOf_26⟩) ?_
        first
          | exact EM_1 (pI_f (by omega)) rfl
          | exact EM_2 (pI_n0.mpr (by omega)) (pI_f (by omega)) rfl
          | exact EM_3 (pI_n0.mpr (by omega)) (pI_n0.mpr (by omega)) (pI_f (by omega)) rfl
  · refine J_aload_n (M := mX7_fencerOf) dX7_fencerOf_0 rfl rfl ?_
    refine J_iload_n (M := mX7_fencerOf) dX7_fencerOf_1 rfl rfl ?_
    refine J_callV (M := mX7_fencerOf) (as := [_]) dX7_fencerOf_2 ca_X7_114 ⟨by decide, by decide⟩ (hk_1 (by first | exact rfl | assumption | exact Or.inl (by assumption) | exact Or.inr rfl | (show 0 ≤ _ ∧ _ < _; omega))) rfl (Nat.le_of_ble_eq_true rfl) (k' := 1) (n' := 6) (by decide) (by decide) (kX7_boutAt V hb) (fun v_2 h_2 hv_2 => ?_)
    obtain ⟨r_2, rfl, hv_2⟩ := hv_2
    obtain ⟨rfl, e_2⟩ := hv_2
    rw [e_2]
    refine Z_rfe (M := mX7_fencerOf) ((bAt_e R).trans i2) ?_
    refine J_astore_n (M := mX7_fencerOf) dX7_fencerOf_5 rfl (by decide) ?_
    refine J_aload_n (M := mX7_fencerOf) dX7_fencerOf_6 rfl rfl ?_
    first | refine Z_some (M := mX7_fencerOf) (by omega) ?_ | skip
    first | refine Z_uns (M := mX7_fencerOf) (by omega) ?_ | skip
    refine K_ifnull (tgt := 17) dX7_fencerOf_7 (by decide) (fun c_7 => ?_) (fun c_7 => ?_)
    · refine K_thr (M := mX7_fencerOf) rfl rfl ti_74_252_78 (by decide) (by decide) (by decide) (by decide) (Or.inl ⟨dX7_fencerOf_17, dX7_fencerOf_20, dX7_fencerOf_21, dX7_fencerOf_23, dX7_fencerOf_26⟩) ?_
      first
        | exact EM_1 (pI_f (by omega)) rfl
        | exact EM_2 (pI_n0.mpr (by omega)) (pI_f (by omega)) rfl
        | exact EM_3 (pI_n0.mpr (by omega)) (pI_n0.mpr (by omega)) (pI_f (by omega)) rfl
    · omega

set_option maxRecDepth 100000 in
set_option maxHeartbeats 4000000 in
theorem p_score {X : GX} {h : LH} {ρ τ : TS} {c : Int} (R : RR ρ τ c) {b s : Int} (hb : rg b) (hs : rg s) : CX X mX7_score [vR (some (1, 0)), vI (iI b), vI (iI s)] h ρ (PX (gl (pI (((0 ≤ b ∧ b ≤ τ 9 0 - 1) ∨ (0 < τ 21 0 ∧ 101 ≤ b ∧ b ≤ 99 + τ 21 0)) ∧ 0 ≤ s ∧ s ≤ 1)) 1 1) (if s = 0 then (te τ (slo b)).1 else (te τ (slo b)).2.1) (fun r => RR r τ c)) (EM [2] (gl (pI (((0 ≤ b ∧ b ≤ τ 9 0 - 1) ∨ (0 < τ 21 0 ∧ 101 ≤ b ∧ b ≤ 99 + τ 21 0)) ∧ 0 ≤ s ∧ s ≤ 1)) 1 1)) := by
  have W := R.1
  have V := R.2.1
  refine CT_of (by decide +kernel) rfl (Nat.le_of_ble_eq_true rfl) ?_
  rcases bAt_c (n := b) R with ⟨i1, i2, i3, i4, i5, i6⟩ | ⟨i1, i2⟩
  · have e13 : CE ρ 13 (slo b) := i4.1.2.1
    have e15 : CE ρ 15 (slo b) := Or.inl e13
    obtain ⟨⟨g1, g2, g3, g4, g5, g6⟩, ⟨t1, t2⟩, t3, t4⟩ := id i4
    refine J_aload_n (M := mX7_score) dX7_score_0 rfl rfl ?_
    refine J_iload_n (M := mX7_score) dX7_score_1 rfl rfl ?_
    refine J_callV (M := mX7_score) (as := [_]) dX7_score_2 ca_X7_114 ⟨by decide, by decide⟩ (hk_1 (by first | exact rfl | assumption | exact Or.inl (by assumption) | exact Or.inr rfl | (show 0 ≤ _ ∧ _ < _; omega))) rfl (Nat.le_of_ble_eq_true rfl) (k' := 1) (n' := 6) (by decide) (by decide) (kX7_boutAt V hb) (fun v_2 h_2 hv_2 => ?_)
    obtain ⟨r_2, rfl, hv_2⟩ := hv_2
    obtain ⟨rfl, e_2⟩ := hv_2
    rw [e_2]
    refine Z_rfe (M := mX7_score) ((bAt_e R).trans i2) ?_
    refine J_astore_n (M := mX7_score) dX7_score_5 rfl (by decide) ?_
    refine J_aload_n (M := mX7_score) dX7_score_6 rfl rfl ?_
    first | refine Z_some (M := mX7_score) (by omega) ?_ | skip
    first | refine Z_uns (M := mX7_score) (by omega) ?_ | skip
    refine K_ifnull (tgt := 17) dX7_score_7 (by decide) (fun c_7 => ?_) (fun c_7 => ?_)
    · omega
    · refine J_iload_n (M := mX7_score) dX7_score_10 rfl rfl ?_
      refine M_callS (M := mX7_score) (as := [_]) dX7_score_11 ca_X7_144 ⟨by decide, by decide⟩ rfl (Nat.le_of_ble_eq_true rfl) rfl rfl (kX7_isSide (by first | assumption | exact pI_rg _ | (unfold rg; omega))) ?_
      first
        | refine Z_pt (M := mX7_score) (tgt := 27) dX7_score_14 (by decide) (fun c_14 => ?_) (fun c_14 => ?_)
        | refine Z_if_ne (M := mX7_score) (tgt := 27) (by first | assumption | exact pI_rg _ | (unfold rg; omega)) dX7_score_14 (by decide) (fun c_14 => ?_) (fun c_14 => ?_)
      · refine J_aload_n (M := mX7_score) dX7_score_27 rfl rfl ?_
        first | refine Z_some (M := mX7_score) (by omega) ?_ | skip
        refine J_getf (M := mX7_score) dX7_score_28 fi_X7_254 (hk_13 (by first | exact rfl | assumption | exact Or.inl (by assumption) | exact Or.inr rfl | (show 0 ≤ _ ∧ _ < _; omega))) rfl ?_
        refine J_iload_n (M := mX7_score) dX7_score_31 rfl rfl ?_
        refine J_callV (M := mX7_score) (as := [_]) dX7_score_32 ca_X7_257 ⟨by decide, by decide⟩ (hk_15 (by first | exact rfl | assumption | exact Or.inl (by assumption) | exact Or.inr rfl | (show 0 ≤ _ ∧ _ < _; omega))) rfl (Nat.le_of_ble_eq_true rfl) (k' := 1) (n' := 6) (by decide) (by decide) (kX5_of hs e15) (fun v_32 h_32 hv_32 => ?_)
        obtain ⟨r_32, rfl, hv_32⟩ := hv_32
        obtain ⟨rfl, e_32⟩ := hv_32
        rw [e_32]
        refine K_iretE dX7_score_35 rfl ?_
        exact ⟨(gl_0 ⟨(by first | exact n10 | exact pI_n0.mpr (by omega)), (by first | exact n10 | exact pI_n0.mpr (by omega)), (by first | exact n10 | exact pI_n0.mpr (by omega))⟩), (by rw [t1, t2]), R⟩
      · refine K_thr (M := mX7_score) rfl rfl ti_74_252_78 (by decide) (by decide) (by decide) (by decide) (Or.inl ⟨dX7_score_17, dX7_score_20, dX7_score_21, dX7_score_23, dX7_score_26⟩) ?_
        first
          | exact EM_1 (pI_f (by omega)) rfl
          | exact EM_2 (pI_n0.mpr (by omega)) (pI_f (by omega)) rfl
          | exact EM_3 (pI_n0.mpr (by omega)) (pI_n0.mpr (by omega)) (pI_f (by omega)) rfl
  · refine J_aload_n (M := mX7_score) dX7_score_0 rfl rfl ?_
    refine J_iload_n (M := mX7_score) dX7_score_1 rfl rfl ?_
    refine J_callV (M := mX7_score) (as := [_]) dX7_score_2 ca_X7_114 ⟨by decide, by decide⟩ (hk_1 (by first | exact rfl | assumption | exact Or.inl (by assumption) | exact Or.inr rfl | (show 0 ≤ _ ∧ _ < _; omega))) rfl (Nat.le_of_ble_eq_true rfl) (k' := 1) (n' := 6) (by decide) (by decide) (kX7_boutAt V hb) (fun v_2 h_2 hv_2 => ?_)
    obtain ⟨r_2, rfl, hv_2⟩ := hv_2
    obtain ⟨rfl, e_2⟩ := hv_2
    rw [e_2]
    refine Z_rfe (M := mX7_score) ((bAt_e R).trans i2) ?_
    refine J_astore_n (M := mX7_score) dX7_score_5 rfl (by decide) ?_
    refine J_aload_n (M := mX7_score) dX7_score_6 rfl rfl ?_
    first | refine Z_some (M := mX7_score) (by omega) ?_ | skip
    first | refine Z_uns (M := mX7_score) (by omega) ?_ | skip
    refine K_ifnull (tgt := 17) dX7_score_7 (by decide) (fun c_7 => ?_) (fun c_7 => ?_)
    · refine K_thr (M := mX7_score) rfl rfl ti_74_252_78 (by decide) (by decide) (by decide) (by decide) (Or.inl ⟨dX7_score_17, dX7_score_20, dX7_score_21, dX7_score_23, dX7_score_26⟩) ?_
      first
        | exact EM_1 (pI_f (by omega)) rfl
        | exact EM_2 (pI_n0.mpr (by omega)) (pI_f (by omega)) rfl
        | exact EM_3 (pI_n0.mpr (by omega)) (pI_n0.mpr (by omega)) (pI_f (by omega)) rfl
    · omega

theorem RR_82 {ρ τ : TS} {c x y z : Int} (R : RR ρ τ c) (hx : 0 ≤ x ∧ x ≤ 5) (hy : 0 ≤ y ∧ y ≤ 12) (hz : 0 ≤ z ∧ z ≤ 12) : RR (ts (ts (ts ρ 24 82 x) 25 82 y) 26 82 z) τ c := by
  obtain ⟨W, V, B, ⟨s3, s4, s5, s6, s7, s8, s9, s10, s11, s13⟩, p, f⟩ := R
  refine ⟨W, WK_ts (WK_ts (WK_ts V hx) hy) hz, B, ⟨s3, s4, fun b hb => ?_, s6, s7, s8, s9, s10, s11, s13⟩, p, f⟩
  obtain ⟨⟨g1, g2, g3, g4, g5, g6⟩, ⟨t1, t2⟩, t3, t4⟩ := s5 b hb
  refine ⟨⟨g1, g2, g3, ?_, g5, g6⟩, ⟨?_, ?_⟩, t3, t4⟩
  · rw [tsN (by decide), tsN (by decide), ts_else (by omega)]; exact g4
  · rw [tsN (by decide), ts_else (by omega), tsN (by decide)]; exact t1
  · rw [ts_else (by omega), tsN (by decide), tsN (by decide)]; exact t2
set_option maxRecDepth 100000 in
set_option maxHeartbeats 4000000 in
theorem p_scoreAnew {X : GX} {h : LH} {ρ τ : TS} {c : Int} (R : RR ρ τ c) {b s : Int} (hb : rg b) (hs : rg s) : CX X mX7_scoreAnew [vR (some (1, 0)), vI (iI b), vI (iI s)] h ρ (PX (gl (pI (((0 ≤ b ∧ b ≤ τ 9 0 - 1) ∨ (0 < τ 21 0 ∧ 101 ≤ b ∧ b ≤ 99 + τ 21 0)) ∧ 0 ≤ s ∧ s ≤ 1)) 1 1) (if s = 0 then (te τ (slo b)).1 else (te τ (slo b)).2.1) (fun r => RR r τ c)) (EM [2] (gl (pI (((0 ≤ b ∧ b ≤ τ 9 0 - 1) ∨ (0 < τ 21 0 ∧ 101 ≤ b ∧ b ≤ 99 + τ 21 0)) ∧ 0 ≤ s ∧ s ≤ 1)) 1 1)) := by
  have W := R.1
  have V := R.2.1
  refine CT_of (by decide +kernel) rfl (Nat.le_of_ble_eq_true rfl) ?_
  rcases bAt_c (n := b) R with ⟨i1, i2, i3, i4, i5, i6⟩ | ⟨i1, i2⟩
  · have e13 : CE ρ 13 (slo b) := i4.1.2.1
    have e15 : CE ρ 15 (slo b) := Or.inl e13
    obtain ⟨⟨g1, g2, g3, g4, g5, g6⟩, ⟨t1, t2⟩, t3, t4⟩ := id i4
    refine J_aload_n (M := mX7_scoreAnew) dX7_scoreAnew_0 rfl rfl ?_
    refine J_iload_n (M := mX7_scoreAnew) dX7_scoreAnew_1 rfl rfl ?_
    refine J_callV (M := mX7_scoreAnew) (as := [_]) dX7_scoreAnew_2 ca_X7_114 ⟨by decide, by decide⟩ (hk_1 (by first | exact rfl | assumption | exact Or.inl (by assumption) | exact Or.inr rfl | (show 0 ≤ _ ∧ _ < _; omega))) rfl (Nat.le_of_ble_eq_true rfl) (k' := 1) (n' := 6) (by decide) (by decide) (kX7_boutAt V hb) (fun v_2 h_2 hv_2 => ?_)
    obtain ⟨r_2, rfl, hv_2⟩ := hv_2
    obtain ⟨rfl, e_2⟩ := hv_2
    rw [e_2]
    refine Z_rfe (M := mX7_scoreAnew) ((bAt_e R).trans i2) ?_
    refine J_astore_n (M := mX7_scoreAnew) dX7_scoreAnew_5 rfl (by decide) ?_
    refine J_aload_n (M := mX7_scoreAnew) dX7_scoreAnew_6 rfl rfl ?_
    first | refine Z_some (M := mX7_scoreAnew) (by omega) ?_ | skip
    first | refine Z_uns (M := mX7_scoreAnew) (by omega) ?_ | skip
    refine K_ifnull (tgt := 17) dX7_scoreAnew_7 (by decide) (fun c_7 => ?_) (fun c_7 => ?_)
    · omega
    · refine J_iload_n (M := mX7_scoreAnew) dX7_scoreAnew_10 rfl rfl ?_
      refine M_callS (M := mX7_scoreAnew) (as := [_]) dX7_scoreAnew_11 ca_X7_144 ⟨by decide, by decide⟩ rfl (Nat.le_of_ble_eq_true rfl) rfl rfl (kX7_isSide (by first | assumption | exact pI_rg _ | (unfold rg; omega))) ?_
      first
        | refine Z_pt (M := mX7_scoreAnew) (tgt := 27) dX7_scoreAnew_14 (by decide) (fun c_14 => ?_) (fun c_14 => ?_)
        | refine Z_if_ne (M := mX7_scoreAnew) (tgt := 27) (by first | assumption | exact pI_rg _ | (unfold rg; omega)) dX7_scoreAnew_14 (by decide) (fun c_14 => ?_) (fun c_14 => ?_)
      · refine J_aload_n (M := mX7_scoreAnew) dX7_scoreAnew_27 rfl rfl ?_
        first | refine Z_some (M := mX7_scoreAnew) (by omega) ?_ | skip
        refine J_aload_n (M := mX7_scoreAnew) dX7_scoreAnew_28 rfl rfl ?_
        refine J_getf (M := mX7_scoreAnew) dX7_scoreAnew_29 fi_X7_44 (hk_1 (by first | exact rfl | assumption | exact Or.inl (by assumption) | exact Or.inr rfl | (show 0 ≤ _ ∧ _ < _; omega))) rfl ?_
        refine J_callV (M := mX7_scoreAnew) (as := [_]) dX7_scoreAnew_32 ca_X7_260 ⟨by decide, by decide⟩ (hk_13 (by first | exact rfl | assumption | exact Or.inl (by assumption) | exact Or.inr rfl | (show 0 ≤ _ ∧ _ < _; omega))) rfl (Nat.le_of_ble_eq_true rfl) (k' := 1) (n' := 6) (by decide) (by decide) (kX0_countAnew W V R.2.2.2.1.2.2.2.2.2.2.2.2.2 i4.1) (fun v_32 h_32 hv_32 => ?_)
        obtain ⟨r_32, rfl, hv_32⟩ := hv_32
        obtain ⟨rfl, e_32⟩ := hv_32
        rw [e_32]
        refine J_aload_n (M := mX7_scoreAnew) dX7_scoreAnew_35 rfl rfl ?_
        refine J_getf (M := mX7_scoreAnew) dX7_scoreAnew_36 fi_X7_44 (hk_1 (by first | exact rfl | assumption | exact Or.inl (by assumption) | exact Or.inr rfl | (show 0 ≤ _ ∧ _ < _; omega))) rfl ?_
        refine J_iload_n (M := mX7_scoreAnew) dX7_scoreAnew_39 rfl rfl ?_
        refine J_callV (M := mX7_scoreAnew) (as := [_]) dX7_scoreAnew_40 ca_X7_257 ⟨by decide, by decide⟩ (hk_15 (by first | exact rfl | assumption | exact Or.inl (by assumption) | exact Or.inr rfl | (show 0 ≤ _ ∧ _ < _; omega))) rfl (Nat.le_of_ble_eq_true rfl) (k' := 1) (n' := 6) (by decide) (by decide) (kX5_of hs (Or.inr rfl)) (fun v_40 h_40 hv_40 => ?_)
        obtain ⟨r_40, rfl, hv_40⟩ := hv_40
        obtain ⟨rfl, e_40⟩ := hv_40
        rw [e_40]
        refine K_iretE dX7_scoreAnew_43 rfl ?_
        have g9 := gl3_r (b := slo b)
        have t9 := te_rg W (slo b)
        exact ⟨(gl_0 ⟨(by first | exact n10 | exact pI_n0.mpr (by omega)), (by first | exact n10 | exact pI_n0.mpr (by omega)), (by first | exact n10 | exact pI_n0.mpr (by omega))⟩), (by rw [show ts (ts (ts ρ 24 82 (gl3 (slo b))) 25 82 (te τ (slo b)).1) 26 82 (te τ (slo b)).2.1 25 82 = (te τ (slo b)).1 from by rw [tsN (by decide), ts_self], ts_self]), RR_82 R (by omega) (by omega) (by omega)⟩
      · refine K_thr (M := mX7_scoreAnew) rfl rfl ti_74_252_78 (by decide) (by decide) (by decide) (by decide) (Or.inl ⟨dX7_scoreAnew_17, dX7_scoreAnew_20, dX7_scoreAnew_21, dX7_scoreAnew_23, dX7_scoreAnew_26⟩) ?_
        first
          | exact EM_1 (pI_f (by omega)) rfl
          | exact EM_2 (pI_n0.mpr (by omega)) (pI_f (by omega)) rfl
          | exact EM_3 (pI_n0.mpr (by omega)) (pI_n0.mpr (by omega)) (pI_f (by omega)) rfl
  · refine J_aload_n (M := mX7_scoreAnew) dX7_scoreAnew_0 rfl rfl ?_
    refine J_iload_n (M := mX7_scoreAnew) dX7_scoreAnew_1 rfl rfl ?_
    refine J_callV (M := mX7_scoreAnew) (as := [_]) dX7_scoreAnew_2 ca_X7_114 ⟨by decide, by decide⟩ (hk_1 (by first | exact rfl | assumption | exact Or.inl (by assumption) | exact Or.inr rfl | (show 0 ≤ _ ∧ _ < _; omega))) rfl (Nat.le_of_ble_eq_true rfl) (k' := 1) (n' := 6) (by decide) (by decide) (kX7_boutAt V hb) (fun v_2 h_2 hv_2 => ?_)
    obtain ⟨r_2, rfl, hv_2⟩ := hv_2
    obtain ⟨rfl, e_2⟩ := hv_2
    rw [e_2]
    refine Z_rfe (M := mX7_scoreAnew) ((bAt_e R).trans i2) ?_
    refine J_astore_n (M := mX7_scoreAnew) dX7_scoreAnew_5 rfl (by decide) ?_
    refine J_aload_n (M := mX7_scoreAnew) dX7_scoreAnew_6 rfl rfl ?_
    first | refine Z_some (M := mX7_scoreAnew) (by omega) ?_ | skip
    first | refine Z_uns (M := mX7_scoreAnew) (by omega) ?_ | skip
    refine K_ifnull (tgt := 17) dX7_scoreAnew_7 (by decide) (fun c_7 => ?_) (fun c_7 => ?_)
    · refine K_thr (M := mX7_scoreAnew) rfl rfl ti_74_252_78 (by decide) (by decide) (by decide) (by decide) (Or.inl ⟨dX7_scoreAnew_17, dX7_scoreAnew_20, dX7_scoreAnew_21, dX7_scoreAnew_23, dX7_scoreAnew_26⟩) ?_
      first
        | exact EM_1 (pI_f (by omega)) rfl
        | exact EM_2 (pI_n0.mpr (by omega)) (pI_f (by omega)) rfl
        | exact EM_3 (pI_n0.mpr (by omega)) (pI_n0.mpr (by omega)) (pI_f (by omega)) rfl
    · omega

theorem wo_e {ρ τ : TS} {c b : Int} (R : RR ρ τ c) (hB : isB τ b) (hb : b < 100) : wfn ρ τ (slo b) = wo τ b := by
  have W := R.1
  rcases bAt_c (n := b) R with ⟨i1, i2, i3, i4, i5, i6⟩ | ⟨i1, i2⟩
  · obtain ⟨q1, q2⟩ := i5 hb
    obtain ⟨-, e1, e2, -⟩ := R.2.2.1.2.2.2.2.1 b (by omega) q2
    unfold wfn wo
    rw [if_neg (show ¬ 100 ≤ b by omega), q1, e1, e2]
    by_cases z : (te τ b).2.2 = -1
    · rw [if_pos z, if_pos z]
    · rw [if_neg z, if_neg z]
      unfold fa
      rw [if_neg (show ¬ 100 ≤ b by omega)]
  · exact absurd hB i1
theorem wo_n {ρ τ : TS} {c b : Int} (R : RR ρ τ c) (h1 : 1 ≤ b - 100) (h2 : b - 100 < τ 21 0) : (if 1 ≤ b - 100 ∧ b - 100 < 2 * ρ 43 0 then ρ 46 (b - 100) else -1) = wo τ b := by
  have W := R.1
  have w22 := wf22 W (b - 100)
  have s3 := R.2.2.2.1.1
  have s8 := R.2.2.2.1.2.2.2.2.2.1 (b - 100) h1 h2
  rw [if_pos (by omega), R.2.2.2.1.2.2.2.1 (b - 100) h1 (by omega)]
  unfold wo mx
  rw [if_pos (show 100 ≤ b by omega)]
  split <;> omega
set_option maxRecDepth 100000 in
set_option maxHeartbeats 4000000 in
theorem p_winner {X : GX} {h : LH} {ρ τ : TS} {c : Int} (R : RR ρ τ c) {b : Int} (hb : rg b) : CX X mX7_winner [vR (some (1, 0)), vI (iI b)] h ρ (PX (gl (pI ((0 ≤ b ∧ b ≤ τ 9 0 - 1) ∨ (0 < τ 21 0 ∧ 101 ≤ b ∧ b ≤ 99 + τ 21 0))) 1 1) (wo τ b) (fun r => RR r τ c)) (EM [2] (gl (pI ((0 ≤ b ∧ b ≤ τ 9 0 - 1) ∨ (0 < τ 21 0 ∧ 101 ≤ b ∧ b ≤ 99 + τ 21 0))) 1 1)) := by
  have W := R.1
  have V := R.2.1
  refine CT_of (by decide +kernel) rfl (Nat.le_of_ble_eq_true rfl) ?_
  rcases bAt_c (n := b) R with ⟨i1, i2, i3, i4, i5, i6⟩ | ⟨i1, i2⟩
  · have e13 : CE ρ 13 (slo b) := i4.1.2.1
    have e15 : CE ρ 15 (slo b) := Or.inl e13
    obtain ⟨⟨g1, g2, g3, g4, g5, g6⟩, ⟨t1, t2⟩, t3, t4⟩ := id i4
    refine J_aload_n (M := mX7_winner) dX7_winner_0 rfl rfl ?_
    refine J_iload_n (M := mX7_winner) dX7_winner_1 rfl rfl ?_
    refine J_callV (M := mX7_winner) (as := [_]) dX7_winner_2 ca_X7_114 ⟨by decide, by decide⟩ (hk_1 (by first | exact rfl | assumption | exact Or.inl (by assumption) | exact Or.inr rfl | (show 0 ≤ _ ∧ _ < _; omega))) rfl (Nat.le_of_ble_eq_true rfl) (k' := 1) (n' := 6) (by decide) (by decide) (kX7_boutAt V hb) (fun v_2 h_2 hv_2 => ?_)
    obtain ⟨r_2, rfl, hv_2⟩ := hv_2
    obtain ⟨rfl, e_2⟩ := hv_2
    rw [e_2]
    refine Z_rfe (M := mX7_winner) ((bAt_e R).trans i2) ?_
    refine J_astore_n (M := mX7_winner) dX7_winner_5 rfl (by decide) ?_
    refine J_aload_n (M := mX7_winner) dX7_winner_6 rfl rfl ?_
    first | refine Z_some (M := mX7_winner) (by omega) ?_ | skip
    first | refine Z_uns (M := mX7_winner) (by omega) ?_ | skip
    refine K_ifnonnull (tgt := 21) dX7_winner_7 (by decide) (fun c_7 => ?_) (fun c_7 => ?_)
    · refine J_aload_n (M := mX7_winner) dX7_winner_21 rfl rfl ?_
      first | refine Z_some (M := mX7_winner) (by omega) ?_ | skip
      refine J_getf (M := mX7_winner) dX7_winner_22 fi_X7_266 (hk_13 (by first | exact rfl | assumption | exact Or.inl (by assumption) | exact Or.inr rfl | (show 0 ≤ _ ∧ _ < _; omega))) rfl ?_
      refine Z_wb (M := mX7_winner) (g := ρ 17) (wk17 V) rfl (fun wb_17_13 => ?_)
      have b17 := g3
      first
        | refine Z_pf (M := mX7_winner) (tgt := 33) dX7_winner_25 (by decide) (fun c_25 => ?_) (fun c_25 => ?_)
        | refine Z_if_eq (M := mX7_winner) (tgt := 33) (by first | assumption | exact pI_rg _ | (unfold rg; omega)) dX7_winner_25 (by decide) (fun c_25 => ?_) (fun c_25 => ?_)
      · refine J_aload_n (M := mX7_winner) dX7_winner_33 rfl rfl ?_
        refine J_getf (M := mX7_winner) dX7_winner_34 fi_X7_37 (hk_1 (by first | exact rfl | assumption | exact Or.inl (by assumption) | exact Or.inr rfl | (show 0 ≤ _ ∧ _ < _; omega))) rfl ?_
        refine J_iload_n (M := mX7_winner) dX7_winner_37 rfl rfl ?_
        refine Z_bipush (M := mX7_winner) dX7_winner_38 rfl ?_
        refine Z_isub (M := mX7_winner) dX7_winner_40 ?_
        refine J_callV (M := mX7_winner) (as := [_]) dX7_winner_41 ca_X7_272 ⟨by decide, by decide⟩ (hk_6 (by first | exact rfl | assumption | exact Or.inl (by assumption) | exact Or.inr rfl | (show 0 ≤ _ ∧ _ < _; omega))) rfl (Nat.le_of_ble_eq_true rfl) (k' := 1) (n' := 6) (by decide) (by decide) (kX4_winnerAt V (by unfold rg at *; omega)) (fun v_41 h_41 hv_41 => ?_)
        obtain ⟨r_41, rfl, hv_41⟩ := hv_41
        obtain ⟨rfl, e_41⟩ := hv_41
        rw [e_41]
        refine K_iretE dX7_winner_44 rfl ?_
        have hh : ¬ slo b < 66 := fun q => by rw [if_pos q] at b17; omega
        have w9 := wf9 W 0
        exact ⟨(gl_0 ⟨(by first | exact n10 | exact pI_n0.mpr (by omega)), (by first | exact n10 | exact pI_n0.mpr (by omega)), (by first | exact n10 | exact pI_n0.mpr (by omega))⟩), (by rw [wo_n R (by omega) (by omega)]), R⟩
      · refine J_aload_n (M := mX7_winner) dX7_winner_28 rfl rfl ?_
        first | refine Z_some (M := mX7_winner) (by omega) ?_ | skip
        refine J_callV (M := mX7_winner) (as := []) dX7_winner_29 ca_X7_269 ⟨by decide, by decide⟩ (hk_13 (by first | exact rfl | assumption | exact Or.inl (by assumption) | exact Or.inr rfl | (show 0 ≤ _ ∧ _ < _; omega))) rfl (Nat.le_of_ble_eq_true rfl) (k' := 1) (n' := 6) (by decide) (by decide) (kX0_winningFencer V W e13 g4 g5 ⟨t1, t2⟩) (fun v_29 h_29 hv_29 => ?_)
        obtain ⟨r_29, rfl, hv_29⟩ := hv_29
        obtain ⟨rfl, e_29⟩ := hv_29
        rw [e_29]
        refine K_iretE dX7_winner_32 rfl ?_
        have h100 : b < 100 := by
          by_cases q : b < 100
          · exact q
          · have := i6 (by omega)
            rw [if_neg (by omega)] at b17
            omega
        exact ⟨(gl_0 ⟨(by first | exact n10 | exact pI_n0.mpr (by omega)), (by first | exact n10 | exact pI_n0.mpr (by omega)), (by first | exact n10 | exact pI_n0.mpr (by omega))⟩), (by rw [wo_e R i1 h100]), R⟩
    · omega
  · refine J_aload_n (M := mX7_winner) dX7_winner_0 rfl rfl ?_
    refine J_iload_n (M := mX7_winner) dX7_winner_1 rfl rfl ?_
    refine J_callV (M := mX7_winner) (as := [_]) dX7_winner_2 ca_X7_114 ⟨by decide, by decide⟩ (hk_1 (by first | exact rfl | assumption | exact Or.inl (by assumption) | exact Or.inr rfl | (show 0 ≤ _ ∧ _ < _; omega))) rfl (Nat.le_of_ble_eq_true rfl) (k' := 1) (n' := 6) (by decide) (by decide) (kX7_boutAt V hb) (fun v_2 h_2 hv_2 => ?_)
    obtain ⟨r_2, rfl, hv_2⟩ := hv_2
    obtain ⟨rfl, e_2⟩ := hv_2
    rw [e_2]
    refine Z_rfe (M := mX7_winner) ((bAt_e R).trans i2) ?_
    refine J_astore_n (M := mX7_winner) dX7_winner_5 rfl (by decide) ?_
    refine J_aload_n (M := mX7_winner) dX7_winner_6 rfl rfl ?_
    first | refine Z_some (M := mX7_winner) (by omega) ?_ | skip
    first | refine Z_uns (M := mX7_winner) (by omega) ?_ | skip
    refine K_ifnonnull (tgt := 21) dX7_winner_7 (by decide) (fun c_7 => ?_) (fun c_7 => ?_)
    · omega
    · refine K_thr (M := mX7_winner) rfl rfl ti_74_264_78 (by decide) (by decide) (by decide) (by decide) (Or.inr ⟨dX7_winner_10, dX7_winner_13, dX7_winner_14, dX7_winner_17, dX7_winner_20⟩) ?_
      first
        | exact EM_1 (pI_f (by omega)) rfl
        | exact EM_2 (pI_n0.mpr (by omega)) (pI_f (by omega)) rfl
        | exact EM_3 (pI_n0.mpr (by omega)) (pI_n0.mpr (by omega)) (pI_f (by omega)) rfl

set_option maxRecDepth 100000 in
set_option maxHeartbeats 4000000 in
theorem p_phrases {X : GX} {h : LH} {ρ τ : TS} {c : Int} (R : RR ρ τ c) {b : Int} (hb : rg b) : CX X mX7_phrases [vR (some (1, 0)), vI (iI b)] h ρ (PX (gl (pI ((0 ≤ b ∧ b ≤ τ 9 0 - 1) ∨ (0 < τ 21 0 ∧ 101 ≤ b ∧ b ≤ 99 + τ 21 0))) 1 1) (τ 10 (slo b)) (fun r => RR r τ c)) (EM [2] (gl (pI ((0 ≤ b ∧ b ≤ τ 9 0 - 1) ∨ (0 < τ 21 0 ∧ 101 ≤ b ∧ b ≤ 99 + τ 21 0))) 1 1)) := by
  have W := R.1
  have V := R.2.1
  refine CT_of (by decide +kernel) rfl (Nat.le_of_ble_eq_true rfl) ?_
  rcases bAt_c (n := b) R with ⟨i1, i2, i3, i4, i5, i6⟩ | ⟨i1, i2⟩
  · have e13 : CE ρ 13 (slo b) := i4.1.2.1
    have e15 : CE ρ 15 (slo b) := Or.inl e13
    obtain ⟨⟨g1, g2, g3, g4, g5, g6⟩, ⟨t1, t2⟩, t3, t4⟩ := id i4
    refine J_aload_n (M := mX7_phrases) dX7_phrases_0 rfl rfl ?_
    refine J_iload_n (M := mX7_phrases) dX7_phrases_1 rfl rfl ?_
    refine J_callV (M := mX7_phrases) (as := [_]) dX7_phrases_2 ca_X7_114 ⟨by decide, by decide⟩ (hk_1 (by first | exact rfl | assumption | exact Or.inl (by assumption) | exact Or.inr rfl | (show 0 ≤ _ ∧ _ < _; omega))) rfl (Nat.le_of_ble_eq_true rfl) (k' := 1) (n' := 6) (by decide) (by decide) (kX7_boutAt V hb) (fun v_2 h_2 hv_2 => ?_)
    obtain ⟨r_2, rfl, hv_2⟩ := hv_2
    obtain ⟨rfl, e_2⟩ := hv_2
    rw [e_2]
    refine Z_rfe (M := mX7_phrases) ((bAt_e R).trans i2) ?_
    refine J_astore_n (M := mX7_phrases) dX7_phrases_5 rfl (by decide) ?_
    refine J_aload_n (M := mX7_phrases) dX7_phrases_6 rfl rfl ?_
    first | refine Z_some (M := mX7_phrases) (by omega) ?_ | skip
    first | refine Z_uns (M := mX7_phrases) (by omega) ?_ | skip
    refine K_ifnonnull (tgt := 21) dX7_phrases_7 (by decide) (fun c_7 => ?_) (fun c_7 => ?_)
    · refine J_aload_n (M := mX7_phrases) dX7_phrases_21 rfl rfl ?_
      first | refine Z_some (M := mX7_phrases) (by omega) ?_ | skip
      refine J_getf (M := mX7_phrases) dX7_phrases_22 fi_X7_141 (hk_13 (by first | exact rfl | assumption | exact Or.inl (by assumption) | exact Or.inr rfl | (show 0 ≤ _ ∧ _ < _; omega))) rfl ?_
      refine Z_wb (M := mX7_phrases) (g := ρ 20) (wk20 V) rfl (fun wb_20_13 => ?_)
      refine K_iretE dX7_phrases_25 rfl ?_
      exact ⟨(gl_0 ⟨(by first | exact n10 | exact pI_n0.mpr (by omega)), (by first | exact n10 | exact pI_n0.mpr (by omega)), (by first | exact n10 | exact pI_n0.mpr (by omega))⟩), (by rw [g5]), R⟩
    · omega
  · refine J_aload_n (M := mX7_phrases) dX7_phrases_0 rfl rfl ?_
    refine J_iload_n (M := mX7_phrases) dX7_phrases_1 rfl rfl ?_
    refine J_callV (M := mX7_phrases) (as := [_]) dX7_phrases_2 ca_X7_114 ⟨by decide, by decide⟩ (hk_1 (by first | exact rfl | assumption | exact Or.inl (by assumption) | exact Or.inr rfl | (show 0 ≤ _ ∧ _ < _; omega))) rfl (Nat.le_of_ble_eq_true rfl) (k' := 1) (n' := 6) (by decide) (by decide) (kX7_boutAt V hb) (fun v_2 h_2 hv_2 => ?_)
    obtain ⟨r_2, rfl, hv_2⟩ := hv_2
    obtain ⟨rfl, e_2⟩ := hv_2
    rw [e_2]
    refine Z_rfe (M := mX7_phrases) ((bAt_e R).trans i2) ?_
    refine J_astore_n (M := mX7_phrases) dX7_phrases_5 rfl (by decide) ?_
    refine J_aload_n (M := mX7_phrases) dX7_phrases_6 rfl rfl ?_
    first | refine Z_some (M := mX7_phrases) (by omega) ?_ | skip
    first | refine Z_uns (M := mX7_phrases) (by omega) ?_ | skip
    refine K_ifnonnull (tgt := 21) dX7_phrases_7 (by decide) (fun c_7 => ?_) (fun c_7 => ?_)
    · omega
    · refine K_thr (M := mX7_phrases) rfl rfl ti_74_264_78 (by decide) (by decide) (by decide) (by decide) (Or.inr ⟨dX7_phrases_10, dX7_phrases_13, dX7_phrases_14, dX7_phrases_17, dX7_phrases_20⟩) ?_
      first
        | exact EM_1 (pI_f (by omega)) rfl
        | exact EM_2 (pI_n0.mpr (by omega)) (pI_f (by omega)) rfl
        | exact EM_3 (pI_n0.mpr (by omega)) (pI_n0.mpr (by omega)) (pI_f (by omega)) rfl

set_option maxRecDepth 100000 in
set_option maxHeartbeats 4000000 in
theorem p_appeals {X : GX} {h : LH} {ρ τ : TS} {c : Int} (R : RR ρ τ c) {b s : Int} (hb : rg b) (hs : rg s) : CX X mX7_appeals [vR (some (1, 0)), vI (iI b), vI (iI s)] h ρ (PX (gl (pI (((0 ≤ b ∧ b ≤ τ 9 0 - 1) ∨ (0 < τ 21 0 ∧ 101 ≤ b ∧ b ≤ 99 + τ 21 0)) ∧ 0 ≤ s ∧ s ≤ 1)) 1 1) (2 - τ 11 (2 * slo b + s)) (fun r => RR r τ c)) (EM [2] (gl (pI (((0 ≤ b ∧ b ≤ τ 9 0 - 1) ∨ (0 < τ 21 0 ∧ 101 ≤ b ∧ b ≤ 99 + τ 21 0)) ∧ 0 ≤ s ∧ s ≤ 1)) 1 1)) := by
  have W := R.1
  have V := R.2.1
  refine CT_of (by decide +kernel) rfl (Nat.le_of_ble_eq_true rfl) ?_
  rcases bAt_c (n := b) R with ⟨i1, i2, i3, i4, i5, i6⟩ | ⟨i1, i2⟩
  · have e13 : CE ρ 13 (slo b) := i4.1.2.1
    have e15 : CE ρ 15 (slo b) := Or.inl e13
    obtain ⟨⟨g1, g2, g3, g4, g5, g6⟩, ⟨t1, t2⟩, t3, t4⟩ := id i4
    refine J_aload_n (M := mX7_appeals) dX7_appeals_0 rfl rfl ?_
    refine J_iload_n (M := mX7_appeals) dX7_appeals_1 rfl rfl ?_
    refine J_callV (M := mX7_appeals) (as := [_]) dX7_appeals_2 ca_X7_114 ⟨by decide, by decide⟩ (hk_1 (by first | exact rfl | assumption | exact Or.inl (by assumption) | exact Or.inr rfl | (show 0 ≤ _ ∧ _ < _; omega))) rfl (Nat.le_of_ble_eq_true rfl) (k' := 1) (n' := 6) (by decide) (by decide) (kX7_boutAt V hb) (fun v_2 h_2 hv_2 => ?_)
    obtain ⟨r_2, rfl, hv_2⟩ := hv_2
    obtain ⟨rfl, e_2⟩ := hv_2
    rw [e_2]
    refine Z_rfe (M := mX7_appeals) ((bAt_e R).trans i2) ?_
    refine J_astore_n (M := mX7_appeals) dX7_appeals_5 rfl (by decide) ?_
    refine J_aload_n (M := mX7_appeals) dX7_appeals_6 rfl rfl ?_
    first | refine Z_some (M := mX7_appeals) (by omega) ?_ | skip
    first | refine Z_uns (M := mX7_appeals) (by omega) ?_ | skip
    refine K_ifnull (tgt := 17) dX7_appeals_7 (by decide) (fun c_7 => ?_) (fun c_7 => ?_)
    · omega
    · refine J_iload_n (M := mX7_appeals) dX7_appeals_10 rfl rfl ?_
      refine M_callS (M := mX7_appeals) (as := [_]) dX7_appeals_11 ca_X7_144 ⟨by decide, by decide⟩ rfl (Nat.le_of_ble_eq_true rfl) rfl rfl (kX7_isSide (by first | assumption | exact pI_rg _ | (unfold rg; omega))) ?_
      first
        | refine Z_pt (M := mX7_appeals) (tgt := 27) dX7_appeals_14 (by decide) (fun c_14 => ?_) (fun c_14 => ?_)
        | refine Z_if_ne (M := mX7_appeals) (tgt := 27) (by first | assumption | exact pI_rg _ | (unfold rg; omega)) dX7_appeals_14 (by decide) (fun c_14 => ?_) (fun c_14 => ?_)
      · refine J_aload_n (M := mX7_appeals) dX7_appeals_27 rfl rfl ?_
        first | refine Z_some (M := mX7_appeals) (by omega) ?_ | skip
        refine J_iload_n (M := mX7_appeals) dX7_appeals_28 rfl rfl ?_
        refine J_callV (M := mX7_appeals) (as := [_]) dX7_appeals_29 ca_X7_235 ⟨by decide, by decide⟩ (hk_13 (by first | exact rfl | assumption | exact Or.inl (by assumption) | exact Or.inr rfl | (show 0 ≤ _ ∧ _ < _; omega))) rfl (Nat.le_of_ble_eq_true rfl) (k' := 1) (n' := 6) (by decide) (by decide) (kX0_appealsLeft hs e13) (fun v_29 h_29 hv_29 => ?_)
        obtain ⟨r_29, rfl, hv_29⟩ := hv_29
        obtain ⟨rfl, e_29⟩ := hv_29
        rw [e_29]
        refine K_iretE dX7_appeals_32 rfl ?_
        exact ⟨(gl_0 ⟨(by first | exact n10 | exact pI_n0.mpr (by omega)), (by first | exact n10 | exact pI_n0.mpr (by omega)), (by first | exact n10 | exact pI_n0.mpr (by omega))⟩), (by first | (by_cases z : s = 0; rw [if_pos z, t3, z, Int.add_zero]; rw [if_neg z, t4, show s = 1 by omega])), R⟩
      · refine K_thr (M := mX7_appeals) rfl rfl ti_74_252_78 (by decide) (by decide) (by decide) (by decide) (Or.inl ⟨dX7_appeals_17, dX7_appeals_20, dX7_appeals_21, dX7_appeals_23, dX7_appeals_26⟩) ?_
        first
          | exact EM_1 (pI_f (by omega)) rfl
          | exact EM_2 (pI_n0.mpr (by omega)) (pI_f (by omega)) rfl
          | exact EM_3 (pI_n0.mpr (by omega)) (pI_n0.mpr (by omega)) (pI_f (by omega)) rfl
  · refine J_aload_n (M := mX7_appeals) dX7_appeals_0 rfl rfl ?_
    refine J_iload_n (M := mX7_appeals) dX7_appeals_1 rfl rfl ?_
    refine J_callV (M := mX7_appeals) (as := [_]) dX7_appeals_2 ca_X7_114 ⟨by decide, by decide⟩ (hk_1 (by first | exact rfl | assumption | exact Or.inl (by assumption) | exact Or.inr rfl | (show 0 ≤ _ ∧ _ < _; omega))) rfl (Nat.le_of_ble_eq_true rfl) (k' := 1) (n' := 6) (by decide) (by decide) (kX7_boutAt V hb) (fun v_2 h_2 hv_2 => ?_)
    obtain ⟨r_2, rfl, hv_2⟩ := hv_2
    obtain ⟨rfl, e_2⟩ := hv_2
    rw [e_2]
    refine Z_rfe (M := mX7_appeals) ((bAt_e R).trans i2) ?_
    refine J_astore_n (M := mX7_appeals) dX7_appeals_5 rfl (by decide) ?_
    refine J_aload_n (M := mX7_appeals) dX7_appeals_6 rfl rfl ?_
    first | refine Z_some (M := mX7_appeals) (by omega) ?_ | skip
    first | refine Z_uns (M := mX7_appeals) (by omega) ?_ | skip
    refine K_ifnull (tgt := 17) dX7_appeals_7 (by decide) (fun c_7 => ?_) (fun c_7 => ?_)
    · refine K_thr (M := mX7_appeals) rfl rfl ti_74_252_78 (by decide) (by decide) (by decide) (by decide) (Or.inl ⟨dX7_appeals_17, dX7_appeals_20, dX7_appeals_21, dX7_appeals_23, dX7_appeals_26⟩) ?_
      first
        | exact EM_1 (pI_f (by omega)) rfl
        | exact EM_2 (pI_n0.mpr (by omega)) (pI_f (by omega)) rfl
        | exact EM_3 (pI_n0.mpr (by omega)) (pI_n0.mpr (by omega)) (pI_f (by omega)) rfl
    · omega

set_option maxRecDepth 100000 in
set_option maxHeartbeats 4000000 in
theorem p_touches {X : GX} {h : LH} {ρ τ : TS} {c : Int} (R : RR ρ τ c) {b n : Int} (hb : rg b) (hn : rg n) : CX X mX7_touches [vR (some (1, 0)), vI (iI b), vI (iI n)] h ρ (PX (gl (pI (((0 ≤ b ∧ b ≤ τ 9 0 - 1) ∨ (0 < τ 21 0 ∧ 101 ≤ b ∧ b ≤ 99 + τ 21 0)) ∧ 0 ≤ n ∧ n ≤ τ 10 (slo b) - 1)) 1 1) (tch τ (slo b) n) (fun r => RR r τ c)) (EM [2] (gl (pI (((0 ≤ b ∧ b ≤ τ 9 0 - 1) ∨ (0 < τ 21 0 ∧ 101 ≤ b ∧ b ≤ 99 + τ 21 0)) ∧ 0 ≤ n ∧ n ≤ τ 10 (slo b) - 1)) 1 1)) := by
  have W := R.1
  have V := R.2.1
  refine CT_of (by decide +kernel) rfl (Nat.le_of_ble_eq_true rfl) ?_
  rcases bAt_c (n := b) R with ⟨i1, i2, i3, i4, i5, i6⟩ | ⟨i1, i2⟩
  · have e13 : CE ρ 13 (slo b) := i4.1.2.1
    obtain ⟨⟨g1, g2, g3, g4, g5, g6⟩, ⟨t1, t2⟩, t3, t4⟩ := id i4
    by_cases q9 : 0 ≤ n ∧ n < ρ 20 (slo b)
    · obtain ⟨P, hg⟩ := g6 n q9.1 (by omega)
      have p0 := P.1
      refine J_aload_n (M := mX7_touches) dX7_touches_0 rfl rfl ?_
      refine J_iload_n (M := mX7_touches) dX7_touches_1 rfl rfl ?_
      refine J_callV (M := mX7_touches) (as := [_]) dX7_touches_2 ca_X7_114 ⟨by decide, by decide⟩ (hk_1 (by first | exact rfl | assumption | exact Or.inl (by assumption) | exact Or.inr rfl | (show 0 ≤ _ ∧ _ < _; omega))) rfl (Nat.le_of_ble_eq_true rfl) (k' := 1) (n' := 6) (by decide) (by decide) (kX7_boutAt V hb) (fun v_2 h_2 hv_2 => ?_)
      obtain ⟨r_2, rfl, hv_2⟩ := hv_2
      obtain ⟨rfl, e_2⟩ := hv_2
      rw [e_2]
      refine Z_rfe (M := mX7_touches) ((bAt_e R).trans i2) ?_
      refine J_astore_n (M := mX7_touches) dX7_touches_5 rfl (by decide) ?_
      refine J_aload_n (M := mX7_touches) dX7_touches_6 rfl rfl ?_
      first | refine Z_some (M := mX7_touches) (by omega) ?_ | skip
      first | refine Z_uns (M := mX7_touches) (by omega) ?_ | skip
      refine K_ifnonnull (tgt := 21) dX7_touches_7 (by decide) (fun c_7 => ?_) (fun c_7 => ?_)
      · refine J_aload_n (M := mX7_touches) dX7_touches_21 rfl rfl ?_
        first | refine Z_some (M := mX7_touches) (by omega) ?_ | skip
        refine J_iload_n (M := mX7_touches) dX7_touches_22 rfl rfl ?_
        refine J_callV (M := mX7_touches) (as := [_]) dX7_touches_23 ca_X7_231 ⟨by decide, by decide⟩ (hk_13 (by first | exact rfl | assumption | exact Or.inl (by assumption) | exact Or.inr rfl | (show 0 ≤ _ ∧ _ < _; omega))) rfl (Nat.le_of_ble_eq_true rfl) (k' := 1) (n' := 6) (by decide) (by decide) (kX0_phraseAt V e13 hn) (fun v_23 h_23 hv_23 => ?_)
        obtain ⟨r_23, rfl, hv_23⟩ := hv_23
        obtain ⟨rfl, e_23⟩ := hv_23
        rw [e_23]
        refine Z_rfe (M := mX7_touches) (if_pos q9) ?_
        refine J_astore (M := mX7_touches) dX7_touches_26 (by decide) ?_
        refine J_aload (M := mX7_touches) dX7_touches_28 rfl ?_
        first | refine Z_some (M := mX7_touches) (by omega) ?_ | skip
        first | refine Z_uns (M := mX7_touches) (by omega) ?_ | skip
        refine K_ifnonnull (tgt := 44) dX7_touches_30 (by decide) (fun c_30 => ?_) (fun c_30 => ?_)
        · refine J_aload_n (M := mX7_touches) dX7_touches_44 rfl rfl ?_
          first | refine Z_some (M := mX7_touches) (by omega) ?_ | skip
          refine J_aload (M := mX7_touches) dX7_touches_45 rfl ?_
          first | refine Z_some (M := mX7_touches) (by omega) ?_ | skip
          refine J_callV (M := mX7_touches) (as := [_]) dX7_touches_47 ca_X7_223 ⟨by decide, by decide⟩ (hk_13 (by first | exact rfl | assumption | exact Or.inl (by assumption) | exact Or.inr rfl | (show 0 ≤ _ ∧ _ < _; omega))) rfl (Nat.le_of_ble_eq_true rfl) (k' := 1) (n' := 6) (by decide) (by decide) (kX0_touchesLeft (j := n) V R.2.2.2.1.2.2.2.2.2.2.2.2.2 W e13 g3 (by omega) P hg) (fun v_47 h_47 hv_47 => ?_)
          obtain ⟨r_47, rfl, hv_47⟩ := hv_47
          obtain ⟨rfl, e_47⟩ := hv_47
          rw [e_47]
          refine K_iretE dX7_touches_50 rfl ?_
          exact ⟨(gl_0 ⟨(by first | exact n10 | exact pI_n0.mpr (by omega)), (by first | exact n10 | exact pI_n0.mpr (by omega)), (by first | exact n10 | exact pI_n0.mpr (by omega))⟩), rfl, R⟩
        · omega
      · omega
    · refine J_aload_n (M := mX7_touches) dX7_touches_0 rfl rfl ?_
      refine J_iload_n (M := mX7_touches) dX7_touches_1 rfl rfl ?_
      refine J_callV (M := mX7_touches) (as := [_]) dX7_touches_2 ca_X7_114 ⟨by decide, by decide⟩ (hk_1 (by first | exact rfl | assumption | exact Or.inl (by assumption) | exact Or.inr rfl | (show 0 ≤ _ ∧ _ < _; omega))) rfl (Nat.le_of_ble_eq_true rfl) (k' := 1) (n' := 6) (by decide) (by decide) (kX7_boutAt V hb) (fun v_2 h_2 hv_2 => ?_)
      obtain ⟨r_2, rfl, hv_2⟩ := hv_2
      obtain ⟨rfl, e_2⟩ := hv_2
      rw [e_2]
      refine Z_rfe (M := mX7_touches) ((bAt_e R).trans i2) ?_
      refine J_astore_n (M := mX7_touches) dX7_touches_5 rfl (by decide) ?_
      refine J_aload_n (M := mX7_touches) dX7_touches_6 rfl rfl ?_
      first | refine Z_some (M := mX7_touches) (by omega) ?_ | skip
      first | refine Z_uns (M := mX7_touches) (by omega) ?_ | skip
      refine K_ifnonnull (tgt := 21) dX7_touches_7 (by decide) (fun c_7 => ?_) (fun c_7 => ?_)
      · refine J_aload_n (M := mX7_touches) dX7_touches_21 rfl rfl ?_
        first | refine Z_some (M := mX7_touches) (by omega) ?_ | skip
        refine J_iload_n (M := mX7_touches) dX7_touches_22 rfl rfl ?_
        refine J_callV (M := mX7_touches) (as := [_]) dX7_touches_23 ca_X7_231 ⟨by decide, by decide⟩ (hk_13 (by first | exact rfl | assumption | exact Or.inl (by assumption) | exact Or.inr rfl | (show 0 ≤ _ ∧ _ < _; omega))) rfl (Nat.le_of_ble_eq_true rfl) (k' := 1) (n' := 6) (by decide) (by decide) (kX0_phraseAt V e13 hn) (fun v_23 h_23 hv_23 => ?_)
        obtain ⟨r_23, rfl, hv_23⟩ := hv_23
        obtain ⟨rfl, e_23⟩ := hv_23
        rw [e_23]
        refine Z_rfe (M := mX7_touches) (if_neg q9) ?_
        refine J_astore (M := mX7_touches) dX7_touches_26 (by decide) ?_
        refine J_aload (M := mX7_touches) dX7_touches_28 rfl ?_
        first | refine Z_some (M := mX7_touches) (by omega) ?_ | skip
        first | refine Z_uns (M := mX7_touches) (by omega) ?_ | skip
        refine K_ifnonnull (tgt := 44) dX7_touches_30 (by decide) (fun c_30 => ?_) (fun c_30 => ?_)
        · omega
        · refine K_thr (M := mX7_touches) rfl rfl ti_74_275_78 (by decide) (by decide) (by decide) (by decide) (Or.inr ⟨dX7_touches_33, dX7_touches_36, dX7_touches_37, dX7_touches_40, dX7_touches_43⟩) ?_
          first
            | exact EM_1 (pI_f (by omega)) rfl
            | exact EM_2 (pI_n0.mpr (by omega)) (pI_f (by omega)) rfl
            | exact EM_3 (pI_n0.mpr (by omega)) (pI_n0.mpr (by omega)) (pI_f (by omega)) rfl
      · omega
  · refine J_aload_n (M := mX7_touches) dX7_touches_0 rfl rfl ?_
    refine J_iload_n (M := mX7_touches) dX7_touches_1 rfl rfl ?_
    refine J_callV (M := mX7_touches) (as := [_]) dX7_touches_2 ca_X7_114 ⟨by decide, by decide⟩ (hk_1 (by first | exact rfl | assumption | exact Or.inl (by assumption) | exact Or.inr rfl | (show 0 ≤ _ ∧ _ < _; omega))) rfl (Nat.le_of_ble_eq_true rfl) (k' := 1) (n' := 6) (by decide) (by decide) (kX7_boutAt V hb) (fun v_2 h_2 hv_2 => ?_)
    obtain ⟨r_2, rfl, hv_2⟩ := hv_2
    obtain ⟨rfl, e_2⟩ := hv_2
    rw [e_2]
    refine Z_rfe (M := mX7_touches) ((bAt_e R).trans i2) ?_
    refine J_astore_n (M := mX7_touches) dX7_touches_5 rfl (by decide) ?_
    refine J_aload_n (M := mX7_touches) dX7_touches_6 rfl rfl ?_
    first | refine Z_some (M := mX7_touches) (by omega) ?_ | skip
    first | refine Z_uns (M := mX7_touches) (by omega) ?_ | skip
    refine K_ifnonnull (tgt := 21) dX7_touches_7 (by decide) (fun c_7 => ?_) (fun c_7 => ?_)
    · omega
    · refine K_thr (M := mX7_touches) rfl rfl ti_74_264_78 (by decide) (by decide) (by decide) (by decide) (Or.inr ⟨dX7_touches_10, dX7_touches_13, dX7_touches_14, dX7_touches_17, dX7_touches_20⟩) ?_
      first
        | exact EM_1 (pI_f (by omega)) rfl
        | exact EM_2 (pI_n0.mpr (by omega)) (pI_f (by omega)) rfl
        | exact EM_3 (pI_n0.mpr (by omega)) (pI_n0.mpr (by omega)) (pI_f (by omega)) rfl

set_option maxRecDepth 100000 in
set_option maxHeartbeats 4000000 in
theorem p_weaponOf {X : GX} {h : LH} {ρ τ : TS} {c : Int} (R : RR ρ τ c) {s : Int} (hs : rg s) : CX X mX7_weaponOf [vR (some (1, 0)), vI (iI s)] h ρ (PX (gl (pI (0 ≤ s ∧ s ≤ 1)) 1 1) (if τ 17 0 = -1 then -1 else τ 18 s) (fun r => RR r τ c)) (EM [2] (gl (pI (0 ≤ s ∧ s ≤ 1)) 1 1)) := by
  have W := R.1
  have V := R.2.1
  have w18 := wf18 W 0
  have w18b := wf18 W 1
  have a47 : ρ 47 1 = τ 5 0 := R.2.2.1.1.2.2.2.2.1
  have hp : (τ 17 0 = -1 ∧ ρ 39 0 = -1 ∧ ρ 40 0 = -1) ∨ (¬ τ 17 0 = -1 ∧ ρ 39 0 = τ 18 0 ∧ ρ 40 0 = τ 18 1 ∧ τ 18 0 < ρ 47 1 ∧ τ 18 1 < ρ 47 1) := by
    by_cases q : τ 19 0 = 0
    · obtain ⟨p1, p2, p3, p4⟩ := R.2.2.2.2.1.1 q
      by_cases z : τ 17 0 = -1
      · exact Or.inl ⟨z, (p3 z).2⟩
      · obtain ⟨-, -, v3, v4, v5, v6, -⟩ := p4 z
        exact Or.inr ⟨z, v3, v4, v5, v6⟩
    · obtain ⟨q1, -, -, -, q5, -⟩ := R.2.2.2.2.1.2 q
      exact Or.inr ⟨q1, q5⟩
  have h13 : ∀ w, 0 ≤ w → w < ρ 47 1 → ρ 13 w = w := fun w w0 w1 => (R.2.2.1.2.2.1 w w0 (by omega)).2.1
  refine CT_of (by decide +kernel) rfl (Nat.le_of_ble_eq_true rfl) ?_
  refine J_iload_n (M := mX7_weaponOf) dX7_weaponOf_0 rfl rfl ?_
  refine M_callS (M := mX7_weaponOf) (as := [_]) dX7_weaponOf_1 ca_X7_144 ⟨by decide, by decide⟩ rfl (Nat.le_of_ble_eq_true rfl) rfl rfl (kX7_isSide (by first | assumption | exact pI_rg _ | (unfold rg; omega))) ?_
  first
    | refine Z_pt (M := mX7_weaponOf) (tgt := 17) dX7_weaponOf_4 (by decide) (fun c_4 => ?_) (fun c_4 => ?_)
    | refine Z_if_ne (M := mX7_weaponOf) (tgt := 17) (by first | assumption | exact pI_rg _ | (unfold rg; omega)) dX7_weaponOf_4 (by decide) (fun c_4 => ?_) (fun c_4 => ?_)
  · refine J_aload_n (M := mX7_weaponOf) dX7_weaponOf_17 rfl rfl ?_
    refine J_getf (M := mX7_weaponOf) dX7_weaponOf_18 fi_X7_30 (hk_1 (by first | exact rfl | assumption | exact Or.inl (by assumption) | exact Or.inr rfl | (show 0 ≤ _ ∧ _ < _; omega))) rfl ?_
    refine J_iload_n (M := mX7_weaponOf) dX7_weaponOf_21 rfl rfl ?_
    refine J_callV (M := mX7_weaponOf) (as := [_]) dX7_weaponOf_22 ca_X7_160 ⟨by decide, by decide⟩ (hk_5 (by first | exact rfl | assumption | exact Or.inl (by assumption) | exact Or.inr rfl | (show 0 ≤ _ ∧ _ < _; omega))) rfl (Nat.le_of_ble_eq_true rfl) (k' := 1) (n' := 6) (by decide) (by decide) (kX3_weaponNumber V hs (by omega) (by omega)) (fun v_22 h_22 hv_22 => ?_)
    obtain ⟨r_22, rfl, hv_22⟩ := hv_22
    obtain ⟨rfl, e_22⟩ := hv_22
    rw [e_22]
    refine K_iretE dX7_weaponOf_25 rfl ?_
    refine ⟨(gl_0 ⟨(by first | exact n10 | exact pI_n0.mpr (by omega)), (by first | exact n10 | exact pI_n0.mpr (by omega)), (by first | exact n10 | exact pI_n0.mpr (by omega))⟩), congrArg (fun z => some (vI (iI z))) ?_, R⟩
    rcases hp with ⟨z1, z2, z3⟩ | ⟨z1, z2, z3, z4, z5⟩
    · rw [z2, z3, if_pos z1]
      split <;> rfl
    · rw [if_neg z1]
      by_cases z : s = 0
      · rw [if_pos z, if_neg (by omega), h13 _ (by omega) (by omega), z2, z]
      · rw [if_neg z, if_neg (by omega), h13 _ (by omega) (by omega), z3, show s = 1 by omega]
  · refine K_thr (M := mX7_weaponOf) rfl rfl ti_74_179_78 (by decide) (by decide) (by decide) (by decide) (Or.inl ⟨dX7_weaponOf_7, dX7_weaponOf_10, dX7_weaponOf_11, dX7_weaponOf_13, dX7_weaponOf_16⟩) ?_
    first
      | exact EM_1 (pI_f (by omega)) rfl
      | exact EM_2 (pI_n0.mpr (by omega)) (pI_f (by omega)) rfl
      | exact EM_3 (pI_n0.mpr (by omega)) (pI_n0.mpr (by omega)) (pI_f (by omega)) rfl

set_option maxRecDepth 100000 in
set_option maxHeartbeats 4000000 in
theorem p_nodeWinner {X : GX} {h : LH} {ρ τ : TS} {c : Int} (R : RR ρ τ c) {b : Int} (hb : rg b) : CX X mX7_nodeWinner [vR (some (1, 0)), vI (iI b)] h ρ (PX (gl (pI (0 < τ 21 0 ∧ 1 ≤ b ∧ b ≤ 2 * τ 21 0 - 1)) 1 1) (if τ 22 b < 0 then -1 else τ 22 b) (fun r => RR r τ c)) (EM [2] (gl (pI (0 < τ 21 0 ∧ 1 ≤ b ∧ b ≤ 2 * τ 21 0 - 1)) 1 1)) := by
  have W := R.1
  have V := R.2.1
  have s3 := R.2.2.2.1.1
  have w21 := wf21 W 0
  refine CT_of (by decide +kernel) rfl (Nat.le_of_ble_eq_true rfl) ?_
  refine J_aload_n (M := mX7_nodeWinner) dX7_nodeWinner_0 rfl rfl ?_
  refine J_getf (M := mX7_nodeWinner) dX7_nodeWinner_1 fi_X7_37 (hk_1 (by first | exact rfl | assumption | exact Or.inl (by assumption) | exact Or.inr rfl | (show 0 ≤ _ ∧ _ < _; omega))) rfl ?_
  refine J_iload_n (M := mX7_nodeWinner) dX7_nodeWinner_4 rfl rfl ?_
  refine J_callV (M := mX7_nodeWinner) (as := [_]) dX7_nodeWinner_5 ca_X7_323 ⟨by decide, by decide⟩ (hk_6 (by first | exact rfl | assumption | exact Or.inl (by assumption) | exact Or.inr rfl | (show 0 ≤ _ ∧ _ < _; omega))) rfl (Nat.le_of_ble_eq_true rfl) (k' := 1) (n' := 6) (by decide) (by decide) (kX4_hasNode V hb) (fun v_5 h_5 hv_5 => ?_)
  obtain ⟨r_5, rfl, hv_5⟩ := hv_5
  obtain ⟨rfl, e_5⟩ := hv_5
  rw [e_5]
  first
    | refine Z_pt (M := mX7_nodeWinner) (tgt := 22) dX7_nodeWinner_8 (by decide) (fun c_8 => ?_) (fun c_8 => ?_)
    | refine Z_if_ne (M := mX7_nodeWinner) (tgt := 22) (by first | assumption | exact pI_rg _ | (unfold rg; omega)) dX7_nodeWinner_8 (by decide) (fun c_8 => ?_) (fun c_8 => ?_)
  · refine J_aload_n (M := mX7_nodeWinner) dX7_nodeWinner_22 rfl rfl ?_
    refine J_getf (M := mX7_nodeWinner) dX7_nodeWinner_23 fi_X7_37 (hk_1 (by first | exact rfl | assumption | exact Or.inl (by assumption) | exact Or.inr rfl | (show 0 ≤ _ ∧ _ < _; omega))) rfl ?_
    refine J_iload_n (M := mX7_nodeWinner) dX7_nodeWinner_26 rfl rfl ?_
    refine J_callV (M := mX7_nodeWinner) (as := [_]) dX7_nodeWinner_27 ca_X7_272 ⟨by decide, by decide⟩ (hk_6 (by first | exact rfl | assumption | exact Or.inl (by assumption) | exact Or.inr rfl | (show 0 ≤ _ ∧ _ < _; omega))) rfl (Nat.le_of_ble_eq_true rfl) (k' := 1) (n' := 6) (by decide) (by decide) (kX4_winnerAt V hb) (fun v_27 h_27 hv_27 => ?_)
    obtain ⟨r_27, rfl, hv_27⟩ := hv_27
    obtain ⟨rfl, e_27⟩ := hv_27
    rw [e_27]
    refine K_iretE dX7_nodeWinner_30 rfl ?_
    exact ⟨(gl_0 ⟨(by first | exact n10 | exact pI_n0.mpr (by omega)), (by first | exact n10 | exact pI_n0.mpr (by omega)), (by first | exact n10 | exact pI_n0.mpr (by omega))⟩), (by rw [if_pos (by omega), R.2.2.2.1.2.2.2.1 b (by omega) (by omega)]; rfl), R⟩
  · refine K_thr (M := mX7_nodeWinner) rfl rfl ti_74_326_78 (by decide) (by decide) (by decide) (by decide) (Or.inr ⟨dX7_nodeWinner_11, dX7_nodeWinner_14, dX7_nodeWinner_15, dX7_nodeWinner_18, dX7_nodeWinner_21⟩) ?_
    first
      | exact EM_1 (pI_f (by omega)) rfl
      | exact EM_2 (pI_n0.mpr (by omega)) (pI_f (by omega)) rfl
      | exact EM_3 (pI_n0.mpr (by omega)) (pI_n0.mpr (by omega)) (pI_f (by omega)) rfl
