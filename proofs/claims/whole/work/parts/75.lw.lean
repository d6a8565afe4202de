/-! THE LAW: its own methods -/
theorem EM_i1 {a : Nat} {g : Int} {k : Nat} (h : EM [a] g k) : g = 1 ∧ k = a := by
  obtain ⟨h1, h2⟩ := h
  cases hz : (g - 1).toNat with
  | zero => rw [hz] at h2; exact ⟨by omega, (Option.some.inj h2).symm⟩
  | succ m => rw [hz] at h2; cases (show (none : Option Nat) = some k from h2)
theorem EM_i2 {a b : Nat} {g : Int} {k : Nat} (h : EM [a, b] g k) : (g = 1 ∧ k = a) ∨ (g = 2 ∧ k = b) := by
  obtain ⟨h1, h2⟩ := h
  cases hz : (g - 1).toNat with
  | zero => rw [hz] at h2; exact Or.inl ⟨by omega, (Option.some.inj h2).symm⟩
  | succ m =>
    cases m with
    | zero => rw [hz] at h2; exact Or.inr ⟨by omega, (Option.some.inj h2).symm⟩
    | succ m => rw [hz] at h2; cases (show (none : Option Nat) = some k from h2)
theorem EM_i3 {a b c : Nat} {g : Int} {k : Nat} (h : EM [a, b, c] g k) : (g = 1 ∧ k = a) ∨ (g = 2 ∧ k = b) ∨ (g = 3 ∧ k = c) := by
  obtain ⟨h1, h2⟩ := h
  cases hz : (g - 1).toNat with
  | zero => rw [hz] at h2; exact Or.inl ⟨by omega, (Option.some.inj h2).symm⟩
  | succ m =>
    cases m with
    | zero => rw [hz] at h2; exact Or.inr (Or.inl ⟨by omega, (Option.some.inj h2).symm⟩)
    | succ m =>
      cases m with
      | zero => rw [hz] at h2; exact Or.inr (Or.inr ⟨by omega, (Option.some.inj h2).symm⟩)
      | succ m => rw [hz] at h2; cases (show (none : Option Nat) = some k from h2)
theorem hk_30 {h : LH} {ρ : TS} : hk h ρ (30, 0) = h (30, 0) := by unfold hk; rw [if_neg (by decide)]
theorem hup_30 {h : LH} {ρ : TS} {c : LC} : hup (hk h ρ) (30, 0) c = hk (hup h (30, 0) c) ρ := by
  funext t
  by_cases e : t = (30, 0)
  · rw [e, hup_s, hk_30, hup_s]
  · rw [hup_n e]
    unfold hk
    rw [hup_n e]
/-- a call of the law's: its number, its value in the long that is handed on -/
def LQ (h : LH) (ρ : TS) (f : Nat → Int64) (g v : Int) (T : TS → Prop) : Option LV → LH → Prop := fun o h' => o = some (vI (iI g)) ∧ ((¬ g = 0 ∧ h' = hk h ρ) ∨ (g = 0 ∧ ∃ r, T r ∧ h' = hk (hup h (30, 0) (cL 2 1 (vp_updL f 0 (iI v).toInt64))) r))
theorem l_1 : Int64.ofNat ((1 : Fin 2) : Nat) = (iI 1).toInt64 := by rw [show iI 1 = nI 1 from (iI_nI 1).symm]; decide
theorem l_0 : Int64.ofNat ((0 : Fin 2) : Nat) = (iI 0).toInt64 := by rw [iI_0]; decide
set_option maxRecDepth 100000 in
set_option maxHeartbeats 4000000 in
theorem l_allez {X : GX} {h : LH} {ρ : TS} {f : Nat → Int64} {g v : Int} {T : TS → Prop} (hh : h (30, 0) = some (cL 2 1 f)) (hp : CX X mX7_allez [vR (some (1, 0))] h ρ (PX g v T) (EM [0] g)) : CT X mL_allez [vR (some (1, 0)), vR (some (30, 0))] (hk h ρ) (rQ (LQ h ρ f g v T)) := by
  refine CT_of (by decide +kernel) rfl (Nat.le_of_ble_eq_true rfl) ?_
  refine J_aload_n (M := mL_allez) dL_allez_0 rfl rfl ?_
  refine Z_iconst (M := mL_allez) dL_allez_1 ?_
  refine J_aload_n (M := mL_allez) dL_allez_2 rfl rfl ?_
  refine J_callX (M := mL_allez) (as := []) dL_allez_3 ca_L_41 ⟨by decide, by decide⟩ (hk_1 (show CE ρ 1 0 from rfl)) rfl (Nat.le_of_ble_eq_true rfl) (k' := 0) (n' := 0) (by decide) (by decide) hp (fun kq h' hq => ?_) (fun v_ h' hv => ?_)
  · obtain ⟨he, rfl⟩ := hq
    obtain ⟨eg, rfl⟩ := EM_i1 he
    refine ⟨_, _, _, hi_L_allez_0, ?_⟩
    refine Z_iconst (M := mL_allez) dL_allez_12 ?_
    refine J_iret (M := mL_allez) dL_allez_13 rfl ?_
    exact ⟨by rw [eg], Or.inl ⟨by omega, rfl⟩⟩
  · obtain ⟨r, rfl, hg, rfl, hT⟩ := hv
    refine J_i2l (M := mL_allez) dL_allez_6 ?_
    refine J_last (M := mL_allez) dL_allez_7 (hk_30.trans hh) (ix_iI (by decide) (by decide) (by decide)) ?_
    refine Z_h (M := mL_allez) hup_30 ?_
    refine J_goto (M := mL_allez) (tgt := 14) dL_allez_8 (by decide) ?_
    refine Z_iconst (M := mL_allez) dL_allez_14 ?_
    refine J_iret (M := mL_allez) dL_allez_15 rfl ?_
    exact ⟨by rw [hg], Or.inr ⟨hg, r, hT, rfl⟩⟩

set_option maxRecDepth 100000 in
set_option maxHeartbeats 4000000 in
theorem l_appeal {X : GX} {h : LH} {ρ : TS} {f : Nat → Int64} {a b : Int} {g v : Int} {T : TS → Prop} (hh : h (30, 0) = some (cL 2 1 f)) (hp : CX X mX7_appeal [vR (some (1, 0)), vI (iI a), vI (iI b)] h ρ (PX g v T) (EM [2, 1, 0] g)) : CT X mL_appeal [vR (some (1, 0)), vI (iI a), vI (iI b), vR (some (30, 0))] (hk h ρ) (rQ (LQ h ρ f g v T)) := by
  refine CT_of (by decide +kernel) rfl (Nat.le_of_ble_eq_true rfl) ?_
  refine J_aload_n (M := mL_appeal) dL_appeal_0 rfl rfl ?_
  refine Z_iconst (M := mL_appeal) dL_appeal_1 ?_
  refine J_aload_n (M := mL_appeal) dL_appeal_2 rfl rfl ?_
  refine J_iload_n (M := mL_appeal) dL_appeal_3 rfl rfl ?_
  refine J_iload_n (M := mL_appeal) dL_appeal_4 rfl rfl ?_
  refine J_callX (M := mL_appeal) (as := [vI (iI a), vI (iI b)]) dL_appeal_5 ca_L_54 ⟨by decide, by decide⟩ (hk_1 (show CE ρ 1 0 from rfl)) rfl (Nat.le_of_ble_eq_true rfl) (k' := 0) (n' := 0) (by decide) (by decide) hp (fun kq h' hq => ?_) (fun v_ h' hv => ?_)
  · obtain ⟨he, rfl⟩ := hq
    rcases EM_i3 he with ⟨eg, rfl⟩ | ⟨eg, rfl⟩ | ⟨eg, rfl⟩
    · refine ⟨_, _, _, hi_L_appeal_2, ?_⟩
      refine Z_iconst (M := mL_appeal) dL_appeal_15 ?_
      refine J_iret (M := mL_appeal) dL_appeal_16 rfl ?_
      exact ⟨by rw [eg], Or.inl ⟨by omega, rfl⟩⟩
    · refine ⟨_, _, _, hi_L_appeal_1, ?_⟩
      refine Z_iconst (M := mL_appeal) dL_appeal_19 ?_
      refine J_iret (M := mL_appeal) dL_appeal_20 rfl ?_
      exact ⟨by rw [eg], Or.inl ⟨by omega, rfl⟩⟩
    · refine ⟨_, _, _, hi_L_appeal_0, ?_⟩
      refine Z_iconst (M := mL_appeal) dL_appeal_23 ?_
      refine J_iret (M := mL_appeal) dL_appeal_24 rfl ?_
      exact ⟨by rw [eg], Or.inl ⟨by omega, rfl⟩⟩
  · obtain ⟨r, rfl, hg, rfl, hT⟩ := hv
    refine J_i2l (M := mL_appeal) dL_appeal_8 ?_
    refine J_last (M := mL_appeal) dL_appeal_9 (hk_30.trans hh) (ix_iI (by decide) (by decide) (by decide)) ?_
    refine Z_h (M := mL_appeal) hup_30 ?_
    refine J_goto (M := mL_appeal) (tgt := 25) dL_appeal_10 (by decide) ?_
    refine Z_iconst (M := mL_appeal) dL_appeal_25 ?_
    refine J_iret (M := mL_appeal) dL_appeal_26 rfl ?_
    exact ⟨by rw [hg], Or.inr ⟨hg, r, hT, rfl⟩⟩

set_option maxRecDepth 100000 in
set_option maxHeartbeats 4000000 in
theorem l_appeals {X : GX} {h : LH} {ρ : TS} {f : Nat → Int64} {a b : Int} {g v : Int} {T : TS → Prop} (hh : h (30, 0) = some (cL 2 1 f)) (hp : CX X mX7_appeals [vR (some (1, 0)), vI (iI a), vI (iI b)] h ρ (PX g v T) (EM [2] g)) : CT X mL_appeals [vR (some (1, 0)), vI (iI a), vI (iI b), vR (some (30, 0))] (hk h ρ) (rQ (LQ h ρ f g v T)) := by
  refine CT_of (by decide +kernel) rfl (Nat.le_of_ble_eq_true rfl) ?_
  refine J_aload_n (M := mL_appeals) dL_appeals_0 rfl rfl ?_
  refine Z_iconst (M := mL_appeals) dL_appeals_1 ?_
  refine J_aload_n (M := mL_appeals) dL_appeals_2 rfl rfl ?_
  refine J_iload_n (M := mL_appeals) dL_appeals_3 rfl rfl ?_
  refine J_iload_n (M := mL_appeals) dL_appeals_4 rfl rfl ?_
  refine J_callX (M := mL_appeals) (as := [vI (iI a), vI (iI b)]) dL_appeals_5 ca_L_78 ⟨by decide, by decide⟩ (hk_1 (show CE ρ 1 0 from rfl)) rfl (Nat.le_of_ble_eq_true rfl) (k' := 0) (n' := 0) (by decide) (by decide) hp (fun kq h' hq => ?_) (fun v_ h' hv => ?_)
  · obtain ⟨he, rfl⟩ := hq
    obtain ⟨eg, rfl⟩ := EM_i1 he
    refine ⟨_, _, _, hi_L_appeals_2, ?_⟩
    refine Z_iconst (M := mL_appeals) dL_appeals_15 ?_
    refine J_iret (M := mL_appeals) dL_appeals_16 rfl ?_
    exact ⟨by rw [eg], Or.inl ⟨by omega, rfl⟩⟩
  · obtain ⟨r, rfl, hg, rfl, hT⟩ := hv
    refine J_i2l (M := mL_appeals) dL_appeals_8 ?_
    refine J_last (M := mL_appeals) dL_appeals_9 (hk_30.trans hh) (ix_iI (by decide) (by decide) (by decide)) ?_
    refine Z_h (M := mL_appeals) hup_30 ?_
    refine J_goto (M := mL_appeals) (tgt := 17) dL_appeals_10 (by decide) ?_
    refine Z_iconst (M := mL_appeals) dL_appeals_17 ?_
    refine J_iret (M := mL_appeals) dL_appeals_18 rfl ?_
    exact ⟨by rw [hg], Or.inr ⟨hg, r, hT, rfl⟩⟩

set_option maxRecDepth 100000 in
set_option maxHeartbeats 4000000 in
theorem l_begin {X : GX} {h : LH} {ρ : TS} {f : Nat → Int64} {a b d : Int} {g v : Int} {T : TS → Prop} (hh : h (30, 0) = some (cL 2 1 f)) (hp : CX X mX7_begin [vR (some (1, 0)), vI (iI a), vI (iI b), vI (iI d)] h ρ (PX g v T) (EM [2, 0] g)) : CT X mL_begin [vR (some (1, 0)), vI (iI a), vI (iI b), vI (iI d), vR (some (30, 0))] (hk h ρ) (rQ (LQ h ρ f g v T)) := by
  refine CT_of (by decide +kernel) rfl (Nat.le_of_ble_eq_true rfl) ?_
  refine J_aload (M := mL_begin) dL_begin_0 rfl ?_
  refine Z_iconst (M := mL_begin) dL_begin_2 ?_
  refine J_aload_n (M := mL_begin) dL_begin_3 rfl rfl ?_
  refine J_iload_n (M := mL_begin) dL_begin_4 rfl rfl ?_
  refine J_iload_n (M := mL_begin) dL_begin_5 rfl rfl ?_
  refine J_iload_n (M := mL_begin) dL_begin_6 rfl rfl ?_
  refine J_callX (M := mL_begin) (as := [vI (iI a), vI (iI b), vI (iI d)]) dL_begin_7 ca_L_33 ⟨by decide, by decide⟩ (hk_1 (show CE ρ 1 0 from rfl)) rfl (Nat.le_of_ble_eq_true rfl) (k' := 0) (n' := 0) (by decide) (by decide) hp (fun kq h' hq => ?_) (fun v_ h' hv => ?_)
  · obtain ⟨he, rfl⟩ := hq
    rcases EM_i2 he with ⟨eg, rfl⟩ | ⟨eg, rfl⟩
    · refine ⟨_, _, _, hi_L_begin_2, ?_⟩
      refine Z_iconst (M := mL_begin) dL_begin_17 ?_
      refine J_iret (M := mL_begin) dL_begin_18 rfl ?_
      exact ⟨by rw [eg], Or.inl ⟨by omega, rfl⟩⟩
    · refine ⟨_, _, _, hi_L_begin_0, ?_⟩
      refine Z_iconst (M := mL_begin) dL_begin_21 ?_
      refine J_iret (M := mL_begin) dL_begin_22 rfl ?_
      exact ⟨by rw [eg], Or.inl ⟨by omega, rfl⟩⟩
  · obtain ⟨r, rfl, hg, rfl, hT⟩ := hv
    refine J_i2l (M := mL_begin) dL_begin_10 ?_
    refine J_last (M := mL_begin) dL_begin_11 (hk_30.trans hh) (ix_iI (by decide) (by decide) (by decide)) ?_
    refine Z_h (M := mL_begin) hup_30 ?_
    refine J_goto (M := mL_begin) (tgt := 23) dL_begin_12 (by decide) ?_
    refine Z_iconst (M := mL_begin) dL_begin_23 ?_
    refine J_iret (M := mL_begin) dL_begin_24 rfl ?_
    exact ⟨by rw [hg], Or.inr ⟨hg, r, hT, rfl⟩⟩

set_option maxRecDepth 100000 in
set_option maxHeartbeats 4000000 in
theorem l_change {X : GX} {h : LH} {ρ : TS} {f : Nat → Int64} {a b : Int} {g v : Int} {T : TS → Prop} (hh : h (30, 0) = some (cL 2 1 f)) (hp : CX X mX7_change [vR (some (1, 0)), vI (iI a), vI (iI b)] h ρ (PX g v T) (EM [2, 0] g)) : CT X mL_change [vR (some (1, 0)), vI (iI a), vI (iI b), vR (some (30, 0))] (hk h ρ) (rQ (LQ h ρ f g v T)) := by
  refine CT_of (by decide +kernel) rfl (Nat.le_of_ble_eq_true rfl) ?_
  refine J_aload_n (M := mL_change) dL_change_0 rfl rfl ?_
  refine Z_iconst (M := mL_change) dL_change_1 ?_
  refine J_aload_n (M := mL_change) dL_change_2 rfl rfl ?_
  refine J_iload_n (M := mL_change) dL_change_3 rfl rfl ?_
  refine J_iload_n (M := mL_change) dL_change_4 rfl rfl ?_
  refine J_callX (M := mL_change) (as := [vI (iI a), vI (iI b)]) dL_change_5 ca_L_37 ⟨by decide, by decide⟩ (hk_1 (show CE ρ 1 0 from rfl)) rfl (Nat.le_of_ble_eq_true rfl) (k' := 0) (n' := 0) (by decide) (by decide) hp (fun kq h' hq => ?_) (fun v_ h' hv => ?_)
  · obtain ⟨he, rfl⟩ := hq
    rcases EM_i2 he with ⟨eg, rfl⟩ | ⟨eg, rfl⟩
    · refine ⟨_, _, _, hi_L_change_2, ?_⟩
      refine Z_iconst (M := mL_change) dL_change_15 ?_
      refine J_iret (M := mL_change) dL_change_16 rfl ?_
      exact ⟨by rw [eg], Or.inl ⟨by omega, rfl⟩⟩
    · refine ⟨_, _, _, hi_L_change_0, ?_⟩
      refine Z_iconst (M := mL_change) dL_change_19 ?_
      refine J_iret (M := mL_change) dL_change_20 rfl ?_
      exact ⟨by rw [eg], Or.inl ⟨by omega, rfl⟩⟩
  · obtain ⟨r, rfl, hg, rfl, hT⟩ := hv
    refine J_i2l (M := mL_change) dL_change_8 ?_
    refine J_last (M := mL_change) dL_change_9 (hk_30.trans hh) (ix_iI (by decide) (by decide) (by decide)) ?_
    refine Z_h (M := mL_change) hup_30 ?_
    refine J_goto (M := mL_change) (tgt := 21) dL_change_10 (by decide) ?_
    refine Z_iconst (M := mL_change) dL_change_21 ?_
    refine J_iret (M := mL_change) dL_change_22 rfl ?_
    exact ⟨by rw [hg], Or.inr ⟨hg, r, hT, rfl⟩⟩

set_option maxRecDepth 100000 in
set_option maxHeartbeats 4000000 in
theorem l_contact {X : GX} {h : LH} {ρ : TS} {f : Nat → Int64} {a b d : Int} {g v : Int} {T : TS → Prop} (hh : h (30, 0) = some (cL 2 1 f)) (hp : CX X mX7_contact [vR (some (1, 0)), vI (iI a), vI (iI b), vI (iI d)] h ρ (PX g v T) (EM [2, 1, 0] g)) : CT X mL_contact [vR (some (1, 0)), vI (iI a), vI (iI b), vI (iI d), vR (some (30, 0))] (hk h ρ) (rQ (LQ h ρ f g v T)) := by
  refine CT_of (by decide +kernel) rfl (Nat.le_of_ble_eq_true rfl) ?_
  refine J_aload (M := mL_contact) dL_contact_0 rfl ?_
  refine Z_iconst (M := mL_contact) dL_contact_2 ?_
  refine J_aload_n (M := mL_contact) dL_contact_3 rfl rfl ?_
  refine J_iload_n (M := mL_contact) dL_contact_4 rfl rfl ?_
  refine J_iload_n (M := mL_contact) dL_contact_5 rfl rfl ?_
  refine J_iload_n (M := mL_contact) dL_contact_6 rfl rfl ?_
  refine J_callX (M := mL_contact) (as := [vI (iI a), vI (iI b), vI (iI d)]) dL_contact_7 ca_L_44 ⟨by decide, by decide⟩ (hk_1 (show CE ρ 1 0 from rfl)) rfl (Nat.le_of_ble_eq_true rfl) (k' := 0) (n' := 0) (by decide) (by decide) hp (fun kq h' hq => ?_) (fun v_ h' hv => ?_)
  · obtain ⟨he, rfl⟩ := hq
    rcases EM_i3 he with ⟨eg, rfl⟩ | ⟨eg, rfl⟩ | ⟨eg, rfl⟩
    · refine ⟨_, _, _, hi_L_contact_2, ?_⟩
      refine Z_iconst (M := mL_contact) dL_contact_17 ?_
      refine J_iret (M := mL_contact) dL_contact_18 rfl ?_
      exact ⟨by rw [eg], Or.inl ⟨by omega, rfl⟩⟩
    · refine ⟨_, _, _, hi_L_contact_1, ?_⟩
      refine Z_iconst (M := mL_contact) dL_contact_21 ?_
      refine J_iret (M := mL_contact) dL_contact_22 rfl ?_
      exact ⟨by rw [eg], Or.inl ⟨by omega, rfl⟩⟩
    · refine ⟨_, _, _, hi_L_contact_0, ?_⟩
      refine Z_iconst (M := mL_contact) dL_contact_25 ?_
      refine J_iret (M := mL_contact) dL_contact_26 rfl ?_
      exact ⟨by rw [eg], Or.inl ⟨by omega, rfl⟩⟩
  · obtain ⟨r, rfl, hg, rfl, hT⟩ := hv
    refine J_i2l (M := mL_contact) dL_contact_10 ?_
    refine J_last (M := mL_contact) dL_contact_11 (hk_30.trans hh) (ix_iI (by decide) (by decide) (by decide)) ?_
    refine Z_h (M := mL_contact) hup_30 ?_
    refine J_goto (M := mL_contact) (tgt := 27) dL_contact_12 (by decide) ?_
    refine Z_iconst (M := mL_contact) dL_contact_27 ?_
    refine J_iret (M := mL_contact) dL_contact_28 rfl ?_
    exact ⟨by rw [hg], Or.inr ⟨hg, r, hT, rfl⟩⟩

set_option maxRecDepth 100000 in
set_option maxHeartbeats 4000000 in
theorem l_drawPools {X : GX} {h : LH} {ρ : TS} {f : Nat → Int64} {a : Int} {g v : Int} {T : TS → Prop} (hh : h (30, 0) = some (cL 2 1 f)) (hp : CX X mX7_drawPools [vR (some (1, 0)), vI (iI a)] h ρ (PX g v T) (EM [1, 0] g)) : CT X mL_drawPools [vR (some (1, 0)), vI (iI a), vR (some (30, 0))] (hk h ρ) (rQ (LQ h ρ f g v T)) := by
  refine CT_of (by decide +kernel) rfl (Nat.le_of_ble_eq_true rfl) ?_
  refine J_aload_n (M := mL_drawPools) dL_drawPools_0 rfl rfl ?_
  refine Z_iconst (M := mL_drawPools) dL_drawPools_1 ?_
  refine J_aload_n (M := mL_drawPools) dL_drawPools_2 rfl rfl ?_
  refine J_iload_n (M := mL_drawPools) dL_drawPools_3 rfl rfl ?_
  refine J_callX (M := mL_drawPools) (as := [vI (iI a)]) dL_drawPools_4 ca_L_81 ⟨by decide, by decide⟩ (hk_1 (show CE ρ 1 0 from rfl)) rfl (Nat.le_of_ble_eq_true rfl) (k' := 0) (n' := 0) (by decide) (by decide) hp (fun kq h' hq => ?_) (fun v_ h' hv => ?_)
  · obtain ⟨he, rfl⟩ := hq
    rcases EM_i2 he with ⟨eg, rfl⟩ | ⟨eg, rfl⟩
    · refine ⟨_, _, _, hi_L_drawPools_1, ?_⟩
      refine Z_iconst (M := mL_drawPools) dL_drawPools_13 ?_
      refine J_iret (M := mL_drawPools) dL_drawPools_14 rfl ?_
      exact ⟨by rw [eg], Or.inl ⟨by omega, rfl⟩⟩
    · refine ⟨_, _, _, hi_L_drawPools_0, ?_⟩
      refine Z_iconst (M := mL_drawPools) dL_drawPools_16 ?_
      refine J_iret (M := mL_drawPools) dL_drawPools_17 rfl ?_
      exact ⟨by rw [eg], Or.inl ⟨by omega, rfl⟩⟩
  · obtain ⟨r, rfl, hg, rfl, hT⟩ := hv
    refine J_i2l (M := mL_drawPools) dL_drawPools_7 ?_
    refine J_last (M := mL_drawPools) dL_drawPools_8 (hk_30.trans hh) (ix_iI (by decide) (by decide) (by decide)) ?_
    refine Z_h (M := mL_drawPools) hup_30 ?_
    refine J_goto (M := mL_drawPools) (tgt := 18) dL_drawPools_9 (by decide) ?_
    refine Z_iconst (M := mL_drawPools) dL_drawPools_18 ?_
    refine J_iret (M := mL_drawPools) dL_drawPools_19 rfl ?_
    exact ⟨by rw [hg], Or.inr ⟨hg, r, hT, rfl⟩⟩

set_option maxRecDepth 100000 in
set_option maxHeartbeats 4000000 in
theorem l_drawTableau {X : GX} {h : LH} {ρ : TS} {f : Nat → Int64} {g v : Int} {T : TS → Prop} (hh : h (30, 0) = some (cL 2 1 f)) (hp : CX X mX7_drawTableau [vR (some (1, 0))] h ρ (PX g v T) (EM [0] g)) : CT X mL_drawTableau [vR (some (1, 0)), vR (some (30, 0))] (hk h ρ) (rQ (LQ h ρ f g v T)) := by
  refine CT_of (by decide +kernel) rfl (Nat.le_of_ble_eq_true rfl) ?_
  refine J_aload_n (M := mL_drawTableau) dL_drawTableau_0 rfl rfl ?_
  refine Z_iconst (M := mL_drawTableau) dL_drawTableau_1 ?_
  refine J_aload_n (M := mL_drawTableau) dL_drawTableau_2 rfl rfl ?_
  refine J_callX (M := mL_drawTableau) (as := []) dL_drawTableau_3 ca_L_93 ⟨by decide, by decide⟩ (hk_1 (show CE ρ 1 0 from rfl)) rfl (Nat.le_of_ble_eq_true rfl) (k' := 0) (n' := 0) (by decide) (by decide) hp (fun kq h' hq => ?_) (fun v_ h' hv => ?_)
  · obtain ⟨he, rfl⟩ := hq
    obtain ⟨eg, rfl⟩ := EM_i1 he
    refine ⟨_, _, _, hi_L_drawTableau_0, ?_⟩
    refine Z_iconst (M := mL_drawTableau) dL_drawTableau_12 ?_
    refine J_iret (M := mL_drawTableau) dL_drawTableau_13 rfl ?_
    exact ⟨by rw [eg], Or.inl ⟨by omega, rfl⟩⟩
  · obtain ⟨r, rfl, hg, rfl, hT⟩ := hv
    refine J_i2l (M := mL_drawTableau) dL_drawTableau_6 ?_
    refine J_last (M := mL_drawTableau) dL_drawTableau_7 (hk_30.trans hh) (ix_iI (by decide) (by decide) (by decide)) ?_
    refine Z_h (M := mL_drawTableau) hup_30 ?_
    refine J_goto (M := mL_drawTableau) (tgt := 14) dL_drawTableau_8 (by decide) ?_
    refine Z_iconst (M := mL_drawTableau) dL_drawTableau_14 ?_
    refine J_iret (M := mL_drawTableau) dL_drawTableau_15 rfl ?_
    exact ⟨by rw [hg], Or.inr ⟨hg, r, hT, rfl⟩⟩

set_option maxRecDepth 100000 in
set_option maxHeartbeats 4000000 in
theorem l_fencer {X : GX} {h : LH} {ρ : TS} {f : Nat → Int64} {g v : Int} {T : TS → Prop} (hh : h (30, 0) = some (cL 2 1 f)) (hp : CX X mX7_fencer [vR (some (1, 0))] h ρ (PX g v T) (EM [0] g)) : CT X mL_fencer [vR (some (1, 0)), vR (some (30, 0))] (hk h ρ) (rQ (LQ h ρ f g v T)) := by
  refine CT_of (by decide +kernel) rfl (Nat.le_of_ble_eq_true rfl) ?_
  refine J_aload_n (M := mL_fencer) dL_fencer_0 rfl rfl ?_
  refine Z_iconst (M := mL_fencer) dL_fencer_1 ?_
  refine J_aload_n (M := mL_fencer) dL_fencer_2 rfl rfl ?_
  refine J_callX (M := mL_fencer) (as := []) dL_fencer_3 ca_L_7 ⟨by decide, by decide⟩ (hk_1 (show CE ρ 1 0 from rfl)) rfl (Nat.le_of_ble_eq_true rfl) (k' := 0) (n' := 0) (by decide) (by decide) hp (fun kq h' hq => ?_) (fun v_ h' hv => ?_)
  · obtain ⟨he, rfl⟩ := hq
    obtain ⟨eg, rfl⟩ := EM_i1 he
    refine ⟨_, _, _, hi_L_fencer_0, ?_⟩
    refine Z_iconst (M := mL_fencer) dL_fencer_12 ?_
    refine J_iret (M := mL_fencer) dL_fencer_13 rfl ?_
    exact ⟨by rw [eg], Or.inl ⟨by omega, rfl⟩⟩
  · obtain ⟨r, rfl, hg, rfl, hT⟩ := hv
    refine J_i2l (M := mL_fencer) dL_fencer_6 ?_
    refine J_last (M := mL_fencer) dL_fencer_7 (hk_30.trans hh) (ix_iI (by decide) (by decide) (by decide)) ?_
    refine Z_h (M := mL_fencer) hup_30 ?_
    refine J_goto (M := mL_fencer) (tgt := 14) dL_fencer_8 (by decide) ?_
    refine Z_iconst (M := mL_fencer) dL_fencer_14 ?_
    refine J_iret (M := mL_fencer) dL_fencer_15 rfl ?_
    exact ⟨by rw [hg], Or.inr ⟨hg, r, hT, rfl⟩⟩

set_option maxRecDepth 100000 in
set_option maxHeartbeats 4000000 in
theorem l_fencerOf {X : GX} {h : LH} {ρ : TS} {f : Nat → Int64} {a b : Int} {g v : Int} {T : TS → Prop} (hh : h (30, 0) = some (cL 2 1 f)) (hp : CX X mX7_fencerOf [vR (some (1, 0)), vI (iI a), vI (iI b)] h ρ (PX g v T) (EM [2] g)) : CT X mL_fencerOf [vR (some (1, 0)), vI (iI a), vI (iI b), vR (some (30, 0))] (hk h ρ) (rQ (LQ h ρ f g v T)) := by
  refine CT_of (by decide +kernel) rfl (Nat.le_of_ble_eq_true rfl) ?_
  refine J_aload_n (M := mL_fencerOf) dL_fencerOf_0 rfl rfl ?_
  refine Z_iconst (M := mL_fencerOf) dL_fencerOf_1 ?_
  refine J_aload_n (M := mL_fencerOf) dL_fencerOf_2 rfl rfl ?_
  refine J_iload_n (M := mL_fencerOf) dL_fencerOf_3 rfl rfl ?_
  refine J_iload_n (M := mL_fencerOf) dL_fencerOf_4 rfl rfl ?_
  refine J_callX (M := mL_fencerOf) (as := [vI (iI a), vI (iI b)]) dL_fencerOf_5 ca_L_60 ⟨by decide, by decide⟩ (hk_1 (show CE ρ 1 0 from rfl)) rfl (Nat.le_of_ble_eq_true rfl) (k' := 0) (n' := 0) (by decide) (by decide) hp (fun kq h' hq => ?_) (fun v_ h' hv => ?_)
  · obtain ⟨he, rfl⟩ := hq
    obtain ⟨eg, rfl⟩ := EM_i1 he
    refine ⟨_, _, _, hi_L_fencerOf_2, ?_⟩
    refine Z_iconst (M := mL_fencerOf) dL_fencerOf_15 ?_
    refine J_iret (M := mL_fencerOf) dL_fencerOf_16 rfl ?_
    exact ⟨by rw [eg], Or.inl ⟨by omega, rfl⟩⟩
  · obtain ⟨r, rfl, hg, rfl, hT⟩ := hv
    refine J_i2l (M := mL_fencerOf) dL_fencerOf_8 ?_
    refine J_last (M := mL_fencerOf) dL_fencerOf_9 (hk_30.trans hh) (ix_iI (by decide) (by decide) (by decide)) ?_
    refine Z_h (M := mL_fencerOf) hup_30 ?_
    refine J_goto (M := mL_fencerOf) (tgt := 17) dL_fencerOf_10 (by decide) ?_
    refine Z_iconst (M := mL_fencerOf) dL_fencerOf_17 ?_
    refine J_iret (M := mL_fencerOf) dL_fencerOf_18 rfl ?_
    exact ⟨by rw [hg], Or.inr ⟨hg, r, hT, rfl⟩⟩

set_option maxRecDepth 100000 in
set_option maxHeartbeats 4000000 in
theorem l_halt {X : GX} {h : LH} {ρ : TS} {f : Nat → Int64} {g v : Int} {T : TS → Prop} (hh : h (30, 0) = some (cL 2 1 f)) (hp : CX X mX7_halt [vR (some (1, 0))] h ρ (PX g v T) (EM [0] g)) : CT X mL_halt [vR (some (1, 0)), vR (some (30, 0))] (hk h ρ) (rQ (LQ h ρ f g v T)) := by
  refine CT_of (by decide +kernel) rfl (Nat.le_of_ble_eq_true rfl) ?_
  refine J_aload_n (M := mL_halt) dL_halt_0 rfl rfl ?_
  refine Z_iconst (M := mL_halt) dL_halt_1 ?_
  refine J_aload_n (M := mL_halt) dL_halt_2 rfl rfl ?_
  refine J_callX (M := mL_halt) (as := []) dL_halt_3 ca_L_51 ⟨by decide, by decide⟩ (hk_1 (show CE ρ 1 0 from rfl)) rfl (Nat.le_of_ble_eq_true rfl) (k' := 0) (n' := 0) (by decide) (by decide) hp (fun kq h' hq => ?_) (fun v_ h' hv => ?_)
  · obtain ⟨he, rfl⟩ := hq
    obtain ⟨eg, rfl⟩ := EM_i1 he
    refine ⟨_, _, _, hi_L_halt_0, ?_⟩
    refine Z_iconst (M := mL_halt) dL_halt_12 ?_
    refine J_iret (M := mL_halt) dL_halt_13 rfl ?_
    exact ⟨by rw [eg], Or.inl ⟨by omega, rfl⟩⟩
  · obtain ⟨r, rfl, hg, rfl, hT⟩ := hv
    refine J_i2l (M := mL_halt) dL_halt_6 ?_
    refine J_last (M := mL_halt) dL_halt_7 (hk_30.trans hh) (ix_iI (by decide) (by decide) (by decide)) ?_
    refine Z_h (M := mL_halt) hup_30 ?_
    refine J_goto (M := mL_halt) (tgt := 14) dL_halt_8 (by decide) ?_
    refine Z_iconst (M := mL_halt) dL_halt_14 ?_
    refine J_iret (M := mL_halt) dL_halt_15 rfl ?_
    exact ⟨by rw [hg], Or.inr ⟨hg, r, hT, rfl⟩⟩

set_option maxRecDepth 100000 in
set_option maxHeartbeats 4000000 in
theorem l_index {X : GX} {h : LH} {ρ : TS} {f : Nat → Int64} {a : Int} {g v : Int} {T : TS → Prop} (hh : h (30, 0) = some (cL 2 1 f)) (hp : CX X mX7_index [vR (some (1, 0)), vI (iI a)] h ρ (PX g v T) (EM [2] g)) : CT X mL_index [vR (some (1, 0)), vI (iI a), vR (some (30, 0))] (hk h ρ) (rQ (LQ h ρ f g v T)) := by
  refine CT_of (by decide +kernel) rfl (Nat.le_of_ble_eq_true rfl) ?_
  refine J_aload_n (M := mL_index) dL_index_0 rfl rfl ?_
  refine Z_iconst (M := mL_index) dL_index_1 ?_
  refine J_aload_n (M := mL_index) dL_index_2 rfl rfl ?_
  refine J_iload_n (M := mL_index) dL_index_3 rfl rfl ?_
  refine J_callX (M := mL_index) (as := [vI (iI a)]) dL_index_4 ca_L_87 ⟨by decide, by decide⟩ (hk_1 (show CE ρ 1 0 from rfl)) rfl (Nat.le_of_ble_eq_true rfl) (k' := 0) (n' := 0) (by decide) (by decide) hp (fun kq h' hq => ?_) (fun v_ h' hv => ?_)
  · obtain ⟨he, rfl⟩ := hq
    obtain ⟨eg, rfl⟩ := EM_i1 he
    refine ⟨_, _, _, hi_L_index_2, ?_⟩
    refine Z_iconst (M := mL_index) dL_index_13 ?_
    refine J_iret (M := mL_index) dL_index_14 rfl ?_
    exact ⟨by rw [eg], Or.inl ⟨by omega, rfl⟩⟩
  · obtain ⟨r, rfl, hg, rfl, hT⟩ := hv
    refine J_i2l (M := mL_index) dL_index_7 ?_
    refine J_last (M := mL_index) dL_index_8 (hk_30.trans hh) (ix_iI (by decide) (by decide) (by decide)) ?_
    refine Z_h (M := mL_index) hup_30 ?_
    refine J_goto (M := mL_index) (tgt := 15) dL_index_9 (by decide) ?_
    refine Z_iconst (M := mL_index) dL_index_15 ?_
    refine J_iret (M := mL_index) dL_index_16 rfl ?_
    exact ⟨by rw [hg], Or.inr ⟨hg, r, hT, rfl⟩⟩

set_option maxRecDepth 100000 in
set_option maxHeartbeats 4000000 in
theorem l_mark {X : GX} {h : LH} {ρ : TS} {f : Nat → Int64} {a : Int} {g v : Int} {T : TS → Prop} (hh : h (30, 0) = some (cL 2 1 f)) (hp : CX X mX7_mark [vR (some (1, 0)), vI (iI a)] h ρ (PX g v T) (EM [2] g)) : CT X mL_mark [vR (some (1, 0)), vI (iI a), vR (some (30, 0))] (hk h ρ) (rQ (LQ h ρ f g v T)) := by
  refine CT_of (by decide +kernel) rfl (Nat.le_of_ble_eq_true rfl) ?_
  refine J_aload_n (M := mL_mark) dL_mark_0 rfl rfl ?_
  refine Z_iconst (M := mL_mark) dL_mark_1 ?_
  refine J_aload_n (M := mL_mark) dL_mark_2 rfl rfl ?_
  refine J_iload_n (M := mL_mark) dL_mark_3 rfl rfl ?_
  refine J_callX (M := mL_mark) (as := [vI (iI a)]) dL_mark_4 ca_L_27 ⟨by decide, by decide⟩ (hk_1 (show CE ρ 1 0 from rfl)) rfl (Nat.le_of_ble_eq_true rfl) (k' := 0) (n' := 0) (by decide) (by decide) hp (fun kq h' hq => ?_) (fun v_ h' hv => ?_)
  · obtain ⟨he, rfl⟩ := hq
    obtain ⟨eg, rfl⟩ := EM_i1 he
    refine ⟨_, _, _, hi_L_mark_2, ?_⟩
    refine Z_iconst (M := mL_mark) dL_mark_13 ?_
    refine J_iret (M := mL_mark) dL_mark_14 rfl ?_
    exact ⟨by rw [eg], Or.inl ⟨by omega, rfl⟩⟩
  · obtain ⟨r, rfl, hg, rfl, hT⟩ := hv
    refine J_i2l (M := mL_mark) dL_mark_7 ?_
    refine J_last (M := mL_mark) dL_mark_8 (hk_30.trans hh) (ix_iI (by decide) (by decide) (by decide)) ?_
    refine Z_h (M := mL_mark) hup_30 ?_
    refine J_goto (M := mL_mark) (tgt := 15) dL_mark_9 (by decide) ?_
    refine Z_iconst (M := mL_mark) dL_mark_15 ?_
    refine J_iret (M := mL_mark) dL_mark_16 rfl ?_
    exact ⟨by rw [hg], Or.inr ⟨hg, r, hT, rfl⟩⟩

set_option maxRecDepth 100000 in
set_option maxHeartbeats 4000000 in
theorem l_nodeWinner {X : GX} {h : LH} {ρ : TS} {f : Nat → Int64} {a : Int} {g v : Int} {T : TS → Prop} (hh : h (30, 0) = some (cL 2 1 f)) (hp : CX X mX7_nodeWinner [vR (some (1, 0)), vI (iI a)] h ρ (PX g v T) (EM [2] g)) : CT X mL_nodeWinner [vR (some (1, 0)), vI (iI a), vR (some (30, 0))] (hk h ρ) (rQ (LQ h ρ f g v T)) := by
  refine CT_of (by decide +kernel) rfl (Nat.le_of_ble_eq_true rfl) ?_
  refine J_aload_n (M := mL_nodeWinner) dL_nodeWinner_0 rfl rfl ?_
  refine Z_iconst (M := mL_nodeWinner) dL_nodeWinner_1 ?_
  refine J_aload_n (M := mL_nodeWinner) dL_nodeWinner_2 rfl rfl ?_
  refine J_iload_n (M := mL_nodeWinner) dL_nodeWinner_3 rfl rfl ?_
  refine J_callX (M := mL_nodeWinner) (as := [vI (iI a)]) dL_nodeWinner_4 ca_L_96 ⟨by decide, by decide⟩ (hk_1 (show CE ρ 1 0 from rfl)) rfl (Nat.le_of_ble_eq_true rfl) (k' := 0) (n' := 0) (by decide) (by decide) hp (fun kq h' hq => ?_) (fun v_ h' hv => ?_)
  · obtain ⟨he, rfl⟩ := hq
    obtain ⟨eg, rfl⟩ := EM_i1 he
    refine ⟨_, _, _, hi_L_nodeWinner_2, ?_⟩
    refine Z_iconst (M := mL_nodeWinner) dL_nodeWinner_13 ?_
    refine J_iret (M := mL_nodeWinner) dL_nodeWinner_14 rfl ?_
    exact ⟨by rw [eg], Or.inl ⟨by omega, rfl⟩⟩
  · obtain ⟨r, rfl, hg, rfl, hT⟩ := hv
    refine J_i2l (M := mL_nodeWinner) dL_nodeWinner_7 ?_
    refine J_last (M := mL_nodeWinner) dL_nodeWinner_8 (hk_30.trans hh) (ix_iI (by decide) (by decide) (by decide)) ?_
    refine Z_h (M := mL_nodeWinner) hup_30 ?_
    refine J_goto (M := mL_nodeWinner) (tgt := 15) dL_nodeWinner_9 (by decide) ?_
    refine Z_iconst (M := mL_nodeWinner) dL_nodeWinner_15 ?_
    refine J_iret (M := mL_nodeWinner) dL_nodeWinner_16 rfl ?_
    exact ⟨by rw [hg], Or.inr ⟨hg, r, hT, rfl⟩⟩

set_option maxRecDepth 100000 in
set_option maxHeartbeats 4000000 in
theorem l_owner {X : GX} {h : LH} {ρ : TS} {f : Nat → Int64} {a : Int} {g v : Int} {T : TS → Prop} (hh : h (30, 0) = some (cL 2 1 f)) (hp : CX X mX7_owner [vR (some (1, 0)), vI (iI a)] h ρ (PX g v T) (EM [2] g)) : CT X mL_owner [vR (some (1, 0)), vI (iI a), vR (some (30, 0))] (hk h ρ) (rQ (LQ h ρ f g v T)) := by
  refine CT_of (by decide +kernel) rfl (Nat.le_of_ble_eq_true rfl) ?_
  refine J_aload_n (M := mL_owner) dL_owner_0 rfl rfl ?_
  refine Z_iconst (M := mL_owner) dL_owner_1 ?_
  refine J_aload_n (M := mL_owner) dL_owner_2 rfl rfl ?_
  refine J_iload_n (M := mL_owner) dL_owner_3 rfl rfl ?_
  refine J_callX (M := mL_owner) (as := [vI (iI a)]) dL_owner_4 ca_L_30 ⟨by decide, by decide⟩ (hk_1 (show CE ρ 1 0 from rfl)) rfl (Nat.le_of_ble_eq_true rfl) (k' := 0) (n' := 0) (by decide) (by decide) hp (fun kq h' hq => ?_) (fun v_ h' hv => ?_)
  · obtain ⟨he, rfl⟩ := hq
    obtain ⟨eg, rfl⟩ := EM_i1 he
    refine ⟨_, _, _, hi_L_owner_2, ?_⟩
    refine Z_iconst (M := mL_owner) dL_owner_13 ?_
    refine J_iret (M := mL_owner) dL_owner_14 rfl ?_
    exact ⟨by rw [eg], Or.inl ⟨by omega, rfl⟩⟩
  · obtain ⟨r, rfl, hg, rfl, hT⟩ := hv
    refine J_i2l (M := mL_owner) dL_owner_7 ?_
    refine J_last (M := mL_owner) dL_owner_8 (hk_30.trans hh) (ix_iI (by decide) (by decide) (by decide)) ?_
    refine Z_h (M := mL_owner) hup_30 ?_
    refine J_goto (M := mL_owner) (tgt := 15) dL_owner_9 (by decide) ?_
    refine Z_iconst (M := mL_owner) dL_owner_15 ?_
    refine J_iret (M := mL_owner) dL_owner_16 rfl ?_
    exact ⟨by rw [hg], Or.inr ⟨hg, r, hT, rfl⟩⟩

set_option maxRecDepth 100000 in
set_option maxHeartbeats 4000000 in
theorem l_phrases {X : GX} {h : LH} {ρ : TS} {f : Nat → Int64} {a : Int} {g v : Int} {T : TS → Prop} (hh : h (30, 0) = some (cL 2 1 f)) (hp : CX X mX7_phrases [vR (some (1, 0)), vI (iI a)] h ρ (PX g v T) (EM [2] g)) : CT X mL_phrases [vR (some (1, 0)), vI (iI a), vR (some (30, 0))] (hk h ρ) (rQ (LQ h ρ f g v T)) := by
  refine CT_of (by decide +kernel) rfl (Nat.le_of_ble_eq_true rfl) ?_
  refine J_aload_n (M := mL_phrases) dL_phrases_0 rfl rfl ?_
  refine Z_iconst (M := mL_phrases) dL_phrases_1 ?_
  refine J_aload_n (M := mL_phrases) dL_phrases_2 rfl rfl ?_
  refine J_iload_n (M := mL_phrases) dL_phrases_3 rfl rfl ?_
  refine J_callX (M := mL_phrases) (as := [vI (iI a)]) dL_phrases_4 ca_L_72 ⟨by decide, by decide⟩ (hk_1 (show CE ρ 1 0 from rfl)) rfl (Nat.le_of_ble_eq_true rfl) (k' := 0) (n' := 0) (by decide) (by decide) hp (fun kq h' hq => ?_) (fun v_ h' hv => ?_)
  · obtain ⟨he, rfl⟩ := hq
    obtain ⟨eg, rfl⟩ := EM_i1 he
    refine ⟨_, _, _, hi_L_phrases_2, ?_⟩
    refine Z_iconst (M := mL_phrases) dL_phrases_13 ?_
    refine J_iret (M := mL_phrases) dL_phrases_14 rfl ?_
    exact ⟨by rw [eg], Or.inl ⟨by omega, rfl⟩⟩
  · obtain ⟨r, rfl, hg, rfl, hT⟩ := hv
    refine J_i2l (M := mL_phrases) dL_phrases_7 ?_
    refine J_last (M := mL_phrases) dL_phrases_8 (hk_30.trans hh) (ix_iI (by decide) (by decide) (by decide)) ?_
    refine Z_h (M := mL_phrases) hup_30 ?_
    refine J_goto (M := mL_phrases) (tgt := 15) dL_phrases_9 (by decide) ?_
    refine Z_iconst (M := mL_phrases) dL_phrases_15 ?_
    refine J_iret (M := mL_phrases) dL_phrases_16 rfl ?_
    exact ⟨by rw [hg], Or.inr ⟨hg, r, hT, rfl⟩⟩

set_option maxRecDepth 100000 in
set_option maxHeartbeats 4000000 in
theorem l_rankedAt {X : GX} {h : LH} {ρ : TS} {f : Nat → Int64} {a : Int} {g v : Int} {T : TS → Prop} (hh : h (30, 0) = some (cL 2 1 f)) (hp : CX X mX7_rankedAt [vR (some (1, 0)), vI (iI a)] h ρ (PX g v T) (EM [2] g)) : CT X mL_rankedAt [vR (some (1, 0)), vI (iI a), vR (some (30, 0))] (hk h ρ) (rQ (LQ h ρ f g v T)) := by
  refine CT_of (by decide +kernel) rfl (Nat.le_of_ble_eq_true rfl) ?_
  refine J_aload_n (M := mL_rankedAt) dL_rankedAt_0 rfl rfl ?_
  refine Z_iconst (M := mL_rankedAt) dL_rankedAt_1 ?_
  refine J_aload_n (M := mL_rankedAt) dL_rankedAt_2 rfl rfl ?_
  refine J_iload_n (M := mL_rankedAt) dL_rankedAt_3 rfl rfl ?_
  refine J_callX (M := mL_rankedAt) (as := [vI (iI a)]) dL_rankedAt_4 ca_L_90 ⟨by decide, by decide⟩ (hk_1 (show CE ρ 1 0 from rfl)) rfl (Nat.le_of_ble_eq_true rfl) (k' := 0) (n' := 0) (by decide) (by decide) hp (fun kq h' hq => ?_) (fun v_ h' hv => ?_)
  · obtain ⟨he, rfl⟩ := hq
    obtain ⟨eg, rfl⟩ := EM_i1 he
    refine ⟨_, _, _, hi_L_rankedAt_2, ?_⟩
    refine Z_iconst (M := mL_rankedAt) dL_rankedAt_13 ?_
    refine J_iret (M := mL_rankedAt) dL_rankedAt_14 rfl ?_
    exact ⟨by rw [eg], Or.inl ⟨by omega, rfl⟩⟩
  · obtain ⟨r, rfl, hg, rfl, hT⟩ := hv
    refine J_i2l (M := mL_rankedAt) dL_rankedAt_7 ?_
    refine J_last (M := mL_rankedAt) dL_rankedAt_8 (hk_30.trans hh) (ix_iI (by decide) (by decide) (by decide)) ?_
    refine Z_h (M := mL_rankedAt) hup_30 ?_
    refine J_goto (M := mL_rankedAt) (tgt := 15) dL_rankedAt_9 (by decide) ?_
    refine Z_iconst (M := mL_rankedAt) dL_rankedAt_15 ?_
    refine J_iret (M := mL_rankedAt) dL_rankedAt_16 rfl ?_
    exact ⟨by rw [hg], Or.inr ⟨hg, r, hT, rfl⟩⟩

set_option maxRecDepth 100000 in
set_option maxHeartbeats 4000000 in
theorem l_right {X : GX} {h : LH} {ρ : TS} {f : Nat → Int64} {a b : Int} {g v : Int} {T : TS → Prop} (hh : h (30, 0) = some (cL 2 1 f)) (hp : CX X mX7_right [vR (some (1, 0)), vI (iI a), vI (iI b)] h ρ (PX g v T) (EM [1, 0] g)) : CT X mL_right [vR (some (1, 0)), vI (iI a), vI (iI b), vR (some (30, 0))] (hk h ρ) (rQ (LQ h ρ f g v T)) := by
  refine CT_of (by decide +kernel) rfl (Nat.le_of_ble_eq_true rfl) ?_
  refine J_aload_n (M := mL_right) dL_right_0 rfl rfl ?_
  refine Z_iconst (M := mL_right) dL_right_1 ?_
  refine J_aload_n (M := mL_right) dL_right_2 rfl rfl ?_
  refine J_iload_n (M := mL_right) dL_right_3 rfl rfl ?_
  refine J_iload_n (M := mL_right) dL_right_4 rfl rfl ?_
  refine J_callX (M := mL_right) (as := [vI (iI a), vI (iI b)]) dL_right_5 ca_L_48 ⟨by decide, by decide⟩ (hk_1 (show CE ρ 1 0 from rfl)) rfl (Nat.le_of_ble_eq_true rfl) (k' := 0) (n' := 0) (by decide) (by decide) hp (fun kq h' hq => ?_) (fun v_ h' hv => ?_)
  · obtain ⟨he, rfl⟩ := hq
    rcases EM_i2 he with ⟨eg, rfl⟩ | ⟨eg, rfl⟩
    · refine ⟨_, _, _, hi_L_right_1, ?_⟩
      refine Z_iconst (M := mL_right) dL_right_15 ?_
      refine J_iret (M := mL_right) dL_right_16 rfl ?_
      exact ⟨by rw [eg], Or.inl ⟨by omega, rfl⟩⟩
    · refine ⟨_, _, _, hi_L_right_0, ?_⟩
      refine Z_iconst (M := mL_right) dL_right_19 ?_
      refine J_iret (M := mL_right) dL_right_20 rfl ?_
      exact ⟨by rw [eg], Or.inl ⟨by omega, rfl⟩⟩
  · obtain ⟨r, rfl, hg, rfl, hT⟩ := hv
    refine J_i2l (M := mL_right) dL_right_8 ?_
    refine J_last (M := mL_right) dL_right_9 (hk_30.trans hh) (ix_iI (by decide) (by decide) (by decide)) ?_
    refine Z_h (M := mL_right) hup_30 ?_
    refine J_goto (M := mL_right) (tgt := 21) dL_right_10 (by decide) ?_
    refine Z_iconst (M := mL_right) dL_right_21 ?_
    refine J_iret (M := mL_right) dL_right_22 rfl ?_
    exact ⟨by rw [hg], Or.inr ⟨hg, r, hT, rfl⟩⟩

set_option maxRecDepth 100000 in
set_option maxHeartbeats 4000000 in
theorem l_score {X : GX} {h : LH} {ρ : TS} {f : Nat → Int64} {a b : Int} {g v : Int} {T : TS → Prop} (hh : h (30, 0) = some (cL 2 1 f)) (hp : CX X mX7_score [vR (some (1, 0)), vI (iI a), vI (iI b)] h ρ (PX g v T) (EM [2] g)) : CT X mL_score [vR (some (1, 0)), vI (iI a), vI (iI b), vR (some (30, 0))] (hk h ρ) (rQ (LQ h ρ f g v T)) := by
  refine CT_of (by decide +kernel) rfl (Nat.le_of_ble_eq_true rfl) ?_
  refine J_aload_n (M := mL_score) dL_score_0 rfl rfl ?_
  refine Z_iconst (M := mL_score) dL_score_1 ?_
  refine J_aload_n (M := mL_score) dL_score_2 rfl rfl ?_
  refine J_iload_n (M := mL_score) dL_score_3 rfl rfl ?_
  refine J_iload_n (M := mL_score) dL_score_4 rfl rfl ?_
  refine J_callX (M := mL_score) (as := [vI (iI a), vI (iI b)]) dL_score_5 ca_L_63 ⟨by decide, by decide⟩ (hk_1 (show CE ρ 1 0 from rfl)) rfl (Nat.le_of_ble_eq_true rfl) (k' := 0) (n' := 0) (by decide) (by decide) hp (fun kq h' hq => ?_) (fun v_ h' hv => ?_)
  · obtain ⟨he, rfl⟩ := hq
    obtain ⟨eg, rfl⟩ := EM_i1 he
    refine ⟨_, _, _, hi_L_score_2, ?_⟩
    refine Z_iconst (M := mL_score) dL_score_15 ?_
    refine J_iret (M := mL_score) dL_score_16 rfl ?_
    exact ⟨by rw [eg], Or.inl ⟨by omega, rfl⟩⟩
  · obtain ⟨r, rfl, hg, rfl, hT⟩ := hv
    refine J_i2l (M := mL_score) dL_score_8 ?_
    refine J_last (M := mL_score) dL_score_9 (hk_30.trans hh) (ix_iI (by decide) (by decide) (by decide)) ?_
    refine Z_h (M := mL_score) hup_30 ?_
    refine J_goto (M := mL_score) (tgt := 17) dL_score_10 (by decide) ?_
    refine Z_iconst (M := mL_score) dL_score_17 ?_
    refine J_iret (M := mL_score) dL_score_18 rfl ?_
    exact ⟨by rw [hg], Or.inr ⟨hg, r, hT, rfl⟩⟩

set_option maxRecDepth 100000 in
set_option maxHeartbeats 4000000 in
theorem l_scoreAnew {X : GX} {h : LH} {ρ : TS} {f : Nat → Int64} {a b : Int} {g v : Int} {T : TS → Prop} (hh : h (30, 0) = some (cL 2 1 f)) (hp : CX X mX7_scoreAnew [vR (some (1, 0)), vI (iI a), vI (iI b)] h ρ (PX g v T) (EM [2] g)) : CT X mL_scoreAnew [vR (some (1, 0)), vI (iI a), vI (iI b), vR (some (30, 0))] (hk h ρ) (rQ (LQ h ρ f g v T)) := by
  refine CT_of (by decide +kernel) rfl (Nat.le_of_ble_eq_true rfl) ?_
  refine J_aload_n (M := mL_scoreAnew) dL_scoreAnew_0 rfl rfl ?_
  refine Z_iconst (M := mL_scoreAnew) dL_scoreAnew_1 ?_
  refine J_aload_n (M := mL_scoreAnew) dL_scoreAnew_2 rfl rfl ?_
  refine J_iload_n (M := mL_scoreAnew) dL_scoreAnew_3 rfl rfl ?_
  refine J_iload_n (M := mL_scoreAnew) dL_scoreAnew_4 rfl rfl ?_
  refine J_callX (M := mL_scoreAnew) (as := [vI (iI a), vI (iI b)]) dL_scoreAnew_5 ca_L_66 ⟨by decide, by decide⟩ (hk_1 (show CE ρ 1 0 from rfl)) rfl (Nat.le_of_ble_eq_true rfl) (k' := 0) (n' := 0) (by decide) (by decide) hp (fun kq h' hq => ?_) (fun v_ h' hv => ?_)
  · obtain ⟨he, rfl⟩ := hq
    obtain ⟨eg, rfl⟩ := EM_i1 he
    refine ⟨_, _, _, hi_L_scoreAnew_2, ?_⟩
    refine Z_iconst (M := mL_scoreAnew) dL_scoreAnew_15 ?_
    refine J_iret (M := mL_scoreAnew) dL_scoreAnew_16 rfl ?_
    exact ⟨by rw [eg], Or.inl ⟨by omega, rfl⟩⟩
  · obtain ⟨r, rfl, hg, rfl, hT⟩ := hv
    refine J_i2l (M := mL_scoreAnew) dL_scoreAnew_8 ?_
    refine J_last (M := mL_scoreAnew) dL_scoreAnew_9 (hk_30.trans hh) (ix_iI (by decide) (by decide) (by decide)) ?_
    refine Z_h (M := mL_scoreAnew) hup_30 ?_
    refine J_goto (M := mL_scoreAnew) (tgt := 17) dL_scoreAnew_10 (by decide) ?_
    refine Z_iconst (M := mL_scoreAnew) dL_scoreAnew_17 ?_
    refine J_iret (M := mL_scoreAnew) dL_scoreAnew_18 rfl ?_
    exact ⟨by rw [hg], Or.inr ⟨hg, r, hT, rfl⟩⟩

set_option maxRecDepth 100000 in
set_option maxHeartbeats 4000000 in
theorem l_test {X : GX} {h : LH} {ρ : TS} {f : Nat → Int64} {a b d : Int} {g : Int} {P : Prop} {T : TS → Prop} (hh : h (30, 0) = some (cL 2 1 f)) (hp : CX X mX7_test [vR (some (1, 0)), vI (iI a), vI (iI b), vI (iI d)] h ρ (PX g (pI P) T) (EM [2, 1, 0] g)) : CT X mL_test [vR (some (1, 0)), vI (iI a), vI (iI b), vI (iI d), vR (some (30, 0))] (hk h ρ) (rQ (LQ h ρ f g (pI P) T)) := by
  refine CT_of (by decide +kernel) rfl (Nat.le_of_ble_eq_true rfl) ?_
  refine J_aload (M := mL_test) dL_test_0 rfl ?_
  refine Z_iconst (M := mL_test) dL_test_2 ?_
  refine J_aload_n (M := mL_test) dL_test_3 rfl rfl ?_
  refine J_iload_n (M := mL_test) dL_test_4 rfl rfl ?_
  refine J_iload_n (M := mL_test) dL_test_5 rfl rfl ?_
  refine J_iload_n (M := mL_test) dL_test_6 rfl rfl ?_
  refine J_callX (M := mL_test) (as := [vI (iI a), vI (iI b), vI (iI d)]) dL_test_7 ca_L_21 ⟨by decide, by decide⟩ (hk_1 (show CE ρ 1 0 from rfl)) rfl (Nat.le_of_ble_eq_true rfl) (k' := 0) (n' := 0) (by decide) (by decide) hp (fun kq h' hq => ?_) (fun v_ h' hv => ?_)
  · obtain ⟨he, rfl⟩ := hq
    rcases EM_i3 he with ⟨eg, rfl⟩ | ⟨eg, rfl⟩ | ⟨eg, rfl⟩
    · refine ⟨_, _, _, hi_L_test_2, ?_⟩
      refine Z_iconst (M := mL_test) dL_test_24 ?_
      refine J_iret (M := mL_test) dL_test_25 rfl ?_
      exact ⟨by rw [eg], Or.inl ⟨by omega, rfl⟩⟩
    · refine ⟨_, _, _, hi_L_test_1, ?_⟩
      refine Z_iconst (M := mL_test) dL_test_28 ?_
      refine J_iret (M := mL_test) dL_test_29 rfl ?_
      exact ⟨by rw [eg], Or.inl ⟨by omega, rfl⟩⟩
    · refine ⟨_, _, _, hi_L_test_0, ?_⟩
      refine Z_iconst (M := mL_test) dL_test_32 ?_
      refine J_iret (M := mL_test) dL_test_33 rfl ?_
      exact ⟨by rw [eg], Or.inl ⟨by omega, rfl⟩⟩
  · obtain ⟨r, rfl, hg, rfl, hT⟩ := hv
    refine Z_pf (M := mL_test) (tgt := 17) dL_test_10 (by decide) (fun c_10 => ?_) (fun c_10 => ?_)
    · refine J_lconst (M := mL_test) (z := 0) dL_test_17 l_0 ?_
      refine J_last (M := mL_test) dL_test_18 (hk_30.trans hh) (ix_iI (by decide) (by decide) (by decide)) ?_
      refine Z_h (M := mL_test) hup_30 ?_
      refine J_goto (M := mL_test) (tgt := 34) dL_test_19 (by decide) ?_
      refine Z_iconst (M := mL_test) dL_test_34 ?_
      refine J_iret (M := mL_test) dL_test_35 rfl ?_
      rw [pI_f c_10] at *
      exact ⟨by rw [hg], Or.inr ⟨hg, r, hT, rfl⟩⟩
    · refine J_lconst (M := mL_test) (z := 1) dL_test_13 l_1 ?_
      refine J_goto (M := mL_test) (tgt := 18) dL_test_14 (by decide) ?_
      refine J_last (M := mL_test) dL_test_18 (hk_30.trans hh) (ix_iI (by decide) (by decide) (by decide)) ?_
      refine Z_h (M := mL_test) hup_30 ?_
      refine J_goto (M := mL_test) (tgt := 34) dL_test_19 (by decide) ?_
      refine Z_iconst (M := mL_test) dL_test_34 ?_
      refine J_iret (M := mL_test) dL_test_35 rfl ?_
      rw [pI_t c_10] at *
      exact ⟨by rw [hg], Or.inr ⟨hg, r, hT, rfl⟩⟩

set_option maxRecDepth 100000 in
set_option maxHeartbeats 4000000 in
theorem l_touches {X : GX} {h : LH} {ρ : TS} {f : Nat → Int64} {a b : Int} {g v : Int} {T : TS → Prop} (hh : h (30, 0) = some (cL 2 1 f)) (hp : CX X mX7_touches [vR (some (1, 0)), vI (iI a), vI (iI b)] h ρ (PX g v T) (EM [2] g)) : CT X mL_touches [vR (some (1, 0)), vI (iI a), vI (iI b), vR (some (30, 0))] (hk h ρ) (rQ (LQ h ρ f g v T)) := by
  refine CT_of (by decide +kernel) rfl (Nat.le_of_ble_eq_true rfl) ?_
  refine J_aload_n (M := mL_touches) dL_touches_0 rfl rfl ?_
  refine Z_iconst (M := mL_touches) dL_touches_1 ?_
  refine J_aload_n (M := mL_touches) dL_touches_2 rfl rfl ?_
  refine J_iload_n (M := mL_touches) dL_touches_3 rfl rfl ?_
  refine J_iload_n (M := mL_touches) dL_touches_4 rfl rfl ?_
  refine J_callX (M := mL_touches) (as := [vI (iI a), vI (iI b)]) dL_touches_5 ca_L_75 ⟨by decide, by decide⟩ (hk_1 (show CE ρ 1 0 from rfl)) rfl (Nat.le_of_ble_eq_true rfl) (k' := 0) (n' := 0) (by decide) (by decide) hp (fun kq h' hq => ?_) (fun v_ h' hv => ?_)
  · obtain ⟨he, rfl⟩ := hq
    obtain ⟨eg, rfl⟩ := EM_i1 he
    refine ⟨_, _, _, hi_L_touches_2, ?_⟩
    refine Z_iconst (M := mL_touches) dL_touches_15 ?_
    refine J_iret (M := mL_touches) dL_touches_16 rfl ?_
    exact ⟨by rw [eg], Or.inl ⟨by omega, rfl⟩⟩
  · obtain ⟨r, rfl, hg, rfl, hT⟩ := hv
    refine J_i2l (M := mL_touches) dL_touches_8 ?_
    refine J_last (M := mL_touches) dL_touches_9 (hk_30.trans hh) (ix_iI (by decide) (by decide) (by decide)) ?_
    refine Z_h (M := mL_touches) hup_30 ?_
    refine J_goto (M := mL_touches) (tgt := 17) dL_touches_10 (by decide) ?_
    refine Z_iconst (M := mL_touches) dL_touches_17 ?_
    refine J_iret (M := mL_touches) dL_touches_18 rfl ?_
    exact ⟨by rw [hg], Or.inr ⟨hg, r, hT, rfl⟩⟩

set_option maxRecDepth 100000 in
set_option maxHeartbeats 4000000 in
theorem l_weapon {X : GX} {h : LH} {ρ : TS} {f : Nat → Int64} {a : Int} {g v : Int} {T : TS → Prop} (hh : h (30, 0) = some (cL 2 1 f)) (hp : CX X mX7_weapon [vR (some (1, 0)), vI (iI a)] h ρ (PX g v T) (EM [2, 0] g)) : CT X mL_weapon [vR (some (1, 0)), vI (iI a), vR (some (30, 0))] (hk h ρ) (rQ (LQ h ρ f g v T)) := by
  refine CT_of (by decide +kernel) rfl (Nat.le_of_ble_eq_true rfl) ?_
  refine J_aload_n (M := mL_weapon) dL_weapon_0 rfl rfl ?_
  refine Z_iconst (M := mL_weapon) dL_weapon_1 ?_
  refine J_aload_n (M := mL_weapon) dL_weapon_2 rfl rfl ?_
  refine J_iload_n (M := mL_weapon) dL_weapon_3 rfl rfl ?_
  refine J_callX (M := mL_weapon) (as := [vI (iI a)]) dL_weapon_4 ca_L_15 ⟨by decide, by decide⟩ (hk_1 (show CE ρ 1 0 from rfl)) rfl (Nat.le_of_ble_eq_true rfl) (k' := 0) (n' := 0) (by decide) (by decide) hp (fun kq h' hq => ?_) (fun v_ h' hv => ?_)
  · obtain ⟨he, rfl⟩ := hq
    rcases EM_i2 he with ⟨eg, rfl⟩ | ⟨eg, rfl⟩
    · refine ⟨_, _, _, hi_L_weapon_2, ?_⟩
      refine Z_iconst (M := mL_weapon) dL_weapon_13 ?_
      refine J_iret (M := mL_weapon) dL_weapon_14 rfl ?_
      exact ⟨by rw [eg], Or.inl ⟨by omega, rfl⟩⟩
    · refine ⟨_, _, _, hi_L_weapon_0, ?_⟩
      refine Z_iconst (M := mL_weapon) dL_weapon_16 ?_
      refine J_iret (M := mL_weapon) dL_weapon_17 rfl ?_
      exact ⟨by rw [eg], Or.inl ⟨by omega, rfl⟩⟩
  · obtain ⟨r, rfl, hg, rfl, hT⟩ := hv
    refine J_i2l (M := mL_weapon) dL_weapon_7 ?_
    refine J_last (M := mL_weapon) dL_weapon_8 (hk_30.trans hh) (ix_iI (by decide) (by decide) (by decide)) ?_
    refine Z_h (M := mL_weapon) hup_30 ?_
    refine J_goto (M := mL_weapon) (tgt := 18) dL_weapon_9 (by decide) ?_
    refine Z_iconst (M := mL_weapon) dL_weapon_18 ?_
    refine J_iret (M := mL_weapon) dL_weapon_19 rfl ?_
    exact ⟨by rw [hg], Or.inr ⟨hg, r, hT, rfl⟩⟩

set_option maxRecDepth 100000 in
set_option maxHeartbeats 4000000 in
theorem l_weaponOf {X : GX} {h : LH} {ρ : TS} {f : Nat → Int64} {a : Int} {g v : Int} {T : TS → Prop} (hh : h (30, 0) = some (cL 2 1 f)) (hp : CX X mX7_weaponOf [vR (some (1, 0)), vI (iI a)] h ρ (PX g v T) (EM [2] g)) : CT X mL_weaponOf [vR (some (1, 0)), vI (iI a), vR (some (30, 0))] (hk h ρ) (rQ (LQ h ρ f g v T)) := by
  refine CT_of (by decide +kernel) rfl (Nat.le_of_ble_eq_true rfl) ?_
  refine J_aload_n (M := mL_weaponOf) dL_weaponOf_0 rfl rfl ?_
  refine Z_iconst (M := mL_weaponOf) dL_weaponOf_1 ?_
  refine J_aload_n (M := mL_weaponOf) dL_weaponOf_2 rfl rfl ?_
  refine J_iload_n (M := mL_weaponOf) dL_weaponOf_3 rfl rfl ?_
  refine J_callX (M := mL_weaponOf) (as := [vI (iI a)]) dL_weaponOf_4 ca_L_57 ⟨by decide, by decide⟩ (hk_1 (show CE ρ 1 0 from rfl)) rfl (Nat.le_of_ble_eq_true rfl) (k' := 0) (n' := 0) (by decide) (by decide) hp (fun kq h' hq => ?_) (fun v_ h' hv => ?_)
  · obtain ⟨he, rfl⟩ := hq
    obtain ⟨eg, rfl⟩ := EM_i1 he
    refine ⟨_, _, _, hi_L_weaponOf_2, ?_⟩
    refine Z_iconst (M := mL_weaponOf) dL_weaponOf_13 ?_
    refine J_iret (M := mL_weaponOf) dL_weaponOf_14 rfl ?_
    exact ⟨by rw [eg], Or.inl ⟨by omega, rfl⟩⟩
  · obtain ⟨r, rfl, hg, rfl, hT⟩ := hv
    refine J_i2l (M := mL_weaponOf) dL_weaponOf_7 ?_
    refine J_last (M := mL_weaponOf) dL_weaponOf_8 (hk_30.trans hh) (ix_iI (by decide) (by decide) (by decide)) ?_
    refine Z_h (M := mL_weaponOf) hup_30 ?_
    refine J_goto (M := mL_weaponOf) (tgt := 15) dL_weaponOf_9 (by decide) ?_
    refine Z_iconst (M := mL_weaponOf) dL_weaponOf_15 ?_
    refine J_iret (M := mL_weaponOf) dL_weaponOf_16 rfl ?_
    exact ⟨by rw [hg], Or.inr ⟨hg, r, hT, rfl⟩⟩

set_option maxRecDepth 100000 in
set_option maxHeartbeats 4000000 in
theorem l_winner {X : GX} {h : LH} {ρ : TS} {f : Nat → Int64} {a : Int} {g v : Int} {T : TS → Prop} (hh : h (30, 0) = some (cL 2 1 f)) (hp : CX X mX7_winner [vR (some (1, 0)), vI (iI a)] h ρ (PX g v T) (EM [2] g)) : CT X mL_winner [vR (some (1, 0)), vI (iI a), vR (some (30, 0))] (hk h ρ) (rQ (LQ h ρ f g v T)) := by
  refine CT_of (by decide +kernel) rfl (Nat.le_of_ble_eq_true rfl) ?_
  refine J_aload_n (M := mL_winner) dL_winner_0 rfl rfl ?_
  refine Z_iconst (M := mL_winner) dL_winner_1 ?_
  refine J_aload_n (M := mL_winner) dL_winner_2 rfl rfl ?_
  refine J_iload_n (M := mL_winner) dL_winner_3 rfl rfl ?_
  refine J_callX (M := mL_winner) (as := [vI (iI a)]) dL_winner_4 ca_L_69 ⟨by decide, by decide⟩ (hk_1 (show CE ρ 1 0 from rfl)) rfl (Nat.le_of_ble_eq_true rfl) (k' := 0) (n' := 0) (by decide) (by decide) hp (fun kq h' hq => ?_) (fun v_ h' hv => ?_)
  · obtain ⟨he, rfl⟩ := hq
    obtain ⟨eg, rfl⟩ := EM_i1 he
    refine ⟨_, _, _, hi_L_winner_2, ?_⟩
    refine Z_iconst (M := mL_winner) dL_winner_13 ?_
    refine J_iret (M := mL_winner) dL_winner_14 rfl ?_
    exact ⟨by rw [eg], Or.inl ⟨by omega, rfl⟩⟩
  · obtain ⟨r, rfl, hg, rfl, hT⟩ := hv
    refine J_i2l (M := mL_winner) dL_winner_7 ?_
    refine J_last (M := mL_winner) dL_winner_8 (hk_30.trans hh) (ix_iI (by decide) (by decide) (by decide)) ?_
    refine Z_h (M := mL_winner) hup_30 ?_
    refine J_goto (M := mL_winner) (tgt := 15) dL_winner_9 (by decide) ?_
    refine Z_iconst (M := mL_winner) dL_winner_15 ?_
    refine J_iret (M := mL_winner) dL_winner_16 rfl ?_
    exact ⟨by rw [hg], Or.inr ⟨hg, r, hT, rfl⟩⟩

set_option maxRecDepth 100000 in
set_option maxHeartbeats 4000000 in
theorem l_won {X : GX} {h : LH} {ρ : TS} {f : Nat → Int64} {a : Int} {g v : Int} {T : TS → Prop} (hh : h (30, 0) = some (cL 2 1 f)) (hp : CX X mX7_won [vR (some (1, 0)), vI (iI a)] h ρ (PX g v T) (EM [2] g)) : CT X mL_won [vR (some (1, 0)), vI (iI a), vR (some (30, 0))] (hk h ρ) (rQ (LQ h ρ f g v T)) := by
  refine CT_of (by decide +kernel) rfl (Nat.le_of_ble_eq_true rfl) ?_
  refine J_aload_n (M := mL_won) dL_won_0 rfl rfl ?_
  refine Z_iconst (M := mL_won) dL_won_1 ?_
  refine J_aload_n (M := mL_won) dL_won_2 rfl rfl ?_
  refine J_iload_n (M := mL_won) dL_won_3 rfl rfl ?_
  refine J_callX (M := mL_won) (as := [vI (iI a)]) dL_won_4 ca_L_84 ⟨by decide, by decide⟩ (hk_1 (show CE ρ 1 0 from rfl)) rfl (Nat.le_of_ble_eq_true rfl) (k' := 0) (n' := 0) (by decide) (by decide) hp (fun kq h' hq => ?_) (fun v_ h' hv => ?_)
  · obtain ⟨he, rfl⟩ := hq
    obtain ⟨eg, rfl⟩ := EM_i1 he
    refine ⟨_, _, _, hi_L_won_2, ?_⟩
    refine Z_iconst (M := mL_won) dL_won_13 ?_
    refine J_iret (M := mL_won) dL_won_14 rfl ?_
    exact ⟨by rw [eg], Or.inl ⟨by omega, rfl⟩⟩
  · obtain ⟨r, rfl, hg, rfl, hT⟩ := hv
    refine J_i2l (M := mL_won) dL_won_7 ?_
    refine J_last (M := mL_won) dL_won_8 (hk_30.trans hh) (ix_iI (by decide) (by decide) (by decide)) ?_
    refine Z_h (M := mL_won) hup_30 ?_
    refine J_goto (M := mL_won) (tgt := 15) dL_won_9 (by decide) ?_
    refine Z_iconst (M := mL_won) dL_won_15 ?_
    refine J_iret (M := mL_won) dL_won_16 rfl ?_
    exact ⟨by rw [hg], Or.inr ⟨hg, r, hT, rfl⟩⟩

