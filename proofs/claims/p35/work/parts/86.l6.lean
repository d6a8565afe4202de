/-! THE LAW: its calls that catch -/
theorem EM_i1 {a : Nat} {g : Int} {k : Nat} (h : EM [a] g k) : g = 1 ∧ k = a := by
  obtain ⟨h1, h2⟩ := h
  cases hz : (g - 1).toNat with
  | zero => rw [hz] at h2; exact ⟨by omega, (Option.some.inj h2).symm⟩
  | succ m => rw [hz] at h2; cases (show (none : Option Nat) = some k from h2)
theorem EM_i2 {a b : Nat} {g : Int} {k : Nat} (h : EM [a, b] g k) : (g = 1 ∧ k = a) ∨ (g = 2 ∧ k = b) := by
  obtain ⟨h1, h2⟩ := h
  cases hz : (g - 1).toNat with
  | zero => rw [hz] at h2; exact Or.inl ⟨by omega, (Option.some.inj h2).symm⟩
  | succ m =>
    cases m with
    | zero => rw [hz] at h2; exact Or.inr ⟨by omega, (Option.some.inj h2).symm⟩
    | succ m => rw [hz] at h2; cases (show (none : Option Nat) = some k from h2)
theorem EM_i3 {a b c : Nat} {g : Int} {k : Nat} (h : EM [a, b, c] g k) : (g = 1 ∧ k = a) ∨ (g = 2 ∧ k = b) ∨ (g = 3 ∧ k = c) := by
  obtain ⟨h1, h2⟩ := h
  cases hz : (g - 1).toNat with
  | zero => rw [hz] at h2; exact Or.inl ⟨by omega, (Option.some.inj h2).symm⟩
  | succ m =>
    cases m with
    | zero => rw [hz] at h2; exact Or.inr (Or.inl ⟨by omega, (Option.some.inj h2).symm⟩)
    | succ m =>
      cases m with
      | zero => rw [hz] at h2; exact Or.inr (Or.inr ⟨by omega, (Option.some.inj h2).symm⟩)
      | succ m => rw [hz] at h2; cases (show (none : Option Nat) = some k from h2)
/-- what a call answers that catches: x where the class refuses, else v -/
def LQ7 (g : LH) (σ : TS) (π : Int → Int64) (ρ : TS) (n x v : Int) (T : TS → Prop) : Option LV → LH → Prop := fun o h' => (¬ n = 0 ∧ o = some (vI (iI x)) ∧ h' = HW g σ π ρ) ∨ (n = 0 ∧ o = some (vI (iI v)) ∧ ∃ r, T r ∧ h' = HW g σ π r)
/-- what a call answers that isn't refused -/
def LQ0 (g : LH) (σ : TS) (π : Int → Int64) (v : Int) (T : TS → Prop) : Option LV → LH → Prop := fun o h' => o = some (vI (iI v)) ∧ ∃ r, T r ∧ h' = HW g σ π r
theorem cx0 {X : GX} {M : MI} {as : List LV} {g : LH} {σ ρ : TS} {π : Int → Int64} {n v : Int} {T : TS → Prop} {l : List Nat} (hp : CX X M as (HL σ π g) ρ (PX n v T) (EM l n)) (h0 : n = 0) : CT X M as (HW g σ π ρ) (rQ (LQ0 g σ π v T)) := CT.mono (fun o h' hq => by
  cases o with
  | inl w =>
    obtain ⟨r, e, h1, h2, h3⟩ := hq
    exact ⟨h2, r, h3, e⟩
  | inr k =>
    obtain ⟨⟨h1, h2⟩, e⟩ := hq
    exact absurd h1 (by omega)) hp
theorem ck0 {X : GX} {M : MI} {as : List LV} {g : LH} {σ ρ : TS} {π : Int → Int64} {v : Int} (hp : CK X M as (HL σ π g) ρ (fun o r => o = some (vI (iI v)) ∧ r = ρ)) : CT X M as (HW g σ π ρ) (rQ (fun o h' => o = some (vI (iI v)) ∧ h' = HW g σ π ρ)) := CT.mono (fun o h' hq => by
  cases o with
  | inl w =>
    obtain ⟨r, e, h1, h2⟩ := hq
    rw [h2] at e
    exact ⟨h1, e⟩
  | inr k => exact hq) hp
set_option maxRecDepth 100000 in
set_option maxHeartbeats 4000000 in
theorem wL_allez {X : GX} {g : LH} {σ ρ : TS} {π : Int → Int64} {n v : Int} {T : TS → Prop} (hp : CX X mX7_allez [vR (some (1, 0))] (HL σ π g) ρ (PX n v T) (EM [0] n)) : CT X mL_allez [vR (some (1, 0))] (HW g σ π ρ) (rQ (LQ7 g σ π ρ n (-7) v T)) := by
  refine CT_of (by decide +kernel) rfl (Nat.le_of_ble_eq_true rfl) ?_
  refine J_aload_n (M := mL_allez) dL_allez_0 rfl rfl ?_
  refine J_callX (M := mL_allez) (as := []) dL_allez_1 ca_L_122 ⟨by decide, by decide⟩ lw1 rfl (Nat.le_of_ble_eq_true rfl) (k' := 0) (n' := 0) (by decide) (by decide) hp (fun kq h' hq => ?_) (fun v_ h' hv => ?_)
  · obtain ⟨he, rfl⟩ := hq
    obtain ⟨eg, rfl⟩ := EM_i1 he
    refine ⟨_, _, _, hi_L_allez_0_1, rfl, ?_⟩
    refine Z_bipush (M := mL_allez) dL_allez_6 rfl ?_
    refine J_iret (M := mL_allez) dL_allez_8 rfl ?_
    exact Or.inl ⟨by omega, rfl, rfl⟩
  · obtain ⟨r, rfl, hg0, rfl, hT⟩ := hv
    refine J_iret (M := mL_allez) dL_allez_4 rfl ?_
    exact Or.inr ⟨hg0, rfl, r, hT, rfl⟩

set_option maxRecDepth 100000 in
set_option maxHeartbeats 4000000 in
theorem wL_halted {X : GX} {g : LH} {σ ρ : TS} {π : Int → Int64} {n v : Int} {T : TS → Prop} (hp : CX X mX7_halt [vR (some (1, 0))] (HL σ π g) ρ (PX n v T) (EM [0] n)) : CT X mL_halted [vR (some (1, 0))] (HW g σ π ρ) (rQ (LQ7 g σ π ρ n (-7) v T)) := by
  refine CT_of (by decide +kernel) rfl (Nat.le_of_ble_eq_true rfl) ?_
  refine J_aload_n (M := mL_halted) dL_halted_0 rfl rfl ?_
  refine J_callX (M := mL_halted) (as := []) dL_halted_1 ca_L_132 ⟨by decide, by decide⟩ lw1 rfl (Nat.le_of_ble_eq_true rfl) (k' := 0) (n' := 0) (by decide) (by decide) hp (fun kq h' hq => ?_) (fun v_ h' hv => ?_)
  · obtain ⟨he, rfl⟩ := hq
    obtain ⟨eg, rfl⟩ := EM_i1 he
    refine ⟨_, _, _, hi_L_halted_0_1, rfl, ?_⟩
    refine Z_bipush (M := mL_halted) dL_halted_6 rfl ?_
    refine J_iret (M := mL_halted) dL_halted_8 rfl ?_
    exact Or.inl ⟨by omega, rfl, rfl⟩
  · obtain ⟨r, rfl, hg0, rfl, hT⟩ := hv
    refine J_iret (M := mL_halted) dL_halted_4 rfl ?_
    exact Or.inr ⟨hg0, rfl, r, hT, rfl⟩

set_option maxRecDepth 100000 in
set_option maxHeartbeats 4000000 in
theorem wL_drawn {X : GX} {g : LH} {σ ρ : TS} {π : Int → Int64} {n v : Int} {T : TS → Prop} (hp : CX X mX7_drawTableau [vR (some (1, 0))] (HL σ π g) ρ (PX n v T) (EM [0] n)) : CT X mL_drawn [vR (some (1, 0))] (HW g σ π ρ) (rQ (LQ7 g σ π ρ n (-7) v T)) := by
  refine CT_of (by decide +kernel) rfl (Nat.le_of_ble_eq_true rfl) ?_
  refine J_aload_n (M := mL_drawn) dL_drawn_0 rfl rfl ?_
  refine J_callX (M := mL_drawn) (as := []) dL_drawn_1 ca_L_138 ⟨by decide, by decide⟩ lw1 rfl (Nat.le_of_ble_eq_true rfl) (k' := 0) (n' := 0) (by decide) (by decide) hp (fun kq h' hq => ?_) (fun v_ h' hv => ?_)
  · obtain ⟨he, rfl⟩ := hq
    obtain ⟨eg, rfl⟩ := EM_i1 he
    refine ⟨_, _, _, hi_L_drawn_0_1, rfl, ?_⟩
    refine Z_bipush (M := mL_drawn) dL_drawn_6 rfl ?_
    refine J_iret (M := mL_drawn) dL_drawn_8 rfl ?_
    exact Or.inl ⟨by omega, rfl, rfl⟩
  · obtain ⟨r, rfl, hg0, rfl, hT⟩ := hv
    refine J_iret (M := mL_drawn) dL_drawn_4 rfl ?_
    exact Or.inr ⟨hg0, rfl, r, hT, rfl⟩

set_option maxRecDepth 100000 in
set_option maxHeartbeats 4000000 in
theorem wL_begun {X : GX} {g : LH} {σ ρ : TS} {π : Int → Int64} {a b d : Int} {n v : Int} {T : TS → Prop} (hp : CX X mX7_begin [vR (some (1, 0)), vI (iI a), vI (iI b), vI (iI d)] (HL σ π g) ρ (PX n v T) (EM [2, 0] n)) : CT X mL_begun [vR (some (1, 0)), vI (iI a), vI (iI b), vI (iI d)] (HW g σ π ρ) (rQ (LQ7 g σ π ρ n (if n = 1 then -8 else -7) v T)) := by
  refine CT_of (by decide +kernel) rfl (Nat.le_of_ble_eq_true rfl) ?_
  refine J_aload_n (M := mL_begun) dL_begun_0 rfl rfl ?_
  refine J_iload_n (M := mL_begun) dL_begun_1 rfl rfl ?_
  refine J_iload_n (M := mL_begun) dL_begun_2 rfl rfl ?_
  refine J_iload_n (M := mL_begun) dL_begun_3 rfl rfl ?_
  refine J_callX (M := mL_begun) (as := [vI (iI a), vI (iI b), vI (iI d)]) dL_begun_4 ca_L_107 ⟨by decide, by decide⟩ lw1 rfl (Nat.le_of_ble_eq_true rfl) (k' := 0) (n' := 0) (by decide) (by decide) hp (fun kq h' hq => ?_) (fun v_ h' hv => ?_)
  · obtain ⟨he, rfl⟩ := hq
    rcases EM_i2 he with ⟨eg, rfl⟩ | ⟨eg, rfl⟩
    · refine ⟨_, _, _, hi_L_begun_2_4, rfl, ?_⟩
      refine Z_bipush (M := mL_begun) dL_begun_10 rfl ?_
      refine J_iret (M := mL_begun) dL_begun_12 rfl ?_
      exact Or.inl ⟨by omega, by rw [eg]; rfl, rfl⟩
    · refine ⟨_, _, _, hi_L_begun_0_4, rfl, ?_⟩
      refine Z_bipush (M := mL_begun) dL_begun_15 rfl ?_
      refine J_iret (M := mL_begun) dL_begun_17 rfl ?_
      exact Or.inl ⟨by omega, by rw [eg]; rfl, rfl⟩
  · obtain ⟨r, rfl, hg0, rfl, hT⟩ := hv
    refine J_iret (M := mL_begun) dL_begun_7 rfl ?_
    exact Or.inr ⟨hg0, rfl, r, hT, rfl⟩

set_option maxRecDepth 100000 in
set_option maxHeartbeats 4000000 in
theorem wL_changed {X : GX} {g : LH} {σ ρ : TS} {π : Int → Int64} {a b : Int} {n v : Int} {T : TS → Prop} (hn : n = 0 ∨ n = 2) (hp : CX X mX7_change [vR (some (1, 0)), vI (iI a), vI (iI b)] (HL σ π g) ρ (PX n v T) (EM [2, 0] n)) : CT X mL_changed [vR (some (1, 0)), vI (iI a), vI (iI b)] (HW g σ π ρ) (rQ (LQ7 g σ π ρ n (-7) v T)) := by
  refine CT_of (by decide +kernel) rfl (Nat.le_of_ble_eq_true rfl) ?_
  refine J_aload_n (M := mL_changed) dL_changed_0 rfl rfl ?_
  refine J_iload_n (M := mL_changed) dL_changed_1 rfl rfl ?_
  refine J_iload_n (M := mL_changed) dL_changed_2 rfl rfl ?_
  refine J_callX (M := mL_changed) (as := [vI (iI a), vI (iI b)]) dL_changed_3 ca_L_119 ⟨by decide, by decide⟩ lw1 rfl (Nat.le_of_ble_eq_true rfl) (k' := 0) (n' := 0) (by decide) (by decide) hp (fun kq h' hq => ?_) (fun v_ h' hv => ?_)
  · obtain ⟨he, rfl⟩ := hq
    rcases EM_i2 he with ⟨eg, rfl⟩ | ⟨eg, rfl⟩
    · exact absurd eg (by omega)
    · refine ⟨_, _, _, hi_L_changed_0_3, rfl, ?_⟩
      refine Z_bipush (M := mL_changed) dL_changed_8 rfl ?_
      refine J_iret (M := mL_changed) dL_changed_10 rfl ?_
      exact Or.inl ⟨by omega, rfl, rfl⟩
  · obtain ⟨r, rfl, hg0, rfl, hT⟩ := hv
    refine J_iret (M := mL_changed) dL_changed_6 rfl ?_
    exact Or.inr ⟨hg0, rfl, r, hT, rfl⟩

set_option maxRecDepth 100000 in
set_option maxHeartbeats 4000000 in
theorem wL_appealed {X : GX} {g : LH} {σ ρ : TS} {π : Int → Int64} {a b : Int} {n v : Int} {T : TS → Prop} (hn : n = 0 ∨ n = 3) (hp : CX X mX7_appeal [vR (some (1, 0)), vI (iI a), vI (iI b)] (HL σ π g) ρ (PX n v T) (EM [2, 1, 0] n)) : CT X mL_appealed [vR (some (1, 0)), vI (iI a), vI (iI b)] (HW g σ π ρ) (rQ (LQ7 g σ π ρ n (-7) v T)) := by
  refine CT_of (by decide +kernel) rfl (Nat.le_of_ble_eq_true rfl) ?_
  refine J_aload_n (M := mL_appealed) dL_appealed_0 rfl rfl ?_
  refine J_iload_n (M := mL_appealed) dL_appealed_1 rfl rfl ?_
  refine J_iload_n (M := mL_appealed) dL_appealed_2 rfl rfl ?_
  refine J_callX (M := mL_appealed) (as := [vI (iI a), vI (iI b)]) dL_appealed_3 ca_L_135 ⟨by decide, by decide⟩ lw1 rfl (Nat.le_of_ble_eq_true rfl) (k' := 0) (n' := 0) (by decide) (by decide) hp (fun kq h' hq => ?_) (fun v_ h' hv => ?_)
  · obtain ⟨he, rfl⟩ := hq
    rcases EM_i3 he with ⟨eg, rfl⟩ | ⟨eg, rfl⟩ | ⟨eg, rfl⟩
    · exact absurd eg (by omega)
    · exact absurd eg (by omega)
    · refine ⟨_, _, _, hi_L_appealed_0_3, rfl, ?_⟩
      refine Z_bipush (M := mL_appealed) dL_appealed_8 rfl ?_
      refine J_iret (M := mL_appealed) dL_appealed_10 rfl ?_
      exact Or.inl ⟨by omega, rfl, rfl⟩
  · obtain ⟨r, rfl, hg0, rfl, hT⟩ := hv
    refine J_iret (M := mL_appealed) dL_appealed_6 rfl ?_
    exact Or.inr ⟨hg0, rfl, r, hT, rfl⟩

set_option maxRecDepth 100000 in
set_option maxHeartbeats 4000000 in
theorem wL_heardC {X : GX} {g : LH} {σ ρ : TS} {π : Int → Int64} {a b : Int} {n v : Int} {T : TS → Prop} (hn : n = 0 ∨ n = 3) (ha : 0 ≤ a ∧ a ≤ 3) (hp : CX X mX7_contact [vR (some (1, 0)), vI (iI (a / 2)), vI (iI (pI (a % 2 = 1))), vI (iI b)] (HL σ π g) ρ (PX n v T) (EM [2, 1, 0] n)) : CT X mL_heard [vR (some (1, 0)), vI (iI a), vI (iI b)] (HW g σ π ρ) (rQ (LQ7 g σ π ρ n (-7) v T)) := by
  refine CT_of (by decide +kernel) rfl (Nat.le_of_ble_eq_true rfl) ?_
  refine J_iload_n (M := mL_heard) dL_heard_0 rfl rfl ?_
  refine Z_iconst (M := mL_heard) dL_heard_1 ?_
  refine Z_ic_le (M := mL_heard) (tgt := 16) (by first | assumption | exact pI_rg _ | (unfold rg; omega)) (by first | assumption | exact pI_rg _ | (unfold rg; omega)) dL_heard_2 (by decide) (fun c_2 => ?_) (fun c_2 => ?_)
  · refine J_aload_n (M := mL_heard) dL_heard_16 rfl rfl ?_
    refine J_iload_n (M := mL_heard) dL_heard_17 rfl rfl ?_
    refine Z_iconst (M := mL_heard) dL_heard_18 ?_
    refine Z_idiv (M := mL_heard) (by omega) (by first | assumption | exact pI_rg _ | (unfold rg; omega)) (by decide) (by first | assumption | exact pI_rg _ | (unfold rg; omega)) dL_heard_19 ?_
    refine Z_bj (M := mL_heard) (pcB := 32) (a % 2 = 1) (fun hj_32 => ?_) ?_
    · refine J_iload_n (M := mL_heard) dL_heard_20 rfl rfl ?_
      refine Z_iconst (M := mL_heard) dL_heard_21 ?_
      refine Z_irem (M := mL_heard) (by omega) (by first | assumption | exact pI_rg _ | (unfold rg; omega)) (by decide) (by first | assumption | exact pI_rg _ | (unfold rg; omega)) dL_heard_22 ?_
      refine Z_iconst (M := mL_heard) dL_heard_23 ?_
      refine Z_ic_ne (M := mL_heard) (tgt := 31) (by first | assumption | exact pI_rg _ | (unfold rg; omega)) (by first | assumption | exact pI_rg _ | (unfold rg; omega)) dL_heard_24 (by decide) (fun c_24 => ?_) (fun c_24 => ?_)
      · refine Z_iconst (M := mL_heard) dL_heard_31 ?_
        exact hj_32 _ (pI_f (by omega)).symm
      · refine Z_iconst (M := mL_heard) dL_heard_27 ?_
        refine J_goto (M := mL_heard) (tgt := 32) dL_heard_28 (by decide) ?_
        exact hj_32 _ (pI_t (by omega)).symm
    refine J_iload_n (M := mL_heard) dL_heard_32 rfl rfl ?_
    refine J_callX (M := mL_heard) (as := [vI (iI (a / 2)), vI (iI (pI (a % 2 = 1))), vI (iI b)]) dL_heard_33 ca_L_128 ⟨by decide, by decide⟩ lw1 rfl (Nat.le_of_ble_eq_true rfl) (k' := 0) (n' := 0) (by decide) (by decide) hp (fun kq h' hq => ?_) (fun v_ h' hv => ?_)
    · obtain ⟨he, rfl⟩ := hq
      rcases EM_i3 he with ⟨eg, rfl⟩ | ⟨eg, rfl⟩ | ⟨eg, rfl⟩
      · exact absurd eg (by omega)
      · exact absurd eg (by omega)
      · refine ⟨_, _, _, hi_L_heard_0_33, rfl, ?_⟩
        refine Z_bipush (M := mL_heard) dL_heard_38 rfl ?_
        refine J_iret (M := mL_heard) dL_heard_40 rfl ?_
        exact Or.inl ⟨by omega, rfl, rfl⟩
    · obtain ⟨r, rfl, hg0, rfl, hT⟩ := hv
      refine J_iret (M := mL_heard) dL_heard_36 rfl ?_
      exact Or.inr ⟨hg0, rfl, r, hT, rfl⟩
  · omega

set_option maxRecDepth 100000 in
set_option maxHeartbeats 4000000 in
theorem wL_heardR {X : GX} {g : LH} {σ ρ : TS} {π : Int → Int64} {a b : Int} {n v : Int} {T : TS → Prop} (hn : n = 0 ∨ n = 2) (ha : 4 ≤ a ∧ a ≤ 6) (hp : CX X mX7_right [vR (some (1, 0)), vI (iI (a - 5)), vI (iI b)] (HL σ π g) ρ (PX n v T) (EM [1, 0] n)) : CT X mL_heard [vR (some (1, 0)), vI (iI a), vI (iI b)] (HW g σ π ρ) (rQ (LQ7 g σ π ρ n (-7) v T)) := by
  refine CT_of (by decide +kernel) rfl (Nat.le_of_ble_eq_true rfl) ?_
  refine J_iload_n (M := mL_heard) dL_heard_0 rfl rfl ?_
  refine Z_iconst (M := mL_heard) dL_heard_1 ?_
  refine Z_ic_le (M := mL_heard) (tgt := 16) (by first | assumption | exact pI_rg _ | (unfold rg; omega)) (by first | assumption | exact pI_rg _ | (unfold rg; omega)) dL_heard_2 (by decide) (fun c_2 => ?_) (fun c_2 => ?_)
  · omega
  · refine J_aload_n (M := mL_heard) dL_heard_5 rfl rfl ?_
    refine J_iload_n (M := mL_heard) dL_heard_6 rfl rfl ?_
    refine Z_iconst (M := mL_heard) dL_heard_7 ?_
    refine Z_isub (M := mL_heard) dL_heard_8 ?_
    refine J_iload_n (M := mL_heard) dL_heard_9 rfl rfl ?_
    refine J_callX (M := mL_heard) (as := [vI (iI (a - 5)), vI (iI b)]) dL_heard_10 ca_L_125 ⟨by decide, by decide⟩ lw1 rfl (Nat.le_of_ble_eq_true rfl) (k' := 0) (n' := 0) (by decide) (by decide) hp (fun kq h' hq => ?_) (fun v_ h' hv => ?_)
    · obtain ⟨he, rfl⟩ := hq
      rcases EM_i2 he with ⟨eg, rfl⟩ | ⟨eg, rfl⟩
      · exact absurd eg (by omega)
      · refine ⟨_, _, _, hi_L_heard_0_10, rfl, ?_⟩
        refine Z_bipush (M := mL_heard) dL_heard_38 rfl ?_
        refine J_iret (M := mL_heard) dL_heard_40 rfl ?_
        exact Or.inl ⟨by omega, rfl, rfl⟩
    · obtain ⟨r, rfl, hg0, rfl, hT⟩ := hv
      refine J_goto (M := mL_heard) (tgt := 36) dL_heard_13 (by decide) ?_
      refine J_iret (M := mL_heard) dL_heard_36 rfl ?_
      exact Or.inr ⟨hg0, rfl, r, hT, rfl⟩

set_option maxRecDepth 100000 in
set_option maxHeartbeats 4000000 in
theorem wL_tested {X : GX} {g : LH} {σ ρ : TS} {π : Int → Int64} {a b d : Int} {n : Int} {P : Prop} {T : TS → Prop} (hn : n = 0 ∨ n = 3) (hp : CX X mX7_test [vR (some (1, 0)), vI (iI a), vI (iI b), vI (iI d)] (HL σ π g) ρ (PX n (pI P) T) (EM [2, 1, 0] n)) : CT X mL_tested [vR (some (1, 0)), vI (iI a), vI (iI b), vI (iI d)] (HW g σ π ρ) (rQ (LQ7 g σ π ρ n (-7) (pI P) T)) := by
  refine CT_of (by decide +kernel) rfl (Nat.le_of_ble_eq_true rfl) ?_
  refine J_aload_n (M := mL_tested) dL_tested_0 rfl rfl ?_
  refine J_iload_n (M := mL_tested) dL_tested_1 rfl rfl ?_
  refine J_iload_n (M := mL_tested) dL_tested_2 rfl rfl ?_
  refine J_iload_n (M := mL_tested) dL_tested_3 rfl rfl ?_
  refine J_callX (M := mL_tested) (as := [vI (iI a), vI (iI b), vI (iI d)]) dL_tested_4 ca_L_115 ⟨by decide, by decide⟩ lw1 rfl (Nat.le_of_ble_eq_true rfl) (k' := 0) (n' := 0) (by decide) (by decide) hp (fun kq h' hq => ?_) (fun v_ h' hv => ?_)
  · obtain ⟨he, rfl⟩ := hq
    rcases EM_i3 he with ⟨eg, rfl⟩ | ⟨eg, rfl⟩ | ⟨eg, rfl⟩
    · exact absurd eg (by omega)
    · exact absurd eg (by omega)
    · refine ⟨_, _, _, hi_L_tested_0_4, rfl, ?_⟩
      refine Z_bipush (M := mL_tested) dL_tested_18 rfl ?_
      refine J_iret (M := mL_tested) dL_tested_20 rfl ?_
      exact Or.inl ⟨by omega, rfl, rfl⟩
  · obtain ⟨r, rfl, hg0, rfl, hT⟩ := hv
    first
      | refine Z_pf (M := mL_tested) (tgt := 14) dL_tested_7 (by decide) (fun c_7 => ?_) (fun c_7 => ?_)
      | refine Z_if_eq (M := mL_tested) (tgt := 14) (by first | assumption | exact pI_rg _ | (unfold rg; omega)) dL_tested_7 (by decide) (fun c_7 => ?_) (fun c_7 => ?_)
    · refine Z_iconst (M := mL_tested) dL_tested_14 ?_
      refine J_iret (M := mL_tested) dL_tested_15 rfl ?_
      exact Or.inr ⟨hg0, by rw [pI_f c_7], r, hT, rfl⟩
    · refine Z_iconst (M := mL_tested) dL_tested_10 ?_
      refine J_goto (M := mL_tested) (tgt := 15) dL_tested_11 (by decide) ?_
      refine J_iret (M := mL_tested) dL_tested_15 rfl ?_
      exact Or.inr ⟨hg0, by rw [pI_t c_7], r, hT, rfl⟩

