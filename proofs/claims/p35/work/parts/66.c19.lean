/-! THE CLASS: new bouts -/
def nbt (ρ : TS) (b F f s : Int) : TS := ts (ts (ts (ts (ts (ts (ts (ts (ts (ts (fs ρ 23 (rw0 (ρ 23) b 12)) 17 b F) 18 b f) 19 b s) 20 b 0) 21 b 2) 22 b 2) 24 b 0) 25 b 0) 26 b 0) 48 b 1
theorem nbt_k {ρ : TS} {b F f s : Int} {k : Nat} (h : ¬ (17 ≤ k ∧ k ≤ 26) ∧ ¬ k = 48) : nbt ρ b F f s k = ρ k := by
  unfold nbt
  rw [ts_n (by omega), ts_n (by omega), ts_n (by omega), ts_n (by omega), ts_n (by omega), ts_n (by omega), ts_n (by omega), ts_n (by omega), ts_n (by omega), ts_n (by omega), fs_n (by omega)]
theorem nbt_17 {ρ : TS} {b F f s : Int} : nbt ρ b F f s 17 = upZ (ρ 17) b F := by
  unfold nbt
  rw [ts_n (by decide), ts_n (by decide), ts_n (by decide), ts_n (by decide), ts_n (by decide), ts_n (by decide), ts_n (by decide), ts_n (by decide), ts_n (by decide), ts_s, fs_n (by decide)]
theorem nbt_18 {ρ : TS} {b F f s : Int} : nbt ρ b F f s 18 = upZ (ρ 18) b f := by
  unfold nbt
  rw [ts_n (by decide), ts_n (by decide), ts_n (by decide), ts_n (by decide), ts_n (by decide), ts_n (by decide), ts_n (by decide), ts_n (by decide), ts_s, ts_n (by decide), fs_n (by decide)]
theorem nbt_19 {ρ : TS} {b F f s : Int} : nbt ρ b F f s 19 = upZ (ρ 19) b s := by
  unfold nbt
  rw [ts_n (by decide), ts_n (by decide), ts_n (by decide), ts_n (by decide), ts_n (by decide), ts_n (by decide), ts_n (by decide), ts_s, ts_n (by decide), ts_n (by decide), fs_n (by decide)]
theorem nbt_20 {ρ : TS} {b F f s : Int} : nbt ρ b F f s 20 = upZ (ρ 20) b 0 := by
  unfold nbt
  rw [ts_n (by decide), ts_n (by decide), ts_n (by decide), ts_n (by decide), ts_n (by decide), ts_n (by decide), ts_s, ts_n (by decide), ts_n (by decide), ts_n (by decide), fs_n (by decide)]
theorem nbt_21 {ρ : TS} {b F f s : Int} : nbt ρ b F f s 21 = upZ (ρ 21) b 2 := by
  unfold nbt
  rw [ts_n (by decide), ts_n (by decide), ts_n (by decide), ts_n (by decide), ts_n (by decide), ts_s, ts_n (by decide), ts_n (by decide), ts_n (by decide), ts_n (by decide), fs_n (by decide)]
theorem nbt_22 {ρ : TS} {b F f s : Int} : nbt ρ b F f s 22 = upZ (ρ 22) b 2 := by
  unfold nbt
  rw [ts_n (by decide), ts_n (by decide), ts_n (by decide), ts_n (by decide), ts_s, ts_n (by decide), ts_n (by decide), ts_n (by decide), ts_n (by decide), ts_n (by decide), fs_n (by decide)]
theorem nbt_24 {ρ : TS} {b F f s : Int} : nbt ρ b F f s 24 = upZ (ρ 24) b 0 := by
  unfold nbt
  rw [ts_n (by decide), ts_n (by decide), ts_n (by decide), ts_s, ts_n (by decide), ts_n (by decide), ts_n (by decide), ts_n (by decide), ts_n (by decide), ts_n (by decide), fs_n (by decide)]
theorem nbt_25 {ρ : TS} {b F f s : Int} : nbt ρ b F f s 25 = upZ (ρ 25) b 0 := by
  unfold nbt
  rw [ts_n (by decide), ts_n (by decide), ts_s, ts_n (by decide), ts_n (by decide), ts_n (by decide), ts_n (by decide), ts_n (by decide), ts_n (by decide), ts_n (by decide), fs_n (by decide)]
theorem nbt_26 {ρ : TS} {b F f s : Int} : nbt ρ b F f s 26 = upZ (ρ 26) b 0 := by
  unfold nbt
  rw [ts_n (by decide), ts_s, ts_n (by decide), ts_n (by decide), ts_n (by decide), ts_n (by decide), ts_n (by decide), ts_n (by decide), ts_n (by decide), ts_n (by decide), fs_n (by decide)]
theorem nbt_48 {ρ : TS} {b F f s : Int} : nbt ρ b F f s 48 = upZ (ρ 48) b 1 := by
  unfold nbt
  rw [ts_s, ts_n (by decide), ts_n (by decide), ts_n (by decide), ts_n (by decide), ts_n (by decide), ts_n (by decide), ts_n (by decide), ts_n (by decide), ts_n (by decide), fs_n (by decide)]
theorem nbt_23 {ρ : TS} {b F f s : Int} : nbt ρ b F f s 23 = rw0 (ρ 23) b 12 := by
  unfold nbt
  rw [ts_n (by decide), ts_n (by decide), ts_n (by decide), ts_n (by decide), ts_n (by decide), ts_n (by decide), ts_n (by decide), ts_n (by decide), ts_n (by decide), ts_n (by decide), fs_s]
theorem rw0_in {g : Int → Int} {b : Int} : rar 16 (subd (-1) 12 (rw0 g b 12) (12 * b)) = fun _ => none := by
  funext z
  have e : subd (-1) 12 (rw0 g b 12) (12 * b) (z : Int) = -1 := by
    unfold subd rw0
    split
    · rw [if_pos (by omega)]
    · rfl
  unfold rar
  rw [e]
  rfl
theorem rw0_ot {g : Int → Int} {b c : Int} (h : ¬ c = b) : subd (-1) 12 (rw0 g b 12) (12 * c) = subd (-1) 12 g (12 * c) := by
  funext z
  unfold subd rw0
  split
  · rw [if_neg (by omega)]
  · rfl
theorem nbt_e {h : LH} {ρ : TS} {b F f s : Int} (hb : ¬ b = 82) (hf : ¬ ρ 48 b = 1) : hup (hup (hup (hk h ρ) (14, b) (cQ 6 12 (fun _ => none))) (15, b) (cO 5 [vI 0, vI 0, vI 0])) (13, b) (cO 0 [vI (iI F), vI (iI f), vI (iI s), vR (some (14, b)), vI 0, vI (iI 2), vI (iI 2), vR (some (15, b))]) = hk h (nbt ρ b F f s) := by
  have e48 : nbt ρ b F f s 48 b = 1 := by rw [nbt_48]; exact upZ_at
  funext t
  obtain ⟨a, i⟩ := t
  by_cases q13 : a = 13 ∧ i = b
  · obtain ⟨rfl, rfl⟩ := q13
    rw [hup_s, hk_13 e48, nbt_17, nbt_18, nbt_19, nbt_20, nbt_21, nbt_22, upZ_at, upZ_at, upZ_at, upZ_at, upZ_at, upZ_at, vI0]
  rw [hup_n (fun e => q13 ⟨congrArg Prod.fst e, congrArg Prod.snd e⟩)]
  by_cases q15 : a = 15 ∧ i = b
  · obtain ⟨rfl, rfl⟩ := q15
    rw [hup_s, hk_15 (Or.inl e48), nbt_24, nbt_25, nbt_26, upZ_at, upZ_at, upZ_at, vI0]
  rw [hup_n (fun e => q15 ⟨congrArg Prod.fst e, congrArg Prod.snd e⟩)]
  by_cases q14 : a = 14 ∧ i = b
  · obtain ⟨rfl, rfl⟩ := q14
    rw [hup_s, hk_14 e48, nbt_23, rw0_in]
  rw [hup_n (fun e => q14 ⟨congrArg Prod.fst e, congrArg Prod.snd e⟩)]
  by_cases z : a = 13 ∨ a = 14 ∨ a = 15
  · have hi : ¬ i = b := fun e => by
      rcases z with z | z | z
      · exact q13 ⟨z, e⟩
      · exact q14 ⟨z, e⟩
      · exact q15 ⟨z, e⟩
    have hce : nbt ρ b F f s 48 i = ρ 48 i := by rw [nbt_48, upZ_ne hi]
    rcases z with rfl | rfl | rfl
    · refine (hk_same (show CE (nbt ρ b F f s) 13 i ↔ CE ρ 13 i from (by show nbt ρ b F f s 48 i = 1 ↔ ρ 48 i = 1; rw [hce])) (fun _ => ?_)).symm
      unfold CC
      simp only [nbt_17, nbt_18, nbt_19, nbt_20, nbt_21, nbt_22, upZ_ne hi]
    · refine (hk_same (show CE (nbt ρ b F f s) 14 i ↔ CE ρ 14 i from (by show nbt ρ b F f s 48 i = 1 ↔ ρ 48 i = 1; rw [hce])) (fun _ => ?_)).symm
      unfold CC
      simp only [nbt_23, rw0_ot hi]
    · refine (hk_same (show CE (nbt ρ b F f s) 15 i ↔ CE ρ 15 i from (by show (nbt ρ b F f s 48 i = 1 ∨ i = 82) ↔ (ρ 48 i = 1 ∨ i = 82); rw [hce])) (fun _ => ?_)).symm
      unfold CC
      simp only [nbt_24, nbt_25, nbt_26, upZ_ne hi]
  · have hlt : a < 13 ∨ 15 < a := by omega
    refine (hk_same (ρ := ρ) (ρ' := nbt ρ b F f s) (a := a) (i := i) (CE_q (Or.inl (by rw [nbt_k (by decide)])) (Or.inl (by rw [nbt_k (by decide)])) (Or.inl (by rw [nbt_k (by decide)])) (Or.inr hlt)) (fun _ => ?_)).symm
    by_cases z2 : 1 ≤ a
    · refine CC_q (fun g hg => nbt_k ?_)
      have f13 : ∀ k, (k = 17 ∨ k = 18 ∨ k = 19 ∨ k = 20 ∨ k = 21 ∨ k = 22) → ow k = 13 := fun k hk => by rcases hk with rfl | rfl | rfl | rfl | rfl | rfl <;> rfl
      have f15 : ∀ k, (k = 24 ∨ k = 25 ∨ k = 26) → ow k = 15 := fun k hk => by rcases hk with rfl | rfl | rfl <;> rfl
      have n1 : ¬ (g = 17 ∨ g = 18 ∨ g = 19 ∨ g = 20 ∨ g = 21 ∨ g = 22) := fun hg2 => z (Or.inl ((f13 g hg2).symm.trans hg).symm)
      have n2 : ¬ (g = 24 ∨ g = 25 ∨ g = 26) := fun hg2 => z (Or.inr (Or.inr ((f15 g hg2).symm.trans hg).symm))
      have n3 : ¬ g = 23 := fun e => by rw [e, show ow 23 = 14 from rfl] at hg; omega
      have n4 : ¬ g = 48 := fun e => by rw [e, show ow 48 = 0 from rfl] at hg; omega
      omega
    · have e : a = 0 := by omega
      rw [e]
      rfl
theorem nI12 : iI 12 = nI 12 := by rw [iI_nI]; rfl
theorem cl_ph : Cond.classLink RX0 9 RX2 ∈ GW := cl_X0_9
set_option maxRecDepth 100000 in
set_option maxHeartbeats 4000000 in
theorem kX5_init {X : GX} {H : LH} {t : Tg} : CT X mX5_init [vR (some t)] H (rQ (fun v h' => v = none ∧ h' = H)) := by
  refine CT_of (by decide +kernel) rfl (Nat.le_of_ble_eq_true rfl) ?_
  refine J_aload_n (M := mX5_init) dX5_init_0 rfl rfl ?_
  refine J_obj (M := mX5_init) dX5_init_1 ob_X5_3 ob_i ob_c (by decide) (by decide) ?_
  refine J_vret dX5_init_4 rfl ?_
  exact ⟨rfl, rfl⟩

set_option maxRecDepth 100000 in
set_option maxHeartbeats 4000000 in
theorem kX0_init {X : GX} {h : LH} {ρ : TS} {b F f s : Int} (hb : ¬ b = 82) (hf : ¬ ρ 48 b = 1) (hF : F = 0 ∨ F = 1) : CT X mX0_init [vR (some (13, b)), vI (iI F), vI (iI f), vI (iI s)] (hup (hk h ρ) (13, b) (cO 0 [vI 0, vI 0, vI 0, vR none, vI 0, vI 0, vI 0, vR none])) (QK h (fun o r => o = none ∧ r = ts (ts (ts (nbt ρ b F f s) 24 b (if F = 0 then 5 else 3)) 25 b 0) 26 b 0)) := by
  have f14 : ¬ CE ρ 14 b := hf
  have f15 : ¬ CE ρ 15 b := fun z => z.elim hf hb
  have e13 : CE (nbt ρ b F f s) 13 b := by show nbt ρ b F f s 48 b = 1; rw [nbt_48]; exact upZ_at
  have e15 : CE (nbt ρ b F f s) 15 b := Or.inl e13
  refine CT_of (by decide +kernel) rfl (Nat.le_of_ble_eq_true rfl) ?_
  refine J_aload_n (M := mX0_init) dX0_init_0 rfl rfl ?_
  refine J_obj (M := mX0_init) dX0_init_1 ob_X0_3 ob_i ob_c (by decide) (by decide) ?_
  refine J_aload_n (M := mX0_init) dX0_init_4 rfl rfl ?_
  refine Z_bipush (M := mX0_init) dX0_init_5 rfl ?_
  refine J_le (M := mX0_init) (k' := 1 + 1) (n' := 3 + 12) (by decide) (by decide) ?_
  refine J_newQ (M := mX0_init) (C := RX2) dX0_init_7 nI12 (by decide) (K := 6) (by decide) rfl cl_ph (by decide +kernel) ((hup_n (tg_ne (by decide))).trans (hk_fr (by decide) f14)) (tg_ne (by decide)) ?_
  refine Z_h (M := mX0_init) (hup_cm (tg_ne (by decide))) ?_
  refine J_putFR (M := mX0_init) dX0_init_10 fi_X0_11 rfl rfl rfl hup_s (Nat.le_of_ble_eq_true rfl) ?_
  refine Z_h (M := mX0_init) hup_2 ?_
  refine J_aload_n (M := mX0_init) dX0_init_13 rfl rfl ?_
  refine Z_iconst (M := mX0_init) dX0_init_14 ?_
  refine J_putI (M := mX0_init) dX0_init_15 fi_X0_17 hup_s (Nat.le_of_ble_eq_true rfl) ?_
  refine Z_h (M := mX0_init) hup_2 ?_
  refine J_aload_n (M := mX0_init) dX0_init_18 rfl rfl ?_
  refine Z_iconst (M := mX0_init) dX0_init_19 ?_
  refine J_putI (M := mX0_init) dX0_init_20 fi_X0_21 hup_s (Nat.le_of_ble_eq_true rfl) ?_
  refine Z_h (M := mX0_init) hup_2 ?_
  refine J_aload_n (M := mX0_init) dX0_init_23 rfl rfl ?_
  refine J_le (M := mX0_init) (k' := 0 + 1) (n' := 0 + 3) (by decide) (by decide) ?_
  refine J_new (M := mX0_init) dX0_init_24 ni_X0_24 ((hup_n (tg_ne (by decide))).trans ((hup_n (tg_ne (by decide))).trans (hk_fr (by decide) f15))) (tg_ne (by decide)) ?_
  refine Z_h (M := mX0_init) (hup_cm (tg_ne (by decide))) ?_
  refine J_dup (M := mX0_init) dX0_init_27 rfl ?_
  refine J_callN (M := mX0_init) (as := []) dX0_init_28 ca_X0_26 rfl ⟨by decide, by decide⟩ rfl (Nat.le_of_ble_eq_true rfl) (k' := 0) (n' := 0) (by decide) (by decide) kX5_init (fun v_28 h_28 hv_28 => ?_)
  obtain ⟨rfl, rfl⟩ := hv_28
  refine J_putFR (M := mX0_init) dX0_init_31 fi_X0_27 rfl rfl rfl hup_s (Nat.le_of_ble_eq_true rfl) ?_
  refine Z_h (M := mX0_init) hup_2 ?_
  refine J_aload_n (M := mX0_init) dX0_init_34 rfl rfl ?_
  refine J_iload_n (M := mX0_init) dX0_init_35 rfl rfl ?_
  refine J_putFZ (M := mX0_init) dX0_init_36 fi_X0_31 rfl rfl (zb_of hF) hup_s (Nat.le_of_ble_eq_true rfl) ?_
  refine Z_h (M := mX0_init) hup_2 ?_
  refine J_aload_n (M := mX0_init) dX0_init_39 rfl rfl ?_
  refine J_iload_n (M := mX0_init) dX0_init_40 rfl rfl ?_
  refine J_putI (M := mX0_init) dX0_init_41 fi_X0_35 hup_s (Nat.le_of_ble_eq_true rfl) ?_
  refine Z_h (M := mX0_init) hup_2 ?_
  refine J_aload_n (M := mX0_init) dX0_init_44 rfl rfl ?_
  refine J_iload_n (M := mX0_init) dX0_init_45 rfl rfl ?_
  refine J_putI (M := mX0_init) dX0_init_46 fi_X0_38 hup_s (Nat.le_of_ble_eq_true rfl) ?_
  refine Z_h (M := mX0_init) hup_2 ?_
  refine Z_h (M := mX0_init) (nbt_e hb hf) ?_
  refine J_aload_n (M := mX0_init) dX0_init_49 rfl rfl ?_
  refine J_getf (M := mX0_init) dX0_init_50 fi_X0_27 (hk_13 (by first | exact rfl | assumption | exact Or.inl (by assumption) | exact Or.inr rfl | (show 0 ≤ _ ∧ _ < _; omega))) rfl ?_
  refine Z_ij (M := mX0_init) (pcB := 62) (if F = 0 then 5 else 3) (fun hj_62 => ?_) ?_
  · refine J_iload_n (M := mX0_init) dX0_init_53 rfl rfl ?_
    first
      | refine Z_pf (M := mX0_init) (tgt := 61) dX0_init_54 (by decide) (fun c_54 => ?_) (fun c_54 => ?_)
      | refine Z_if_eq (M := mX0_init) (tgt := 61) (by first | assumption | exact pI_rg _ | (unfold rg; omega)) dX0_init_54 (by decide) (fun c_54 => ?_) (fun c_54 => ?_)
    · refine Z_iconst (M := mX0_init) dX0_init_61 ?_
      exact hj_62 _ (by first | rw [if_pos (by omega)] | rw [if_neg (by omega)])
    · refine Z_iconst (M := mX0_init) dX0_init_57 ?_
      refine J_goto (M := mX0_init) (tgt := 62) dX0_init_58 (by decide) ?_
      exact hj_62 _ (by first | rw [if_pos (by omega)] | rw [if_neg (by omega)])
  refine J_callV (M := mX0_init) (as := [_]) dX0_init_62 ca_X0_41 ⟨by decide, by decide⟩ (hk_15 (by first | exact rfl | assumption | exact Or.inl (by assumption) | exact Or.inr rfl | (show 0 ≤ _ ∧ _ < _; omega))) rfl (Nat.le_of_ble_eq_true rfl) (k' := 0) (n' := 0) (by decide) (by decide) (kX5_restart e15) (fun v_62 h_62 hv_62 => ?_)
  obtain ⟨r_62, rfl, hv_62⟩ := hv_62
  obtain ⟨rfl, e_62⟩ := hv_62
  rw [e_62]
  refine K_vret dX0_init_65 rfl ?_
  exact And.intro rfl rfl
