/-! THE CLASS: its constructors -/
set_option maxRecDepth 100000 in
set_option maxHeartbeats 4000000 in
theorem kX3_init {X : GX} {h : LH} {t : Tg} : CT X mX3_init [vR (some t)] (hup h t (cO 3 [vI 0, vR none, vR none, vR none, vR none, vI 0])) (rQ (fun v h' => v = none ∧ h' = hup h t (cO 3 [vI (iI (-1)), vR none, vR none, vR none, vR none, vI 0]))) := by
  refine CT_of (by decide +kernel) rfl (Nat.le_of_ble_eq_true rfl) ?_
  refine J_aload_n (M := mX3_init) dX3_init_0 rfl rfl ?_
  refine J_obj (M := mX3_init) dX3_init_1 ob_X3_3 ob_i ob_c (by decide) (by decide) ?_
  refine J_aload_n (M := mX3_init) dX3_init_4 rfl rfl ?_
  refine Z_iconst (M := mX3_init) dX3_init_5 ?_
  refine J_putI (M := mX3_init) dX3_init_6 fi_X3_9 hup_s (Nat.le_of_ble_eq_true rfl) ?_
  refine Z_h (M := mX3_init) hup_2 ?_
  refine J_vret (M := mX3_init) dX3_init_9 rfl ?_
  exact ⟨rfl, rfl⟩
set_option maxRecDepth 100000 in
set_option maxHeartbeats 4000000 in
theorem kX4_init {X : GX} {h : LH} (h7 : h (7, 0) = none) (h8 : h (8, 0) = none) (h9 : h (9, 0) = none) : CT X mX4_init [vR (some (6, 0))] (hup h (6, 0) (cO 4 [vI 0, vI 0, vR none, vR none, vR none])) (rQ (fun v h' => v = none ∧ h' = hup (hup (hup (hup h (7, 0) (cI 0 16 (fun _ => 0))) (8, 0) (cI 0 32 (fun _ => 0))) (9, 0) (cQ 5 16 (fun _ => none))) (6, 0) (cO 4 [vI 0, vI 0, vR (some (7, 0)), vR (some (8, 0)), vR (some (9, 0))]))) := by
  refine CT_of (by decide +kernel) rfl (Nat.le_of_ble_eq_true rfl) ?_
  refine J_aload_n (M := mX4_init) dX4_init_0 rfl rfl ?_
  refine J_obj (M := mX4_init) dX4_init_1 ob_X4_3 ob_i ob_c (by decide) (by decide) ?_
  refine J_aload_n (M := mX4_init) dX4_init_4 rfl rfl ?_
  refine Z_bipush (M := mX4_init) dX4_init_5 rfl ?_
  refine J_le (M := mX4_init) (k' := 2 + 1) (n' := 48 + 16) (by decide) (by decide) ?_
  refine J_newI (M := mX4_init) (t := (7, 0)) dX4_init_7 (by rw [iI_nI]; rfl) (by decide) aw_int ((hup_n (tg_ne (by decide))).trans h7) (tg_ne (by decide)) ?_
  refine Z_h (M := mX4_init) (hup_cm (tg_ne (by decide))) ?_
  refine J_putFR (M := mX4_init) dX4_init_9 fi_X4_9 rfl rfl rfl hup_s (Nat.le_of_ble_eq_true rfl) ?_
  refine Z_h (M := mX4_init) hup_2 ?_
  refine J_aload_n (M := mX4_init) dX4_init_12 rfl rfl ?_
  refine Z_bipush (M := mX4_init) dX4_init_13 rfl ?_
  refine J_le (M := mX4_init) (k' := 1 + 1) (n' := 16 + 32) (by decide) (by decide) ?_
  refine J_newI (M := mX4_init) (t := (8, 0)) dX4_init_15 (by rw [iI_nI]; rfl) (by decide) aw_int ((hup_n (tg_ne (by decide))).trans ((hup_n (tg_ne (by decide))).trans h8)) (tg_ne (by decide)) ?_
  refine Z_h (M := mX4_init) (hup_cm (tg_ne (by decide))) ?_
  refine J_putFR (M := mX4_init) dX4_init_17 fi_X4_15 rfl rfl rfl hup_s (Nat.le_of_ble_eq_true rfl) ?_
  refine Z_h (M := mX4_init) hup_2 ?_
  refine J_aload_n (M := mX4_init) dX4_init_20 rfl rfl ?_
  refine Z_bipush (M := mX4_init) dX4_init_21 rfl ?_
  refine J_le (M := mX4_init) (k' := 0 + 1) (n' := 0 + 16) (by decide) (by decide) ?_
  refine J_newQ (M := mX4_init) (t := (9, 0)) (C := RX0) dX4_init_23 (by rw [iI_nI]; rfl) (by decide) (K := 5) (by decide) rfl cl_X4_18 (by decide +kernel) ((hup_n (tg_ne (by decide))).trans ((hup_n (tg_ne (by decide))).trans ((hup_n (tg_ne (by decide))).trans h9))) (tg_ne (by decide)) ?_
  refine Z_h (M := mX4_init) (hup_cm (tg_ne (by decide))) ?_
  refine J_putFR (M := mX4_init) dX4_init_26 fi_X4_20 rfl rfl rfl hup_s (Nat.le_of_ble_eq_true rfl) ?_
  refine Z_h (M := mX4_init) hup_2 ?_
  refine J_vret (M := mX4_init) dX4_init_29 rfl ?_
  exact ⟨rfl, rfl⟩
theorem hup_c4 {h : LH} {t a b d e : Tg} {c x y z w : LC} (ha : t ≠ a) (hb : t ≠ b) (hd : t ≠ d) (he : t ≠ e) : hup (hup (hup (hup (hup h t c) a x) b y) d z) e w = hup (hup (hup (hup (hup h a x) b y) d z) e w) t c := by
  rw [hup_cm ha, hup_cm hb, hup_cm hd, hup_cm he]
/-- the class's state at its beginning -/
def rh0 (v : Int) : TS := fun k _ => if k = 0 then v else if (4 ≤ k ∧ k ≤ 7) ∨ (37 ≤ k ∧ k ≤ 41) then -1 else 0
theorem rar_m {a : Nat} {N b : Int} {g : Int → Int} (hg : ∀ i, g i = -1) : rar a (subd (-1) N g b) = fun _ => none := by
  funext z
  have e : subd (-1) N g b (z : Int) = -1 := by unfold subd; rw [hg]; split <;> rfl
  unfold rar
  rw [e]
  rfl
theorem arr_s {N b : Int} {g : Int → Int} (hg : ∀ i, g i = 0) : arr (subd 0 N g b) = fun _ => 0 := by
  funext z
  have e : subd 0 N g b (z : Int) = 0 := by unfold subd; rw [hg]; split <;> rfl
  unfold arr
  rw [e, iI_0]
theorem rh_e {h : LH} {v : Int} (hf : ∀ (a : Nat) (i : Int), 1 ≤ a → a ≤ 19 → h (a, i) = none) : hup (hup (hup (hup (hup (hup (hup (hup (hup (hup h (2, 0) (cQ 3 12 (fun _ => none))) (3, 0) (cQ 4 24 (fun _ => none))) (4, 0) (cQ 5 66 (fun _ => none))) (5, 0) (cO 3 [vI (iI (-1)), vR none, vR none, vR none, vR none, vI 0])) (7, 0) (cI 0 16 (fun _ => 0))) (8, 0) (cI 0 32 (fun _ => 0))) (9, 0) (cQ 5 16 (fun _ => none))) (6, 0) (cO 4 [vI 0, vI 0, vR (some (7, 0)), vR (some (8, 0)), vR (some (9, 0))])) (15, 82) (cO 5 [vI 0, vI 0, vI 0])) (1, 0) (cO 7 [vI (iI v), vR (some (2, 0)), vI 0, vR (some (3, 0)), vI 0, vR (some (4, 0)), vI 0, vR (some (5, 0)), vR (some (6, 0)), vR (some (15, 82))]) = hk h (rh0 v) := by
  funext t
  obtain ⟨a, i⟩ := t
  by_cases hc : (a, i) = ((1, 0) : Tg) ∨ (a, i) = ((2, 0) : Tg) ∨ (a, i) = ((3, 0) : Tg) ∨ (a, i) = ((4, 0) : Tg) ∨ (a, i) = ((5, 0) : Tg) ∨ (a, i) = ((6, 0) : Tg) ∨ (a, i) = ((7, 0) : Tg) ∨ (a, i) = ((8, 0) : Tg) ∨ (a, i) = ((9, 0) : Tg) ∨ (a, i) = ((15, 82) : Tg)
  · rcases hc with e | e | e | e | e | e | e | e | e | e <;> rw [e]
    · rw [hk_in (a := 1) (i := 0) (by decide) (by first | exact rfl | exact Or.inr rfl)]
      unfold CC
      rw [show rh0 v 1 0 = 0 from rfl, show rh0 v 2 0 = 0 from rfl, show rh0 v 3 0 = 0 from rfl, show rh0 v 0 0 = v from rfl, ← vI0]
      rfl
    · rw [hk_in (a := 2) (i := 0) (by decide) (by first | exact rfl | exact Or.inr rfl)]
      unfold CC
      exact congrArg (fun z => some (cQ 3 12 z)) (rar_m (a := 11) (N := 12) (b := 12 * 0) (g := rh0 v 4) (fun _ => rfl)).symm
    · rw [hk_in (a := 3) (i := 0) (by decide) (by first | exact rfl | exact Or.inr rfl)]
      unfold CC
      exact congrArg (fun z => some (cQ 4 24 z)) (rar_m (a := 12) (N := 24) (b := 24 * 0) (g := rh0 v 5) (fun _ => rfl)).symm
    · rw [hk_in (a := 4) (i := 0) (by decide) (by first | exact rfl | exact Or.inr rfl)]
      unfold CC
      exact congrArg (fun z => some (cQ 5 66 z)) (rar_m (a := 13) (N := 66) (b := 66 * 0) (g := rh0 v 6) (fun _ => rfl)).symm
    · rw [hk_in (a := 5) (i := 0) (by decide) (by first | exact rfl | exact Or.inr rfl)]
      unfold CC
      rw [show rh0 v 42 0 = 0 from rfl, ← vI0]
      rfl
    · rw [hk_in (a := 6) (i := 0) (by decide) (by first | exact rfl | exact Or.inr rfl)]
      unfold CC
      rw [show rh0 v 43 0 = 0 from rfl, show rh0 v 44 0 = 0 from rfl, ← vI0]
      rfl
    · rw [hk_in (a := 7) (i := 0) (by decide) (by first | exact rfl | exact Or.inr rfl)]
      unfold CC
      exact congrArg (fun z => some (cI 0 16 z)) (arr_s (N := 16) (b := 16 * 0) (g := rh0 v 45) (fun _ => rfl)).symm
    · rw [hk_in (a := 8) (i := 0) (by decide) (by first | exact rfl | exact Or.inr rfl)]
      unfold CC
      exact congrArg (fun z => some (cI 0 32 z)) (arr_s (N := 32) (b := 32 * 0) (g := rh0 v 46) (fun _ => rfl)).symm
    · rw [hk_in (a := 9) (i := 0) (by decide) (by first | exact rfl | exact Or.inr rfl)]
      unfold CC
      exact congrArg (fun z => some (cQ 5 16 z)) (rar_m (a := 13) (N := 16) (b := 16 * 0) (g := rh0 v 7) (fun _ => rfl)).symm
    · rw [hk_in (a := 15) (i := 82) (by decide) (by first | exact rfl | exact Or.inr rfl)]
      unfold CC
      rw [show rh0 v 24 82 = 0 from rfl, show rh0 v 25 82 = 0 from rfl, show rh0 v 26 82 = 0 from rfl, ← vI0]
      rfl
  · have n : ∀ a' i', (a' = 1 ∧ i' = 0) ∨ (a' = 2 ∧ i' = 0) ∨ (a' = 3 ∧ i' = 0) ∨ (a' = 4 ∧ i' = 0) ∨ (a' = 5 ∧ i' = 0) ∨ (a' = 6 ∧ i' = 0) ∨ (a' = 7 ∧ i' = 0) ∨ (a' = 8 ∧ i' = 0) ∨ (a' = 9 ∧ i' = 0) ∨ (a' = 15 ∧ i' = 82) → (a, i) ≠ ((a', i') : Tg) := fun a' i' q e => hc (by
      rcases q with ⟨rfl, rfl⟩ | ⟨rfl, rfl⟩ | ⟨rfl, rfl⟩ | ⟨rfl, rfl⟩ | ⟨rfl, rfl⟩ | ⟨rfl, rfl⟩ | ⟨rfl, rfl⟩ | ⟨rfl, rfl⟩ | ⟨rfl, rfl⟩ | ⟨rfl, rfl⟩
      · exact Or.inl e
      · exact Or.inr (Or.inl e)
      · exact Or.inr (Or.inr (Or.inl e))
      · exact Or.inr (Or.inr (Or.inr (Or.inl e)))
      · exact Or.inr (Or.inr (Or.inr (Or.inr (Or.inl e))))
      · exact Or.inr (Or.inr (Or.inr (Or.inr (Or.inr (Or.inl e)))))
      · exact Or.inr (Or.inr (Or.inr (Or.inr (Or.inr (Or.inr (Or.inl e))))))
      · exact Or.inr (Or.inr (Or.inr (Or.inr (Or.inr (Or.inr (Or.inr (Or.inl e)))))))
      · exact Or.inr (Or.inr (Or.inr (Or.inr (Or.inr (Or.inr (Or.inr (Or.inr (Or.inl e))))))))
      · exact Or.inr (Or.inr (Or.inr (Or.inr (Or.inr (Or.inr (Or.inr (Or.inr (Or.inr e)))))))))
    rw [hup_n (n 1 0 (by decide)), hup_n (n 15 82 (by decide)), hup_n (n 6 0 (by decide)), hup_n (n 9 0 (by decide)), hup_n (n 8 0 (by decide)), hup_n (n 7 0 (by decide)), hup_n (n 5 0 (by decide)), hup_n (n 4 0 (by decide)), hup_n (n 3 0 (by decide)), hup_n (n 2 0 (by decide))]
    by_cases q : 1 ≤ a ∧ a ≤ 19
    · rw [hf a i q.1 q.2, hk_fr q]
      intro z
      have z0 : ∀ k, 47 ≤ k → ∀ j, rh0 v k j = 0 := fun k hk j => by unfold rh0; rw [if_neg (by omega), if_neg (by omega)]
      have hcase : a = 1 ∨ a = 2 ∨ a = 3 ∨ a = 4 ∨ a = 5 ∨ a = 6 ∨ a = 7 ∨ a = 8 ∨ a = 9 ∨ a = 10 ∨ a = 11 ∨ a = 12 ∨ a = 13 ∨ a = 14 ∨ a = 15 ∨ a = 16 ∨ a = 17 ∨ a = 18 ∨ a = 19 := by omega
      rcases hcase with rfl | rfl | rfl | rfl | rfl | rfl | rfl | rfl | rfl | rfl | rfl | rfl | rfl | rfl | rfl | rfl | rfl | rfl | rfl
      · exact n 1 0 (by decide) (congrArg (Prod.mk 1) (show i = 0 from z))
      · exact n 2 0 (by decide) (congrArg (Prod.mk 2) (show i = 0 from z))
      · exact n 3 0 (by decide) (congrArg (Prod.mk 3) (show i = 0 from z))
      · exact n 4 0 (by decide) (congrArg (Prod.mk 4) (show i = 0 from z))
      · exact n 5 0 (by decide) (congrArg (Prod.mk 5) (show i = 0 from z))
      · exact n 6 0 (by decide) (congrArg (Prod.mk 6) (show i = 0 from z))
      · exact n 7 0 (by decide) (congrArg (Prod.mk 7) (show i = 0 from z))
      · exact n 8 0 (by decide) (congrArg (Prod.mk 8) (show i = 0 from z))
      · exact n 9 0 (by decide) (congrArg (Prod.mk 9) (show i = 0 from z))
      · exact z
      · have z1 : 0 ≤ i ∧ i < rh0 v 47 0 := z
        rw [z0 47 (by decide)] at z1
        omega
      · have z1 : 0 ≤ i ∧ i < rh0 v 47 1 := z
        rw [z0 47 (by decide)] at z1
        omega
      · have z1 : rh0 v 48 i = 1 := z
        rw [z0 48 (by decide)] at z1
        omega
      · have z1 : rh0 v 48 i = 1 := z
        rw [z0 48 (by decide)] at z1
        omega
      · have z1 : rh0 v 48 i = 1 ∨ i = 82 := z
        rw [z0 48 (by decide)] at z1
        exact n 15 82 (by decide) (congrArg (Prod.mk 15) (show i = 82 by omega))
      · have z1 : 0 ≤ i ∧ i < rh0 v 47 2 := z
        rw [z0 47 (by decide)] at z1
        omega
      · have z1 : 0 ≤ i ∧ i < rh0 v 47 2 := z
        rw [z0 47 (by decide)] at z1
        omega
      · have z1 : 0 ≤ i ∧ i < rh0 v 47 2 := z
        rw [z0 47 (by decide)] at z1
        omega
      · have z1 : 0 ≤ i ∧ i < rh0 v 47 2 := z
        rw [z0 47 (by decide)] at z1
        omega
    · unfold hk
      rw [if_neg q]
set_option maxRecDepth 100000 in
set_option maxHeartbeats 4000000 in
theorem kX7_init {X : GX} {h : LH} {d : Int} (hd : rg d) (hf : ∀ (a : Nat) (i : Int), 1 ≤ a → a ≤ 19 → h (a, i) = none) : CT X mX7_init [vR (some (1, 0)), vI (iI d)] (hup h (1, 0) (cO 7 [vI 0, vR none, vI 0, vR none, vI 0, vR none, vI 0, vR none, vR none, vR none])) (QK h (fun o r => o = none ∧ r = rh0 (pI (¬ d = 0)))) := by
  refine CT_of (by decide +kernel) rfl (Nat.le_of_ble_eq_true rfl) ?_
  refine J_aload_n (M := mX7_init) dX7_init_0 rfl rfl ?_
  refine J_obj (M := mX7_init) dX7_init_1 ob_X7_3 ob_i ob_c (by decide) (by decide) ?_
  refine J_aload_n (M := mX7_init) dX7_init_4 rfl rfl ?_
  refine Z_bipush (M := mX7_init) dX7_init_5 rfl ?_
  refine J_le (M := mX7_init) (k' := 8 + 1) (n' := 168 + 12) (by decide) (by decide) ?_
  refine J_newQ (M := mX7_init) (t := (2, 0)) (C := RX1) dX7_init_7 (by rw [iI_nI]; rfl) (by decide) (K := 3) (by decide) rfl cl_X7_9 (by decide +kernel) ((hup_n (tg_ne (by decide))).trans (hf 2 0 (by decide) (by decide))) (tg_ne (by decide)) ?_
  refine Z_h (M := mX7_init) (hup_cm (tg_ne (by decide))) ?_
  refine J_putFR (M := mX7_init) dX7_init_10 fi_X7_11 rfl rfl rfl hup_s (Nat.le_of_ble_eq_true rfl) ?_
  refine Z_h (M := mX7_init) hup_2 ?_
  refine J_aload_n (M := mX7_init) dX7_init_13 rfl rfl ?_
  refine Z_bipush (M := mX7_init) dX7_init_14 rfl ?_
  refine J_le (M := mX7_init) (k' := 7 + 1) (n' := 144 + 24) (by decide) (by decide) ?_
  refine J_newQ (M := mX7_init) (t := (3, 0)) (C := RX6) dX7_init_16 (by rw [iI_nI]; rfl) (by decide) (K := 4) (by decide) rfl cl_X7_15 (by decide +kernel) ((hup_n (tg_ne (by decide))).trans ((hup_n (tg_ne (by decide))).trans (hf 3 0 (by decide) (by decide)))) (tg_ne (by decide)) ?_
  refine Z_h (M := mX7_init) (hup_cm (tg_ne (by decide))) ?_
  refine J_putFR (M := mX7_init) dX7_init_19 fi_X7_17 rfl rfl rfl hup_s (Nat.le_of_ble_eq_true rfl) ?_
  refine Z_h (M := mX7_init) hup_2 ?_
  refine J_aload_n (M := mX7_init) dX7_init_22 rfl rfl ?_
  refine Z_bipush (M := mX7_init) dX7_init_23 rfl ?_
  refine J_le (M := mX7_init) (k' := 6 + 1) (n' := 78 + 66) (by decide) (by decide) ?_
  refine J_newQ (M := mX7_init) (t := (4, 0)) (C := RX0) dX7_init_25 (by rw [iI_nI]; rfl) (by decide) (K := 5) (by decide) rfl cl_X7_21 (by decide +kernel) ((hup_n (tg_ne (by decide))).trans ((hup_n (tg_ne (by decide))).trans ((hup_n (tg_ne (by decide))).trans (hf 4 0 (by decide) (by decide))))) (tg_ne (by decide)) ?_
  refine Z_h (M := mX7_init) (hup_cm (tg_ne (by decide))) ?_
  refine J_putFR (M := mX7_init) dX7_init_28 fi_X7_23 rfl rfl rfl hup_s (Nat.le_of_ble_eq_true rfl) ?_
  refine Z_h (M := mX7_init) hup_2 ?_
  refine J_aload_n (M := mX7_init) dX7_init_31 rfl rfl ?_
  refine J_le (M := mX7_init) (k' := 5 + 1) (n' := 72 + 6) (by decide) (by decide) ?_
  refine J_new (M := mX7_init) (t := (5, 0)) dX7_init_32 ni_X7_27 ((hup_n (tg_ne (by decide))).trans ((hup_n (tg_ne (by decide))).trans ((hup_n (tg_ne (by decide))).trans ((hup_n (tg_ne (by decide))).trans (hf 5 0 (by decide) (by decide)))))) (tg_ne (by decide)) ?_
  refine J_dup (M := mX7_init) dX7_init_35 rfl ?_
  refine J_callN (M := mX7_init) (as := []) dX7_init_36 ca_X7_29 rfl ⟨by decide, by decide⟩ rfl (Nat.le_of_ble_eq_true rfl) (k' := 5) (n' := 72) (by decide) (by decide) kX3_init (fun v_36 h_36 hv_36 => ?_)
  obtain ⟨rfl, rfl⟩ := hv_36
  refine Z_h (M := mX7_init) (hup_cm (tg_ne (by decide))) ?_
  refine J_putFR (M := mX7_init) dX7_init_39 fi_X7_30 rfl rfl rfl hup_s (Nat.le_of_ble_eq_true rfl) ?_
  refine Z_h (M := mX7_init) hup_2 ?_
  refine J_aload_n (M := mX7_init) dX7_init_42 rfl rfl ?_
  refine J_le (M := mX7_init) (k' := 4 + 1) (n' := 67 + 5) (by decide) (by decide) ?_
  refine J_new (M := mX7_init) (t := (6, 0)) dX7_init_43 ni_X7_34 ((hup_n (tg_ne (by decide))).trans ((hup_n (tg_ne (by decide))).trans ((hup_n (tg_ne (by decide))).trans ((hup_n (tg_ne (by decide))).trans ((hup_n (tg_ne (by decide))).trans (hf 6 0 (by decide) (by decide))))))) (tg_ne (by decide)) ?_
  refine J_dup (M := mX7_init) dX7_init_46 rfl ?_
  refine J_callN (M := mX7_init) (as := []) dX7_init_47 ca_X7_36 rfl ⟨by decide, by decide⟩ rfl (Nat.le_of_ble_eq_true rfl) (k' := 1) (n' := 3) (by decide) (by decide) (kX4_init ((hup_n (tg_ne (by decide))).trans ((hup_n (tg_ne (by decide))).trans ((hup_n (tg_ne (by decide))).trans ((hup_n (tg_ne (by decide))).trans ((hup_n (tg_ne (by decide))).trans (hf 7 0 (by decide) (by decide))))))) ((hup_n (tg_ne (by decide))).trans ((hup_n (tg_ne (by decide))).trans ((hup_n (tg_ne (by decide))).trans ((hup_n (tg_ne (by decide))).trans ((hup_n (tg_ne (by decide))).trans (hf 8 0 (by decide) (by decide))))))) ((hup_n (tg_ne (by decide))).trans ((hup_n (tg_ne (by decide))).trans ((hup_n (tg_ne (by decide))).trans ((hup_n (tg_ne (by decide))).trans ((hup_n (tg_ne (by decide))).trans (hf 9 0 (by decide) (by decide)))))))) (fun v_47 h_47 hv_47 => ?_)
  obtain ⟨rfl, rfl⟩ := hv_47
  refine Z_h (M := mX7_init) (hup_c4 (tg_ne (by decide)) (tg_ne (by decide)) (tg_ne (by decide)) (tg_ne (by decide))) ?_
  refine J_putFR (M := mX7_init) dX7_init_50 fi_X7_37 rfl rfl rfl hup_s (Nat.le_of_ble_eq_true rfl) ?_
  refine Z_h (M := mX7_init) hup_2 ?_
  refine J_aload_n (M := mX7_init) dX7_init_53 rfl rfl ?_
  refine J_le (M := mX7_init) (k' := 0 + 1) (n' := 0 + 3) (by decide) (by decide) ?_
  refine J_new (M := mX7_init) (t := (15, 82)) dX7_init_54 ni_X7_41 ((hup_n (tg_ne (by decide))).trans ((hup_n (tg_ne (by decide))).trans ((hup_n (tg_ne (by decide))).trans ((hup_n (tg_ne (by decide))).trans ((hup_n (tg_ne (by decide))).trans ((hup_n (tg_ne (by decide))).trans ((hup_n (tg_ne (by decide))).trans ((hup_n (tg_ne (by decide))).trans ((hup_n (tg_ne (by decide))).trans (hf 15 82 (by decide) (by decide))))))))))) (tg_ne (by decide)) ?_
  refine J_dup (M := mX7_init) dX7_init_57 rfl ?_
  refine J_callN (M := mX7_init) (as := []) dX7_init_58 ca_X7_43 rfl ⟨by decide, by decide⟩ rfl (Nat.le_of_ble_eq_true rfl) (k' := 0) (n' := 0) (by decide) (by decide) kX5_init (fun v_58 h_58 hv_58 => ?_)
  obtain ⟨rfl, rfl⟩ := hv_58
  refine Z_h (M := mX7_init) (hup_cm (tg_ne (by decide))) ?_
  refine J_putFR (M := mX7_init) dX7_init_61 fi_X7_44 rfl rfl rfl hup_s (Nat.le_of_ble_eq_true rfl) ?_
  refine Z_h (M := mX7_init) hup_2 ?_
  refine J_aload_n (M := mX7_init) dX7_init_64 rfl rfl ?_
  refine Z_bj (M := mX7_init) (pcB := 74) (¬ d = 0) (fun hj_74 => ?_) ?_
  · refine J_iload_n (M := mX7_init) dX7_init_65 rfl rfl ?_
    first
      | refine Z_pf (M := mX7_init) (tgt := 73) dX7_init_66 (by decide) (fun c_66 => ?_) (fun c_66 => ?_)
      | refine Z_if_eq (M := mX7_init) (tgt := 73) (by first | assumption | exact pI_rg _ | (unfold rg; omega)) dX7_init_66 (by decide) (fun c_66 => ?_) (fun c_66 => ?_)
    · refine Z_iconst (M := mX7_init) dX7_init_73 ?_
      exact hj_74 _ (pI_f (by omega)).symm
    · refine Z_iconst (M := mX7_init) dX7_init_69 ?_
      refine J_goto (M := mX7_init) (tgt := 74) dX7_init_70 (by decide) ?_
      exact hj_74 _ (pI_t (by omega)).symm
  refine J_putFZ (M := mX7_init) dX7_init_74 fi_X7_48 rfl rfl (pI_zb _) hup_s (Nat.le_of_ble_eq_true rfl) ?_
  refine Z_h (M := mX7_init) hup_2 ?_
  refine Z_h (M := mX7_init) (rh_e hf) ?_
  refine K_vret dX7_init_77 rfl ?_
  exact ⟨rfl, rfl⟩
