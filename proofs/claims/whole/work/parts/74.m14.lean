/-! THE REFERENCE: its constructor -/
theorem al_c {m : Nat} (h : aLen m ≠ 0) : m = 2 ∨ m = 3 ∨ m = 4 ∨ m = 6 ∨ m = 7 ∨ m = 10 ∨ m = 11 ∨ m = 12 ∨ m = 13 ∨ m = 14 ∨ m = 15 ∨ m = 16 ∨ m = 18 ∨ m = 22 ∨ m = 23 ∨ m = 28 ∨ m = 29 ∨ m = 30 ∨ m = 31 ∨ m = 32 := by
  unfold aLen at h
  split at h <;> first | omega | exact absurd rfl h
def th0 (v : Int) : TS := fun k _ => if k = 0 then v else if k = 17 then -1 else 0
theorem mh_e {h : LH} {v : Int} : hup (hup (hup (hup (hup (hup (hup (hup (hup (hup (hup (hup (hup (hup (hup (hup (hup (hup (hup (hup (hup (h) (42, 0) (cI 0 24 (fun _ => 0))) (43, 0) (cI 0 24 (fun _ => 0))) (44, 0) (cI 1 24 (fun _ => 0))) (46, 0) (cI 0 66 (fun _ => 0))) (47, 0) (cI 0 66 (fun _ => 0))) (50, 0) (cI 0 82 (fun _ => 0))) (51, 0) (cI 0 164 (fun _ => 0))) (52, 0) (cI 0 984 (fun _ => 0))) (53, 0) (cI 0 1968 (fun _ => 0))) (54, 0) (cI 0 984 (fun _ => 0))) (55, 0) (cI 0 7872 (fun _ => 0))) (56, 0) (cI 0 7872 (fun _ => 0))) (58, 0) (cI 0 2 (fun _ => 0))) (62, 0) (cI 0 32 (fun _ => 0))) (63, 0) (cI 1 32 (fun _ => 0))) (68, 0) (cI 0 16 (fun _ => 0))) (69, 0) (cI 0 12 (fun _ => 0))) (70, 0) (cI 0 12 (fun _ => 0))) (71, 0) (cI 0 12 (fun _ => 0))) (72, 0) (cI 0 12 (fun _ => 0))) (20, 0) (cO 8 [vI (iI v), vI 0, vR (some (42, 0)), vR (some (43, 0)), vR (some (44, 0)), vI 0, vR (some (46, 0)), vR (some (47, 0)), vI 0, vI 0, vR (some (50, 0)), vR (some (51, 0)), vR (some (52, 0)), vR (some (53, 0)), vR (some (54, 0)), vR (some (55, 0)), vR (some (56, 0)), vI (iI (-1)), vR (some (58, 0)), vI 0, vI 0, vI 0, vR (some (62, 0)), vR (some (63, 0)), vI 0, vI 0, vI 0, vI 0, vR (some (68, 0)), vR (some (69, 0)), vR (some (70, 0)), vR (some (71, 0)), vR (some (72, 0)), vI 0]) = hm h (th0 v) := by
  funext t
  by_cases hc : t = ((20, 0) : Tg) ∨ t = ((42, 0) : Tg) ∨ t = ((43, 0) : Tg) ∨ t = ((44, 0) : Tg) ∨ t = ((46, 0) : Tg) ∨ t = ((47, 0) : Tg) ∨ t = ((50, 0) : Tg) ∨ t = ((51, 0) : Tg) ∨ t = ((52, 0) : Tg) ∨ t = ((53, 0) : Tg) ∨ t = ((54, 0) : Tg) ∨ t = ((55, 0) : Tg) ∨ t = ((56, 0) : Tg) ∨ t = ((58, 0) : Tg) ∨ t = ((62, 0) : Tg) ∨ t = ((63, 0) : Tg) ∨ t = ((68, 0) : Tg) ∨ t = ((69, 0) : Tg) ∨ t = ((70, 0) : Tg) ∨ t = ((71, 0) : Tg) ∨ t = ((72, 0) : Tg)
  · rcases hc with e | e | e | e | e | e | e | e | e | e | e | e | e | e | e | e | e | e | e | e | e <;> rw [e]
    · rw [hm_o]
      unfold mFs
      rw [show th0 v 0 0 = v from rfl, show th0 v 17 0 = -1 from rfl, show th0 v 1 0 = 0 from rfl, show th0 v 5 0 = 0 from rfl, show th0 v 8 0 = 0 from rfl, show th0 v 9 0 = 0 from rfl, show th0 v 19 0 = 0 from rfl, show th0 v 20 0 = 0 from rfl, show th0 v 21 0 = 0 from rfl, show th0 v 24 0 = 0 from rfl, show th0 v 25 0 = 0 from rfl, show th0 v 26 0 = 0 from rfl, show th0 v 27 0 = 0 from rfl, show th0 v 33 0 = 0 from rfl, ← vI0]
      rfl
    · exact (congrArg (fun y => some (cI 0 24 y)) arr_0).trans (hm_at (t := (42, 0)) (τ := th0 v) rfl).symm
    · exact (congrArg (fun y => some (cI 0 24 y)) arr_0).trans (hm_at (t := (43, 0)) (τ := th0 v) rfl).symm
    · exact (congrArg (fun y => some (cI 1 24 y)) arr_0).trans (hm_at (t := (44, 0)) (τ := th0 v) rfl).symm
    · exact (congrArg (fun y => some (cI 0 66 y)) arr_0).trans (hm_at (t := (46, 0)) (τ := th0 v) rfl).symm
    · exact (congrArg (fun y => some (cI 0 66 y)) arr_0).trans (hm_at (t := (47, 0)) (τ := th0 v) rfl).symm
    · exact (congrArg (fun y => some (cI 0 82 y)) arr_0).trans (hm_at (t := (50, 0)) (τ := th0 v) rfl).symm
    · exact (congrArg (fun y => some (cI 0 164 y)) arr_0).trans (hm_at (t := (51, 0)) (τ := th0 v) rfl).symm
    · exact (congrArg (fun y => some (cI 0 984 y)) arr_0).trans (hm_at (t := (52, 0)) (τ := th0 v) rfl).symm
    · exact (congrArg (fun y => some (cI 0 1968 y)) arr_0).trans (hm_at (t := (53, 0)) (τ := th0 v) rfl).symm
    · exact (congrArg (fun y => some (cI 0 984 y)) arr_0).trans (hm_at (t := (54, 0)) (τ := th0 v) rfl).symm
    · exact (congrArg (fun y => some (cI 0 7872 y)) arr_0).trans (hm_at (t := (55, 0)) (τ := th0 v) rfl).symm
    · exact (congrArg (fun y => some (cI 0 7872 y)) arr_0).trans (hm_at (t := (56, 0)) (τ := th0 v) rfl).symm
    · exact (congrArg (fun y => some (cI 0 2 y)) arr_0).trans (hm_at (t := (58, 0)) (τ := th0 v) rfl).symm
    · exact (congrArg (fun y => some (cI 0 32 y)) arr_0).trans (hm_at (t := (62, 0)) (τ := th0 v) rfl).symm
    · exact (congrArg (fun y => some (cI 1 32 y)) arr_0).trans (hm_at (t := (63, 0)) (τ := th0 v) rfl).symm
    · exact (congrArg (fun y => some (cI 0 16 y)) arr_0).trans (hm_at (t := (68, 0)) (τ := th0 v) rfl).symm
    · exact (congrArg (fun y => some (cI 0 12 y)) arr_0).trans (hm_at (t := (69, 0)) (τ := th0 v) rfl).symm
    · exact (congrArg (fun y => some (cI 0 12 y)) arr_0).trans (hm_at (t := (70, 0)) (τ := th0 v) rfl).symm
    · exact (congrArg (fun y => some (cI 0 12 y)) arr_0).trans (hm_at (t := (71, 0)) (τ := th0 v) rfl).symm
    · exact (congrArg (fun y => some (cI 0 12 y)) arr_0).trans (hm_at (t := (72, 0)) (τ := th0 v) rfl).symm
  · have n : ∀ i, (i = 20 ∨ i = 42 ∨ i = 43 ∨ i = 44 ∨ i = 46 ∨ i = 47 ∨ i = 50 ∨ i = 51 ∨ i = 52 ∨ i = 53 ∨ i = 54 ∨ i = 55 ∨ i = 56 ∨ i = 58 ∨ i = 62 ∨ i = 63 ∨ i = 68 ∨ i = 69 ∨ i = 70 ∨ i = 71 ∨ i = 72) → t ≠ ((i, 0) : Tg) := fun i q e => hc (by
      rcases q with rfl | rfl | rfl | rfl | rfl | rfl | rfl | rfl | rfl | rfl | rfl | rfl | rfl | rfl | rfl | rfl | rfl | rfl | rfl | rfl | rfl
      · exact Or.inl (e)
      · exact Or.inr (Or.inl (e))
      · exact Or.inr (Or.inr (Or.inl (e)))
      · exact Or.inr (Or.inr (Or.inr (Or.inl (e))))
      · exact Or.inr (Or.inr (Or.inr (Or.inr (Or.inl (e)))))
      · exact Or.inr (Or.inr (Or.inr (Or.inr (Or.inr (Or.inl (e))))))
      · exact Or.inr (Or.inr (Or.inr (Or.inr (Or.inr (Or.inr (Or.inl (e)))))))
      · exact Or.inr (Or.inr (Or.inr (Or.inr (Or.inr (Or.inr (Or.inr (Or.inl (e))))))))
      · exact Or.inr (Or.inr (Or.inr (Or.inr (Or.inr (Or.inr (Or.inr (Or.inr (Or.inl (e)))))))))
      · exact Or.inr (Or.inr (Or.inr (Or.inr (Or.inr (Or.inr (Or.inr (Or.inr (Or.inr (Or.inl (e))))))))))
      · exact Or.inr (Or.inr (Or.inr (Or.inr (Or.inr (Or.inr (Or.inr (Or.inr (Or.inr (Or.inr (Or.inl (e)))))))))))
      · exact Or.inr (Or.inr (Or.inr (Or.inr (Or.inr (Or.inr (Or.inr (Or.inr (Or.inr (Or.inr (Or.inr (Or.inl (e))))))))))))
      · exact Or.inr (Or.inr (Or.inr (Or.inr (Or.inr (Or.inr (Or.inr (Or.inr (Or.inr (Or.inr (Or.inr (Or.inr (Or.inl (e)))))))))))))
      · exact Or.inr (Or.inr (Or.inr (Or.inr (Or.inr (Or.inr (Or.inr (Or.inr (Or.inr (Or.inr (Or.inr (Or.inr (Or.inr (Or.inl (e))))))))))))))
      · exact Or.inr (Or.inr (Or.inr (Or.inr (Or.inr (Or.inr (Or.inr (Or.inr (Or.inr (Or.inr (Or.inr (Or.inr (Or.inr (Or.inr (Or.inl (e)))))))))))))))
      · exact Or.inr (Or.inr (Or.inr (Or.inr (Or.inr (Or.inr (Or.inr (Or.inr (Or.inr (Or.inr (Or.inr (Or.inr (Or.inr (Or.inr (Or.inr (Or.inl (e))))))))))))))))
      · exact Or.inr (Or.inr (Or.inr (Or.inr (Or.inr (Or.inr (Or.inr (Or.inr (Or.inr (Or.inr (Or.inr (Or.inr (Or.inr (Or.inr (Or.inr (Or.inr (Or.inl (e)))))))))))))))))
      · exact Or.inr (Or.inr (Or.inr (Or.inr (Or.inr (Or.inr (Or.inr (Or.inr (Or.inr (Or.inr (Or.inr (Or.inr (Or.inr (Or.inr (Or.inr (Or.inr (Or.inr (Or.inl (e))))))))))))))))))
      · exact Or.inr (Or.inr (Or.inr (Or.inr (Or.inr (Or.inr (Or.inr (Or.inr (Or.inr (Or.inr (Or.inr (Or.inr (Or.inr (Or.inr (Or.inr (Or.inr (Or.inr (Or.inr (Or.inl (e)))))))))))))))))))
      · exact Or.inr (Or.inr (Or.inr (Or.inr (Or.inr (Or.inr (Or.inr (Or.inr (Or.inr (Or.inr (Or.inr (Or.inr (Or.inr (Or.inr (Or.inr (Or.inr (Or.inr (Or.inr (Or.inr (Or.inl (e))))))))))))))))))))
      · exact Or.inr (Or.inr (Or.inr (Or.inr (Or.inr (Or.inr (Or.inr (Or.inr (Or.inr (Or.inr (Or.inr (Or.inr (Or.inr (Or.inr (Or.inr (Or.inr (Or.inr (Or.inr (Or.inr (Or.inr (e)))))))))))))))))))))
    rw [hup_n (n 20 (by decide)), hup_n (n 72 (by decide)), hup_n (n 71 (by decide)), hup_n (n 70 (by decide)), hup_n (n 69 (by decide)), hup_n (n 68 (by decide)), hup_n (n 63 (by decide)), hup_n (n 62 (by decide)), hup_n (n 58 (by decide)), hup_n (n 56 (by decide)), hup_n (n 55 (by decide)), hup_n (n 54 (by decide)), hup_n (n 53 (by decide)), hup_n (n 52 (by decide)), hup_n (n 51 (by decide)), hup_n (n 50 (by decide)), hup_n (n 47 (by decide)), hup_n (n 46 (by decide)), hup_n (n 44 (by decide)), hup_n (n 43 (by decide)), hup_n (n 42 (by decide))]
    unfold hm HMd
    rw [if_neg (n 20 (by decide)), if_neg (fun q => by
      obtain ⟨q1, q2, q3⟩ := q
      have q4 := al_c q3
      exact n t.1 (by omega) (Prod.ext rfl q1))]
set_option maxRecDepth 100000 in
set_option maxHeartbeats 4000000 in
theorem cX8init {X : GX} {h : LH} {d : Int} (hd : rg d) (hf : ∀ k, aLen k ≠ 0 → h (40 + k, 0) = none) : CT X mX8_init [vR (some (20, 0)), vI (iI d)] (hup h (20, 0) (cO 8 [vI 0, vI 0, vR none, vR none, vR none, vI 0, vR none, vR none, vI 0, vI 0, vR none, vR none, vR none, vR none, vR none, vR none, vR none, vI 0, vR none, vI 0, vI 0, vI 0, vR none, vR none, vI 0, vI 0, vI 0, vI 0, vR none, vR none, vR none, vR none, vR none, vI 0])) (rQ (fun o h' => ∃ t, h' = hm h t ∧ o = none ∧ t = th0 (pI (¬ d = 0)))) := by
  refine CT_of (by decide +kernel) rfl (Nat.le_of_ble_eq_true rfl) ?_
  refine J_aload_n (M := mX8_init) dX8_init_0 rfl rfl ?_
  refine J_obj (M := mX8_init) dX8_init_1 ob_X8_1 ob_i ob_c (by decide) (by decide) ?_
  refine J_aload_n (M := mX8_init) dX8_init_4 rfl rfl ?_
  refine Z_bipush (M := mX8_init) dX8_init_5 rfl ?_
  refine J_le (M := mX8_init) (k' := 19 + 1) (n' := 20236 + 24) (by decide) (by decide) ?_
  refine J_newI (M := mX8_init) (t := (42, 0)) dX8_init_7 (by rw [iI_nI]; rfl) (by decide) aw_int ((hup_n (tg_ne (by decide))).trans (hf 2 (by decide))) (tg_ne (by decide)) ?_
  refine Z_h (M := mX8_init) (hup_cm (tg_ne (by decide))) ?_
  refine J_putFR (M := mX8_init) dX8_init_9 fi_X8_7 rfl rfl rfl hup_s (Nat.le_of_ble_eq_true rfl) ?_
  refine Z_h (M := mX8_init) hup_2 ?_
  refine J_aload_n (M := mX8_init) dX8_init_12 rfl rfl ?_
  refine Z_bipush (M := mX8_init) dX8_init_13 rfl ?_
  refine J_le (M := mX8_init) (k' := 18 + 1) (n' := 20212 + 24) (by decide) (by decide) ?_
  refine J_newI (M := mX8_init) (t := (43, 0)) dX8_init_15 (by rw [iI_nI]; rfl) (by decide) aw_int ((hup_n (tg_ne (by decide))).trans ((hup_n (tg_ne (by decide))).trans (hf 3 (by decide)))) (tg_ne (by decide)) ?_
  refine Z_h (M := mX8_init) (hup_cm (tg_ne (by decide))) ?_
  refine J_putFR (M := mX8_init) dX8_init_17 fi_X8_13 rfl rfl rfl hup_s (Nat.le_of_ble_eq_true rfl) ?_
  refine Z_h (M := mX8_init) hup_2 ?_
  refine J_aload_n (M := mX8_init) dX8_init_20 rfl rfl ?_
  refine Z_bipush (M := mX8_init) dX8_init_21 rfl ?_
  refine J_le (M := mX8_init) (k' := 17 + 1) (n' := 20188 + 24) (by decide) (by decide) ?_
  refine J_newZ (M := mX8_init) (t := (44, 0)) dX8_init_23 (by rw [iI_nI]; rfl) (by decide) aw_bool ((hup_n (tg_ne (by decide))).trans ((hup_n (tg_ne (by decide))).trans ((hup_n (tg_ne (by decide))).trans (hf 4 (by decide))))) (tg_ne (by decide)) ?_
  refine Z_h (M := mX8_init) (hup_cm (tg_ne (by decide))) ?_
  refine J_putFR (M := mX8_init) dX8_init_25 fi_X8_16 rfl rfl rfl hup_s (Nat.le_of_ble_eq_true rfl) ?_
  refine Z_h (M := mX8_init) hup_2 ?_
  refine J_aload_n (M := mX8_init) dX8_init_28 rfl rfl ?_
  refine Z_bipush (M := mX8_init) dX8_init_29 rfl ?_
  refine J_le (M := mX8_init) (k' := 16 + 1) (n' := 20122 + 66) (by decide) (by decide) ?_
  refine J_newI (M := mX8_init) (t := (46, 0)) dX8_init_31 (by rw [iI_nI]; rfl) (by decide) aw_int ((hup_n (tg_ne (by decide))).trans ((hup_n (tg_ne (by decide))).trans ((hup_n (tg_ne (by decide))).trans ((hup_n (tg_ne (by decide))).trans (hf 6 (by decide)))))) (tg_ne (by decide)) ?_
  refine Z_h (M := mX8_init) (hup_cm (tg_ne (by decide))) ?_
  refine J_putFR (M := mX8_init) dX8_init_33 fi_X8_20 rfl rfl rfl hup_s (Nat.le_of_ble_eq_true rfl) ?_
  refine Z_h (M := mX8_init) hup_2 ?_
  refine J_aload_n (M := mX8_init) dX8_init_36 rfl rfl ?_
  refine Z_bipush (M := mX8_init) dX8_init_37 rfl ?_
  refine J_le (M := mX8_init) (k' := 15 + 1) (n' := 20056 + 66) (by decide) (by decide) ?_
  refine J_newI (M := mX8_init) (t := (47, 0)) dX8_init_39 (by rw [iI_nI]; rfl) (by decide) aw_int ((hup_n (tg_ne (by decide))).trans ((hup_n (tg_ne (by decide))).trans ((hup_n (tg_ne (by decide))).trans ((hup_n (tg_ne (by decide))).trans ((hup_n (tg_ne (by decide))).trans (hf 7 (by decide))))))) (tg_ne (by decide)) ?_
  refine Z_h (M := mX8_init) (hup_cm (tg_ne (by decide))) ?_
  refine J_putFR (M := mX8_init) dX8_init_41 fi_X8_23 rfl rfl rfl hup_s (Nat.le_of_ble_eq_true rfl) ?_
  refine Z_h (M := mX8_init) hup_2 ?_
  refine J_aload_n (M := mX8_init) dX8_init_44 rfl rfl ?_
  refine Z_bipush (M := mX8_init) dX8_init_45 rfl ?_
  refine J_le (M := mX8_init) (k' := 14 + 1) (n' := 19974 + 82) (by decide) (by decide) ?_
  refine J_newI (M := mX8_init) (t := (50, 0)) dX8_init_47 (by rw [iI_nI]; rfl) (by decide) aw_int ((hup_n (tg_ne (by decide))).trans ((hup_n (tg_ne (by decide))).trans ((hup_n (tg_ne (by decide))).trans ((hup_n (tg_ne (by decide))).trans ((hup_n (tg_ne (by decide))).trans ((hup_n (tg_ne (by decide))).trans (hf 10 (by decide)))))))) (tg_ne (by decide)) ?_
  refine Z_h (M := mX8_init) (hup_cm (tg_ne (by decide))) ?_
  refine J_putFR (M := mX8_init) dX8_init_49 fi_X8_26 rfl rfl rfl hup_s (Nat.le_of_ble_eq_true rfl) ?_
  refine Z_h (M := mX8_init) hup_2 ?_
  refine J_aload_n (M := mX8_init) dX8_init_52 rfl rfl ?_
  refine Z_sipush (M := mX8_init) dX8_init_53 rfl ?_
  refine J_le (M := mX8_init) (k' := 13 + 1) (n' := 19810 + 164) (by decide) (by decide) ?_
  refine J_newI (M := mX8_init) (t := (51, 0)) dX8_init_56 (by rw [iI_nI]; rfl) (by decide) aw_int ((hup_n (tg_ne (by decide))).trans ((hup_n (tg_ne (by decide))).trans ((hup_n (tg_ne (by decide))).trans ((hup_n (tg_ne (by decide))).trans ((hup_n (tg_ne (by decide))).trans ((hup_n (tg_ne (by decide))).trans ((hup_n (tg_ne (by decide))).trans (hf 11 (by decide))))))))) (tg_ne (by decide)) ?_
  refine Z_h (M := mX8_init) (hup_cm (tg_ne (by decide))) ?_
  refine J_putFR (M := mX8_init) dX8_init_58 fi_X8_29 rfl rfl rfl hup_s (Nat.le_of_ble_eq_true rfl) ?_
  refine Z_h (M := mX8_init) hup_2 ?_
  refine J_aload_n (M := mX8_init) dX8_init_61 rfl rfl ?_
  refine Z_sipush (M := mX8_init) dX8_init_62 rfl ?_
  refine J_le (M := mX8_init) (k' := 12 + 1) (n' := 18826 + 984) (by decide) (by decide) ?_
  refine J_newI (M := mX8_init) (t := (52, 0)) dX8_init_65 (by rw [iI_nI]; rfl) (by decide) aw_int ((hup_n (tg_ne (by decide))).trans ((hup_n (tg_ne (by decide))).trans ((hup_n (tg_ne (by decide))).trans ((hup_n (tg_ne (by decide))).trans ((hup_n (tg_ne (by decide))).trans ((hup_n (tg_ne (by decide))).trans ((hup_n (tg_ne (by decide))).trans ((hup_n (tg_ne (by decide))).trans (hf 12 (by decide)))))))))) (tg_ne (by decide)) ?_
  refine Z_h (M := mX8_init) (hup_cm (tg_ne (by decide))) ?_
  refine J_putFR (M := mX8_init) dX8_init_67 fi_X8_32 rfl rfl rfl hup_s (Nat.le_of_ble_eq_true rfl) ?_
  refine Z_h (M := mX8_init) hup_2 ?_
  refine J_aload_n (M := mX8_init) dX8_init_70 rfl rfl ?_
  refine Z_sipush (M := mX8_init) dX8_init_71 rfl ?_
  refine J_le (M := mX8_init) (k' := 11 + 1) (n' := 16858 + 1968) (by decide) (by decide) ?_
  refine J_newI (M := mX8_init) (t := (53, 0)) dX8_init_74 (by rw [iI_nI]; rfl) (by decide) aw_int ((hup_n (tg_ne (by decide))).trans ((hup_n (tg_ne (by decide))).trans ((hup_n (tg_ne (by decide))).trans ((hup_n (tg_ne (by decide))).trans ((hup_n (tg_ne (by decide))).trans ((hup_n (tg_ne (by decide))).trans ((hup_n (tg_ne (by decide))).trans ((hup_n (tg_ne (by decide))).trans ((hup_n (tg_ne (by decide))).trans (hf 13 (by decide))))))))))) (tg_ne (by decide)) ?_
  refine Z_h (M := mX8_init) (hup_cm (tg_ne (by decide))) ?_
  refine J_putFR (M := mX8_init) dX8_init_76 fi_X8_35 rfl rfl rfl hup_s (Nat.le_of_ble_eq_true rfl) ?_
  refine Z_h (M := mX8_init) hup_2 ?_
  refine J_aload_n (M := mX8_init) dX8_init_79 rfl rfl ?_
  refine Z_sipush (M := mX8_init) dX8_init_80 rfl ?_
  refine J_le (M := mX8_init) (k' := 10 + 1) (n' := 15874 + 984) (by decide) (by decide) ?_
  refine J_newI (M := mX8_init) (t := (54, 0)) dX8_init_83 (by rw [iI_nI]; rfl) (by decide) aw_int ((hup_n (tg_ne (by decide))).trans ((hup_n (tg_ne (by decide))).trans ((hup_n (tg_ne (by decide))).trans ((hup_n (tg_ne (by decide))).trans ((hup_n (tg_ne (by decide))).trans ((hup_n (tg_ne (by decide))).trans ((hup_n (tg_ne (by decide))).trans ((hup_n (tg_ne (by decide))).trans ((hup_n (tg_ne (by decide))).trans ((hup_n (tg_ne (by decide))).trans (hf 14 (by decide)))))))))))) (tg_ne (by decide)) ?_
  refine Z_h (M := mX8_init) (hup_cm (tg_ne (by decide))) ?_
  refine J_putFR (M := mX8_init) dX8_init_85 fi_X8_38 rfl rfl rfl hup_s (Nat.le_of_ble_eq_true rfl) ?_
  refine Z_h (M := mX8_init) hup_2 ?_
  refine J_aload_n (M := mX8_init) dX8_init_88 rfl rfl ?_
  refine Z_sipush (M := mX8_init) dX8_init_89 rfl ?_
  refine J_le (M := mX8_init) (k' := 9 + 1) (n' := 8002 + 7872) (by decide) (by decide) ?_
  refine J_newI (M := mX8_init) (t := (55, 0)) dX8_init_92 (by rw [iI_nI]; rfl) (by decide) aw_int ((hup_n (tg_ne (by decide))).trans ((hup_n (tg_ne (by decide))).trans ((hup_n (tg_ne (by decide))).trans ((hup_n (tg_ne (by decide))).trans ((hup_n (tg_ne (by decide))).trans ((hup_n (tg_ne (by decide))).trans ((hup_n (tg_ne (by decide))).trans ((hup_n (tg_ne (by decide))).trans ((hup_n (tg_ne (by decide))).trans ((hup_n (tg_ne (by decide))).trans ((hup_n (tg_ne (by decide))).trans (hf 15 (by decide))))))))))))) (tg_ne (by decide)) ?_
  refine Z_h (M := mX8_init) (hup_cm (tg_ne (by decide))) ?_
  refine J_putFR (M := mX8_init) dX8_init_94 fi_X8_41 rfl rfl rfl hup_s (Nat.le_of_ble_eq_true rfl) ?_
  refine Z_h (M := mX8_init) hup_2 ?_
  refine J_aload_n (M := mX8_init) dX8_init_97 rfl rfl ?_
  refine Z_sipush (M := mX8_init) dX8_init_98 rfl ?_
  refine J_le (M := mX8_init) (k' := 8 + 1) (n' := 130 + 7872) (by decide) (by decide) ?_
  refine J_newI (M := mX8_init) (t := (56, 0)) dX8_init_101 (by rw [iI_nI]; rfl) (by decide) aw_int ((hup_n (tg_ne (by decide))).trans ((hup_n (tg_ne (by decide))).trans ((hup_n (tg_ne (by decide))).trans ((hup_n (tg_ne (by decide))).trans ((hup_n (tg_ne (by decide))).trans ((hup_n (tg_ne (by decide))).trans ((hup_n (tg_ne (by decide))).trans ((hup_n (tg_ne (by decide))).trans ((hup_n (tg_ne (by decide))).trans ((hup_n (tg_ne (by decide))).trans ((hup_n (tg_ne (by decide))).trans ((hup_n (tg_ne (by decide))).trans (hf 16 (by decide)))))))))))))) (tg_ne (by decide)) ?_
  refine Z_h (M := mX8_init) (hup_cm (tg_ne (by decide))) ?_
  refine J_putFR (M := mX8_init) dX8_init_103 fi_X8_44 rfl rfl rfl hup_s (Nat.le_of_ble_eq_true rfl) ?_
  refine Z_h (M := mX8_init) hup_2 ?_
  refine J_aload_n (M := mX8_init) dX8_init_106 rfl rfl ?_
  refine Z_iconst (M := mX8_init) dX8_init_107 ?_
  refine J_putI (M := mX8_init) dX8_init_108 fi_X8_47 hup_s (Nat.le_of_ble_eq_true rfl) ?_
  refine Z_h (M := mX8_init) hup_2 ?_
  refine J_aload_n (M := mX8_init) dX8_init_111 rfl rfl ?_
  refine Z_iconst (M := mX8_init) dX8_init_112 ?_
  refine J_le (M := mX8_init) (k' := 7 + 1) (n' := 128 + 2) (by decide) (by decide) ?_
  refine J_newI (M := mX8_init) (t := (58, 0)) dX8_init_113 (by rw [iI_nI]; rfl) (by decide) aw_int ((hup_n (tg_ne (by decide))).trans ((hup_n (tg_ne (by decide))).trans ((hup_n (tg_ne (by decide))).trans ((hup_n (tg_ne (by decide))).trans ((hup_n (tg_ne (by decide))).trans ((hup_n (tg_ne (by decide))).trans ((hup_n (tg_ne (by decide))).trans ((hup_n (tg_ne (by decide))).trans ((hup_n (tg_ne (by decide))).trans ((hup_n (tg_ne (by decide))).trans ((hup_n (tg_ne (by decide))).trans ((hup_n (tg_ne (by decide))).trans ((hup_n (tg_ne (by decide))).trans (hf 18 (by decide))))))))))))))) (tg_ne (by decide)) ?_
  refine Z_h (M := mX8_init) (hup_cm (tg_ne (by decide))) ?_
  refine J_putFR (M := mX8_init) dX8_init_115 fi_X8_51 rfl rfl rfl hup_s (Nat.le_of_ble_eq_true rfl) ?_
  refine Z_h (M := mX8_init) hup_2 ?_
  refine J_aload_n (M := mX8_init) dX8_init_118 rfl rfl ?_
  refine Z_bipush (M := mX8_init) dX8_init_119 rfl ?_
  refine J_le (M := mX8_init) (k' := 6 + 1) (n' := 96 + 32) (by decide) (by decide) ?_
  refine J_newI (M := mX8_init) (t := (62, 0)) dX8_init_121 (by rw [iI_nI]; rfl) (by decide) aw_int ((hup_n (tg_ne (by decide))).trans ((hup_n (tg_ne (by decide))).trans ((hup_n (tg_ne (by decide))).trans ((hup_n (tg_ne (by decide))).trans ((hup_n (tg_ne (by decide))).trans ((hup_n (tg_ne (by decide))).trans ((hup_n (tg_ne (by decide))).trans ((hup_n (tg_ne (by decide))).trans ((hup_n (tg_ne (by decide))).trans ((hup_n (tg_ne (by decide))).trans ((hup_n (tg_ne (by decide))).trans ((hup_n (tg_ne (by decide))).trans ((hup_n (tg_ne (by decide))).trans ((hup_n (tg_ne (by decide))).trans (hf 22 (by decide)))))))))))))))) (tg_ne (by decide)) ?_
  refine Z_h (M := mX8_init) (hup_cm (tg_ne (by decide))) ?_
  refine J_putFR (M := mX8_init) dX8_init_123 fi_X8_54 rfl rfl rfl hup_s (Nat.le_of_ble_eq_true rfl) ?_
  refine Z_h (M := mX8_init) hup_2 ?_
  refine J_aload_n (M := mX8_init) dX8_init_126 rfl rfl ?_
  refine Z_bipush (M := mX8_init) dX8_init_127 rfl ?_
  refine J_le (M := mX8_init) (k' := 5 + 1) (n' := 64 + 32) (by decide) (by decide) ?_
  refine J_newZ (M := mX8_init) (t := (63, 0)) dX8_init_129 (by rw [iI_nI]; rfl) (by decide) aw_bool ((hup_n (tg_ne (by decide))).trans ((hup_n (tg_ne (by decide))).trans ((hup_n (tg_ne (by decide))).trans ((hup_n (tg_ne (by decide))).trans ((hup_n (tg_ne (by decide))).trans ((hup_n (tg_ne (by decide))).trans ((hup_n (tg_ne (by decide))).trans ((hup_n (tg_ne (by decide))).trans ((hup_n (tg_ne (by decide))).trans ((hup_n (tg_ne (by decide))).trans ((hup_n (tg_ne (by decide))).trans ((hup_n (tg_ne (by decide))).trans ((hup_n (tg_ne (by decide))).trans ((hup_n (tg_ne (by decide))).trans ((hup_n (tg_ne (by decide))).trans (hf 23 (by decide))))))))))))))))) (tg_ne (by decide)) ?_
  refine Z_h (M := mX8_init) (hup_cm (tg_ne (by decide))) ?_
  refine J_putFR (M := mX8_init) dX8_init_131 fi_X8_57 rfl rfl rfl hup_s (Nat.le_of_ble_eq_true rfl) ?_
  refine Z_h (M := mX8_init) hup_2 ?_
  refine J_aload_n (M := mX8_init) dX8_init_134 rfl rfl ?_
  refine Z_bipush (M := mX8_init) dX8_init_135 rfl ?_
  refine J_le (M := mX8_init) (k' := 4 + 1) (n' := 48 + 16) (by decide) (by decide) ?_
  refine J_newI (M := mX8_init) (t := (68, 0)) dX8_init_137 (by rw [iI_nI]; rfl) (by decide) aw_int ((hup_n (tg_ne (by decide))).trans ((hup_n (tg_ne (by decide))).trans ((hup_n (tg_ne (by decide))).trans ((hup_n (tg_ne (by decide))).trans ((hup_n (tg_ne (by decide))).trans ((hup_n (tg_ne (by decide))).trans ((hup_n (tg_ne (by decide))).trans ((hup_n (tg_ne (by decide))).trans ((hup_n (tg_ne (by decide))).trans ((hup_n (tg_ne (by decide))).trans ((hup_n (tg_ne (by decide))).trans ((hup_n (tg_ne (by decide))).trans ((hup_n (tg_ne (by decide))).trans ((hup_n (tg_ne (by decide))).trans ((hup_n (tg_ne (by decide))).trans ((hup_n (tg_ne (by decide))).trans (hf 28 (by decide)))))))))))))))))) (tg_ne (by decide)) ?_
  refine Z_h (M := mX8_init) (hup_cm (tg_ne (by decide))) ?_
  refine J_putFR (M := mX8_init) dX8_init_139 fi_X8_60 rfl rfl rfl hup_s (Nat.le_of_ble_eq_true rfl) ?_
  refine Z_h (M := mX8_init) hup_2 ?_
  refine J_aload_n (M := mX8_init) dX8_init_142 rfl rfl ?_
  refine Z_bipush (M := mX8_init) dX8_init_143 rfl ?_
  refine J_le (M := mX8_init) (k' := 3 + 1) (n' := 36 + 12) (by decide) (by decide) ?_
  refine J_newI (M := mX8_init) (t := (69, 0)) dX8_init_145 (by rw [iI_nI]; rfl) (by decide) aw_int ((hup_n (tg_ne (by decide))).trans ((hup_n (tg_ne (by decide))).trans ((hup_n (tg_ne (by decide))).trans ((hup_n (tg_ne (by decide))).trans ((hup_n (tg_ne (by decide))).trans ((hup_n (tg_ne (by decide))).trans ((hup_n (tg_ne (by decide))).trans ((hup_n (tg_ne (by decide))).trans ((hup_n (tg_ne (by decide))).trans ((hup_n (tg_ne (by decide))).trans ((hup_n (tg_ne (by decide))).trans ((hup_n (tg_ne (by decide))).trans ((hup_n (tg_ne (by decide))).trans ((hup_n (tg_ne (by decide))).trans ((hup_n (tg_ne (by decide))).trans ((hup_n (tg_ne (by decide))).trans ((hup_n (tg_ne (by decide))).trans (hf 29 (by decide))))))))))))))))))) (tg_ne (by decide)) ?_
  refine Z_h (M := mX8_init) (hup_cm (tg_ne (by decide))) ?_
  refine J_putFR (M := mX8_init) dX8_init_147 fi_X8_63 rfl rfl rfl hup_s (Nat.le_of_ble_eq_true rfl) ?_
  refine Z_h (M := mX8_init) hup_2 ?_
  refine J_aload_n (M := mX8_init) dX8_init_150 rfl rfl ?_
  refine Z_bipush (M := mX8_init) dX8_init_151 rfl ?_
  refine J_le (M := mX8_init) (k' := 2 + 1) (n' := 24 + 12) (by decide) (by decide) ?_
  refine J_newI (M := mX8_init) (t := (70, 0)) dX8_init_153 (by rw [iI_nI]; rfl) (by decide) aw_int ((hup_n (tg_ne (by decide))).trans ((hup_n (tg_ne (by decide))).trans ((hup_n (tg_ne (by decide))).trans ((hup_n (tg_ne (by decide))).trans ((hup_n (tg_ne (by decide))).trans ((hup_n (tg_ne (by decide))).trans ((hup_n (tg_ne (by decide))).trans ((hup_n (tg_ne (by decide))).trans ((hup_n (tg_ne (by decide))).trans ((hup_n (tg_ne (by decide))).trans ((hup_n (tg_ne (by decide))).trans ((hup_n (tg_ne (by decide))).trans ((hup_n (tg_ne (by decide))).trans ((hup_n (tg_ne (by decide))).trans ((hup_n (tg_ne (by decide))).trans ((hup_n (tg_ne (by decide))).trans ((hup_n (tg_ne (by decide))).trans ((hup_n (tg_ne (by decide))).trans (hf 30 (by decide)))))))))))))))))))) (tg_ne (by decide)) ?_
  refine Z_h (M := mX8_init) (hup_cm (tg_ne (by decide))) ?_
  refine J_putFR (M := mX8_init) dX8_init_155 fi_X8_66 rfl rfl rfl hup_s (Nat.le_of_ble_eq_true rfl) ?_
  refine Z_h (M := mX8_init) hup_2 ?_
  refine J_aload_n (M := mX8_init) dX8_init_158 rfl rfl ?_
  refine Z_bipush (M := mX8_init) dX8_init_159 rfl ?_
  refine J_le (M := mX8_init) (k' := 1 + 1) (n' := 12 + 12) (by decide) (by decide) ?_
  refine J_newI (M := mX8_init) (t := (71, 0)) dX8_init_161 (by rw [iI_nI]; rfl) (by decide) aw_int ((hup_n (tg_ne (by decide))).trans ((hup_n (tg_ne (by decide))).trans ((hup_n (tg_ne (by decide))).trans ((hup_n (tg_ne (by decide))).trans ((hup_n (tg_ne (by decide))).trans ((hup_n (tg_ne (by decide))).trans ((hup_n (tg_ne (by decide))).trans ((hup_n (tg_ne (by decide))).trans ((hup_n (tg_ne (by decide))).trans ((hup_n (tg_ne (by decide))).trans ((hup_n (tg_ne (by decide))).trans ((hup_n (tg_ne (by decide))).trans ((hup_n (tg_ne (by decide))).trans ((hup_n (tg_ne (by decide))).trans ((hup_n (tg_ne (by decide))).trans ((hup_n (tg_ne (by decide))).trans ((hup_n (tg_ne (by decide))).trans ((hup_n (tg_ne (by decide))).trans ((hup_n (tg_ne (by decide))).trans (hf 31 (by decide))))))))))))))))))))) (tg_ne (by decide)) ?_
  refine Z_h (M := mX8_init) (hup_cm (tg_ne (by decide))) ?_
  refine J_putFR (M := mX8_init) dX8_init_163 fi_X8_69 rfl rfl rfl hup_s (Nat.le_of_ble_eq_true rfl) ?_
  refine Z_h (M := mX8_init) hup_2 ?_
  refine J_aload_n (M := mX8_init) dX8_init_166 rfl rfl ?_
  refine Z_bipush (M := mX8_init) dX8_init_167 rfl ?_
  refine J_le (M := mX8_init) (k' := 0 + 1) (n' := 0 + 12) (by decide) (by decide) ?_
  refine J_newI (M := mX8_init) (t := (72, 0)) dX8_init_169 (by rw [iI_nI]; rfl) (by decide) aw_int ((hup_n (tg_ne (by decide))).trans ((hup_n (tg_ne (by decide))).trans ((hup_n (tg_ne (by decide))).trans ((hup_n (tg_ne (by decide))).trans ((hup_n (tg_ne (by decide))).trans ((hup_n (tg_ne (by decide))).trans ((hup_n (tg_ne (by decide))).trans ((hup_n (tg_ne (by decide))).trans ((hup_n (tg_ne (by decide))).trans ((hup_n (tg_ne (by decide))).trans ((hup_n (tg_ne (by decide))).trans ((hup_n (tg_ne (by decide))).trans ((hup_n (tg_ne (by decide))).trans ((hup_n (tg_ne (by decide))).trans ((hup_n (tg_ne (by decide))).trans ((hup_n (tg_ne (by decide))).trans ((hup_n (tg_ne (by decide))).trans ((hup_n (tg_ne (by decide))).trans ((hup_n (tg_ne (by decide))).trans ((hup_n (tg_ne (by decide))).trans (hf 32 (by decide)))))))))))))))))))))) (tg_ne (by decide)) ?_
  refine Z_h (M := mX8_init) (hup_cm (tg_ne (by decide))) ?_
  refine J_putFR (M := mX8_init) dX8_init_171 fi_X8_72 rfl rfl rfl hup_s (Nat.le_of_ble_eq_true rfl) ?_
  refine Z_h (M := mX8_init) hup_2 ?_
  refine J_aload_n (M := mX8_init) dX8_init_174 rfl rfl ?_
  refine Z_bj (M := mX8_init) (pcB := 184) (¬ d = 0) (fun hj_184 => ?_) ?_
  · refine J_iload_n (M := mX8_init) dX8_init_175 rfl rfl ?_
    first
      | refine Z_pf (M := mX8_init) (tgt := 183) dX8_init_176 (by decide) (fun c_176 => ?_) (fun c_176 => ?_)
      | refine Z_if_eq (M := mX8_init) (tgt := 183) (by first | assumption | exact pI_rg _ | (unfold rg; omega)) dX8_init_176 (by decide) (fun c_176 => ?_) (fun c_176 => ?_)
    · refine Z_iconst (M := mX8_init) dX8_init_183 ?_
      exact hj_184 _ (pI_f (by omega)).symm
    · refine Z_iconst (M := mX8_init) dX8_init_179 ?_
      refine J_goto (M := mX8_init) (tgt := 184) dX8_init_180 (by decide) ?_
      exact hj_184 _ (pI_t (by omega)).symm
  refine J_putFZ (M := mX8_init) dX8_init_184 fi_X8_75 rfl rfl (pI_zb _) hup_s (Nat.le_of_ble_eq_true rfl) ?_
  refine Z_h (M := mX8_init) hup_2 ?_
  refine Z_h (M := mX8_init) mh_e ?_
  refine J_vret (M := mX8_init) dX8_init_187 rfl ?_
  exact ⟨_, rfl, rfl, rfl⟩
