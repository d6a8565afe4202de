/-! THE LAW: its loop and its whole body -/
set_option maxRecDepth 100000 in
set_option maxHeartbeats 4000000 in
theorem lp {X : GX} {k n : Nat} (hL : xL X ≤ 2049) : ∀ (m : Nat) (i c : Int) (f : Nat → Int64) (ρ τ : TS), (1 ≤ i ∧ i ≤ 1 + 4 * c) → xL X < i + 4 + 4 * m → (0 ≤ c ∧ c + m ≤ 90000) → RR ρ τ c → J X mL_law 33 [some (vR (some tScr)), some (vR (some (1, 0))), some (vR (some (20, 0))), some (vR (some (30, 0))), some (vI (iI i)), none, none] [] (HL f ρ τ) (k + 800 * m) (n + 6200 * m) (fun o _ => o = rt (vI 1)) := by
  intro m
  induction m with
  | zero =>
    intro i c f ρ τ h0 h1 h2 R
    refine J_iload (M := mL_law) dL_law_33 rfl ?_
    refine J_aload_n (M := mL_law) dL_law_35 rfl rfl ?_
    refine Z_slen (M := mL_law) dL_law_36 ?_
    refine Z_iconst (M := mL_law) dL_law_37 ?_
    refine Z_isub (M := mL_law) dL_law_38 ?_
    refine Z_ic_gt (M := mL_law) (tgt := 1875) (by unfold rg; omega) (by unfold rg; omega) dL_law_39 (by decide) (fun c_39 => ?_) (fun c_39 => ?_)
    · refine Z_iconst (M := mL_law) dL_law_1875 ?_
      refine J_zret (M := mL_law) dL_law_1876 rfl (zb_of (Or.inr rfl)) ?_
      rw [iI_1]
    · refine J_aload_n (M := mL_law) dL_law_42 rfl rfl ?_
      refine J_iload (M := mL_law) dL_law_43 rfl ?_
      refine Z_sld (M := mL_law) dL_law_45 hL (by omega) (by omega) ?_
      refine Z_bipush (M := mL_law) dL_law_46 rfl ?_
      refine J_iand (M := mL_law) dL_law_48 ?_
      omega
  | succ m ih =>
    intro i c f ρ τ h0 h1 h2 R
    refine J_iload (M := mL_law) dL_law_33 rfl ?_
    refine J_aload_n (M := mL_law) dL_law_35 rfl rfl ?_
    refine Z_slen (M := mL_law) dL_law_36 ?_
    refine Z_iconst (M := mL_law) dL_law_37 ?_
    refine Z_isub (M := mL_law) dL_law_38 ?_
    refine Z_ic_gt (M := mL_law) (tgt := 1875) (by unfold rg; omega) (by unfold rg; omega) dL_law_39 (by decide) (fun c_39 => ?_) (fun c_39 => ?_)
    · refine Z_iconst (M := mL_law) dL_law_1875 ?_
      refine J_zret (M := mL_law) dL_law_1876 rfl (zb_of (Or.inr rfl)) ?_
      rw [iI_1]
    · refine J_aload_n (M := mL_law) dL_law_42 rfl rfl ?_
      refine J_iload (M := mL_law) dL_law_43 rfl ?_
      refine Z_sld (M := mL_law) dL_law_45 hL (by omega) (by omega) ?_
      refine Z_bipush (M := mL_law) dL_law_46 rfl ?_
      refine J_iand (M := mL_law) dL_law_48 ?_
      obtain ⟨y, hy⟩ : ∃ y, y = iI (sx X i) &&& iI 31 := ⟨_, rfl⟩
      have hb := and31 (iI (sx X i))
      rw [← hy] at hb ⊢
      have kk : ∀ f r u, RR r u (c + 1) → J X mL_law 1869 [some (vR (some tScr)), some (vR (some (1, 0))), some (vR (some (20, 0))), some (vR (some (30, 0))), some (vI (iI i)), none, none] [] (HL f r u) (k + 800 * m) (n + 6200 * m) (fun o _ => o = rt (vI 1)) := fun f r u R' => by
        refine Z_iinc (M := mL_law) dL_law_1869 rfl (by decide) ?_
        refine J_goto (M := mL_law) (tgt := 33) dL_law_1872 (by decide) ?_
        exact J_sub (ih (i + 4) (c + 1) f r u ⟨by omega, by omega⟩ (by omega) (by omega) R') (And.intro rfl (And.intro rfl (And.intro rfl (And.intro rfl (And.intro rfl trivial)))))
      refine J_le (M := mL_law) (k' := k + 800 * m + 800) (n' := n + 6200 * m + 6200) (by omega) (by omega) ?_
      have hcs : y.toInt = 0 ∨ y.toInt = 1 ∨ y.toInt = 2 ∨ y.toInt = 3 ∨ y.toInt = 4 ∨ y.toInt = 5 ∨ y.toInt = 6 ∨ y.toInt = 7 ∨ y.toInt = 8 ∨ y.toInt = 9 ∨ y.toInt = 10 ∨ y.toInt = 11 ∨ y.toInt = 12 ∨ y.toInt = 13 ∨ y.toInt = 14 ∨ y.toInt = 15 ∨ y.toInt = 16 ∨ y.toInt = 17 ∨ y.toInt = 18 ∨ y.toInt = 19 ∨ y.toInt = 20 ∨ y.toInt = 21 ∨ y.toInt = 22 ∨ y.toInt = 23 ∨ y.toInt = 24 ∨ y.toInt = 25 ∨ y.toInt = 26 ∨ y.toInt = 27 ∨ y.toInt = 28 ∨ y.toInt = 29 ∨ y.toInt = 30 ∨ y.toInt = 31 := by omega
      rcases hcs with e | e | e | e | e | e | e | e | e | e | e | e | e | e | e | e | e | e | e | e | e | e | e | e | e | e | e | e | e | e | e | e
      · exact J_swIn (M := mL_law) (off := 143) (tgt := 192) dL_law_49 (by omega) (by omega) (by rw [e]; rfl) (by decide) (J_sub (o_0 hL (by omega) (by omega) (by omega) R kk) (And.intro rfl (And.intro rfl (And.intro rfl (And.intro rfl (And.intro rfl trivial))))))
      · exact J_swIn (M := mL_law) (off := 187) (tgt := 236) dL_law_49 (by omega) (by omega) (by rw [e]; rfl) (by decide) (J_sub (o_1 hL (by omega) (by omega) (by omega) R kk) (And.intro rfl (And.intro rfl (And.intro rfl (And.intro rfl (And.intro rfl trivial))))))
      · exact J_swIn (M := mL_law) (off := 243) (tgt := 292) dL_law_49 (by omega) (by omega) (by rw [e]; rfl) (by decide) (J_sub (o_2 hL (by omega) (by omega) (by omega) R kk) (And.intro rfl (And.intro rfl (And.intro rfl (And.intro rfl (And.intro rfl trivial))))))
      · exact J_swIn (M := mL_law) (off := 330) (tgt := 379) dL_law_49 (by omega) (by omega) (by rw [e]; rfl) (by decide) (J_sub (o_3 hL (by omega) (by omega) (by omega) R kk) (And.intro rfl (And.intro rfl (And.intro rfl (And.intro rfl (And.intro rfl trivial))))))
      · exact J_swIn (M := mL_law) (off := 343) (tgt := 392) dL_law_49 (by omega) (by omega) (by rw [e]; rfl) (by decide) (J_sub (o_4 hL (by omega) (by omega) (by omega) R kk) (And.intro rfl (And.intro rfl (And.intro rfl (And.intro rfl (And.intro rfl trivial))))))
      · exact J_swIn (M := mL_law) (off := 399) (tgt := 448) dL_law_49 (by omega) (by omega) (by rw [e]; rfl) (by decide) (J_sub (o_5 hL (by omega) (by omega) (by omega) R kk) (And.intro rfl (And.intro rfl (And.intro rfl (And.intro rfl (And.intro rfl trivial))))))
      · exact J_swIn (M := mL_law) (off := 455) (tgt := 504) dL_law_49 (by omega) (by omega) (by rw [e]; rfl) (by decide) (J_sub (o_6 hL (by omega) (by omega) (by omega) R kk) (And.intro rfl (And.intro rfl (And.intro rfl (And.intro rfl (And.intro rfl trivial))))))
      · exact J_swIn (M := mL_law) (off := 535) (tgt := 584) dL_law_49 (by omega) (by omega) (by rw [e]; rfl) (by decide) (J_sub (o_7 hL (by omega) (by omega) (by omega) R kk) (And.intro rfl (And.intro rfl (And.intro rfl (And.intro rfl (And.intro rfl trivial))))))
      · exact J_swIn (M := mL_law) (off := 603) (tgt := 652) dL_law_49 (by omega) (by omega) (by rw [e]; rfl) (by decide) (J_sub (o_8 hL (by omega) (by omega) (by omega) R kk) (And.intro rfl (And.intro rfl (And.intro rfl (And.intro rfl (And.intro rfl trivial))))))
      · exact J_swIn (M := mL_law) (off := 647) (tgt := 696) dL_law_49 (by omega) (by omega) (by rw [e]; rfl) (by decide) (J_sub (o_9 hL (by omega) (by omega) (by omega) R kk) (And.intro rfl (And.intro rfl (And.intro rfl (And.intro rfl (And.intro rfl trivial))))))
      · exact J_swIn (M := mL_law) (off := 743) (tgt := 792) dL_law_49 (by omega) (by omega) (by rw [e]; rfl) (by decide) (J_sub (o_10 hL (by omega) (by omega) (by omega) R kk) (And.intro rfl (And.intro rfl (And.intro rfl (And.intro rfl (And.intro rfl trivial))))))
      · exact J_swIn (M := mL_law) (off := 811) (tgt := 860) dL_law_49 (by omega) (by omega) (by rw [e]; rfl) (by decide) (J_sub (o_11 hL (by omega) (by omega) (by omega) R kk) (And.intro rfl (And.intro rfl (And.intro rfl (And.intro rfl (And.intro rfl trivial))))))
      · exact J_swIn (M := mL_law) (off := 855) (tgt := 904) dL_law_49 (by omega) (by omega) (by rw [e]; rfl) (by decide) (J_sub (o_12 hL (by omega) (by omega) (by omega) R kk) (And.intro rfl (And.intro rfl (And.intro rfl (And.intro rfl (And.intro rfl trivial))))))
      · exact J_swIn (M := mL_law) (off := 923) (tgt := 972) dL_law_49 (by omega) (by omega) (by rw [e]; rfl) (by decide) (J_sub (o_13 hL (by omega) (by omega) (by omega) R kk) (And.intro rfl (And.intro rfl (And.intro rfl (And.intro rfl (And.intro rfl trivial))))))
      · exact J_swIn (M := mL_law) (off := 936) (tgt := 985) dL_law_49 (by omega) (by omega) (by rw [e]; rfl) (by decide) (J_sub (o_14 hL (by omega) (by omega) (by omega) R kk) (And.intro rfl (And.intro rfl (And.intro rfl (And.intro rfl (And.intro rfl trivial))))))
      · exact J_swIn (M := mL_law) (off := 949) (tgt := 998) dL_law_49 (by omega) (by omega) (by rw [e]; rfl) (by decide) (J_sub (o_15 hL (by omega) (by omega) (by omega) R kk) (And.intro rfl (And.intro rfl (And.intro rfl (And.intro rfl (And.intro rfl trivial))))))
      · exact J_swIn (M := mL_law) (off := 1005) (tgt := 1054) dL_law_49 (by omega) (by omega) (by rw [e]; rfl) (by decide) (J_sub (o_16 hL (by omega) (by omega) (by omega) R kk) (And.intro rfl (And.intro rfl (And.intro rfl (And.intro rfl (And.intro rfl trivial))))))
      · exact J_swIn (M := mL_law) (off := 1073) (tgt := 1122) dL_law_49 (by omega) (by omega) (by rw [e]; rfl) (by decide) (J_sub (o_17 hL (by omega) (by omega) (by omega) R kk) (And.intro rfl (And.intro rfl (And.intro rfl (And.intro rfl (And.intro rfl trivial))))))
      · exact J_swIn (M := mL_law) (off := 1141) (tgt := 1190) dL_law_49 (by omega) (by omega) (by rw [e]; rfl) (by decide) (J_sub (o_18 hL (by omega) (by omega) (by omega) R kk) (And.intro rfl (And.intro rfl (And.intro rfl (And.intro rfl (And.intro rfl trivial))))))
      · exact J_swIn (M := mL_law) (off := 1209) (tgt := 1258) dL_law_49 (by omega) (by omega) (by rw [e]; rfl) (by decide) (J_sub (o_19 hL (by omega) (by omega) (by omega) R kk) (And.intro rfl (And.intro rfl (And.intro rfl (And.intro rfl (And.intro rfl trivial))))))
      · exact J_swIn (M := mL_law) (off := 1265) (tgt := 1314) dL_law_49 (by omega) (by omega) (by rw [e]; rfl) (by decide) (J_sub (o_20 hL (by omega) (by omega) (by omega) R kk) (And.intro rfl (And.intro rfl (And.intro rfl (And.intro rfl (And.intro rfl trivial))))))
      · exact J_swIn (M := mL_law) (off := 1321) (tgt := 1370) dL_law_49 (by omega) (by omega) (by rw [e]; rfl) (by decide) (J_sub (o_21 hL (by omega) (by omega) (by omega) R kk) (And.intro rfl (And.intro rfl (And.intro rfl (And.intro rfl (And.intro rfl trivial))))))
      · exact J_swIn (M := mL_law) (off := 1389) (tgt := 1438) dL_law_49 (by omega) (by omega) (by rw [e]; rfl) (by decide) (J_sub (o_22 hL (by omega) (by omega) (by omega) R kk) (And.intro rfl (And.intro rfl (And.intro rfl (And.intro rfl (And.intro rfl trivial))))))
      · exact J_swIn (M := mL_law) (off := 1457) (tgt := 1506) dL_law_49 (by omega) (by omega) (by rw [e]; rfl) (by decide) (J_sub (o_23 hL (by omega) (by omega) (by omega) R kk) (And.intro rfl (And.intro rfl (And.intro rfl (And.intro rfl (And.intro rfl trivial))))))
      · exact J_swIn (M := mL_law) (off := 1513) (tgt := 1562) dL_law_49 (by omega) (by omega) (by rw [e]; rfl) (by decide) (J_sub (o_24 hL (by omega) (by omega) (by omega) R kk) (And.intro rfl (And.intro rfl (And.intro rfl (And.intro rfl (And.intro rfl trivial))))))
      · exact J_swIn (M := mL_law) (off := 1526) (tgt := 1575) dL_law_49 (by omega) (by omega) (by rw [e]; rfl) (by decide) (J_sub (o_25 hL (by omega) (by omega) (by omega) R kk) (And.intro rfl (And.intro rfl (And.intro rfl (And.intro rfl (And.intro rfl trivial))))))
      · exact J_swIn (M := mL_law) (off := 1582) (tgt := 1631) dL_law_49 (by omega) (by omega) (by rw [e]; rfl) (by decide) (J_sub (o_26 hL (by omega) (by omega) (by omega) R kk) (And.intro rfl (And.intro rfl (And.intro rfl (And.intro rfl (And.intro rfl trivial))))))
      · exact J_swIn (M := mL_law) (off := 1638) (tgt := 1687) dL_law_49 (by omega) (by omega) (by rw [e]; rfl) (by decide) (J_sub (o_27 hL (by omega) (by omega) (by omega) R kk) (And.intro rfl (And.intro rfl (And.intro rfl (And.intro rfl (And.intro rfl trivial))))))
      · exact J_swIn (M := mL_law) (off := 1694) (tgt := 1743) dL_law_49 (by omega) (by omega) (by rw [e]; rfl) (by decide) (J_sub (o_28 hL (by omega) (by omega) (by omega) R kk) (And.intro rfl (And.intro rfl (And.intro rfl (And.intro rfl (And.intro rfl trivial))))))
      · exact J_swIn (M := mL_law) (off := 1738) (tgt := 1787) dL_law_49 (by omega) (by omega) (by rw [e]; rfl) (by decide) (J_sub (o_29 hL (by omega) (by omega) (by omega) R kk) (And.intro rfl (And.intro rfl (And.intro rfl (And.intro rfl (And.intro rfl trivial))))))
      · exact J_swIn (M := mL_law) (off := 1751) (tgt := 1800) dL_law_49 (by omega) (by omega) (by rw [e]; rfl) (by decide) (J_sub (o_30 hL (by omega) (by omega) (by omega) R kk) (And.intro rfl (And.intro rfl (And.intro rfl (And.intro rfl (And.intro rfl trivial))))))
      · exact J_swIn (M := mL_law) (off := 1807) (tgt := 1856) dL_law_49 (by omega) (by omega) (by rw [e]; rfl) (by decide) (J_sub (o_31 hL (by omega) (by omega) (by omega) R kk) (And.intro rfl (And.intro rfl (And.intro rfl (And.intro rfl (And.intro rfl trivial))))))

noncomputable def cl0 (X : GX) : Int := @ite Int ((xL X : Int) ≤ 0) (Classical.propDecidable _) 0 (sx X 0)
theorem cl0_rg {X : GX} : rg (cl0 X) := by
  unfold cl0
  split
  · exact rg0
  · exact sx_rg
set_option maxRecDepth 100000 in
set_option maxHeartbeats 4000000 in
theorem l_cell {X : GX} {h : LH} (hL : xL X ≤ 2049) : CT X mL_cell [vR (some tScr), vI (iI 0)] h (rQ (fun v h' => v = some (vI (iI (cl0 X))) ∧ h' = h)) := by
  refine CT_of (by decide +kernel) rfl (Nat.le_of_ble_eq_true rfl) ?_
  refine J_iload_n (M := mL_cell) dL_cell_0 rfl rfl ?_
  refine J_aload_n (M := mL_cell) dL_cell_1 rfl rfl ?_
  refine Z_slen (M := mL_cell) dL_cell_2 ?_
  refine Z_ic_ge (M := mL_cell) (tgt := 12) (by unfold rg; omega) (by unfold rg; omega) dL_cell_3 (by decide) (fun c_3 => ?_) (fun c_3 => ?_)
  · refine Z_iconst (M := mL_cell) dL_cell_12 ?_
    refine J_iret (M := mL_cell) dL_cell_13 rfl ?_
    unfold cl0
    first
      | (rw [if_pos (by omega)]; exact ⟨rfl, rfl⟩)
      | (rw [if_neg (by omega)]; exact ⟨rfl, rfl⟩)
  · refine J_aload_n (M := mL_cell) dL_cell_6 rfl rfl ?_
    refine J_iload_n (M := mL_cell) dL_cell_7 rfl rfl ?_
    refine Z_sld (M := mL_cell) dL_cell_8 hL (by omega) (by omega) ?_
    refine J_goto (M := mL_cell) (tgt := 13) dL_cell_9 (by decide) ?_
    refine J_iret (M := mL_cell) dL_cell_13 rfl ?_
    unfold cl0
    first
      | (rw [if_pos (by omega)]; exact ⟨rfl, rfl⟩)
      | (rw [if_neg (by omega)]; exact ⟨rfl, rfl⟩)
theorem HL_e {f : Nat → Int64} {r t : TS} : hup (hm (hk (fun _ => none) r) t) (30, 0) (cL 2 1 f) = HL f r t := by
  funext u
  by_cases e : u = (30, 0)
  · rw [e, hup_s]; rfl
  · rw [hup_n e]
    unfold HL hm
    cases HMd t u with
    | some c => rfl
    | none =>
      show hk (fun _ => none) r u = hk (ob f) r u
      unfold hk
      by_cases q : 1 ≤ u.1 ∧ u.1 ≤ 19
      · rw [if_pos q, if_pos q]
      · rw [if_neg q, if_neg q]
        unfold ob
        rw [hup_n e]
set_option maxRecDepth 100000 in
set_option maxHeartbeats 4000000 in
theorem law_J {X : GX} (hL : xL X ≤ 2049) : J X mL_law 0 [some (vR (some tScr)), none, none, none, none, none, none] [] (fun _ => none) room_1.cells room_1.slots (fun o _ => o = rt (vI 1)) := by
  refine J_le (M := mL_law) (k' := 409600 + 1 + 20 + 1 + 9 + 1) (n' := 3174400 + 1 + 20260 + 34 + 180 + 10) (by decide) (by decide) ?_
  refine J_new (M := mL_law) (t := (1, 0)) dL_law_0 ni_L_8 rfl (by decide) ?_
  refine J_dup (M := mL_law) dL_law_3 rfl ?_
  refine J_aload_n (M := mL_law) dL_law_4 rfl rfl ?_
  refine Z_iconst (M := mL_law) dL_law_5 ?_
  refine M_callS (M := mL_law) (as := [vR (some tScr), vI (iI 0)]) dL_law_6 ca_L_99 ⟨by decide, by decide⟩ rfl (Nat.le_of_ble_eq_true rfl) rfl rfl (l_cell hL) ?_
  refine J_callI (M := mL_law) (t := (1, 0)) (as := [_]) dL_law_9 ca_L_105 rfl ⟨by decide, by decide⟩ rfl (Nat.le_of_ble_eq_true rfl) (k' := 409600 + 1 + 20 + 1) (n' := 3174400 + 1 + 20260 + 34) (by decide) (by decide) (kX7_init (h := fun _ => none) cl0_rg (fun _ _ _ _ => rfl)) (fun v_ h_ hv_ => ?_)
  obtain ⟨r, rfl, rfl, rfl⟩ := hv_
  refine J_astore_n (M := mL_law) dL_law_12 rfl (by decide) ?_
  refine J_new (M := mL_law) (t := (20, 0)) dL_law_13 ni_L_108 (by unfold hk; rw [if_neg (by decide)]) (by decide) ?_
  refine J_dup (M := mL_law) dL_law_16 rfl ?_
  refine J_aload_n (M := mL_law) dL_law_17 rfl rfl ?_
  refine Z_iconst (M := mL_law) dL_law_18 ?_
  refine M_callS (M := mL_law) (as := [vR (some tScr), vI (iI 0)]) dL_law_19 ca_L_99 ⟨by decide, by decide⟩ rfl (Nat.le_of_ble_eq_true rfl) rfl rfl (l_cell hL) ?_
  refine J_callI (M := mL_law) (t := (20, 0)) (as := [_]) dL_law_22 ca_L_110 rfl ⟨by decide, by decide⟩ rfl (Nat.le_of_ble_eq_true rfl) (k' := 409600 + 1) (n' := 3174400 + 1) (by decide) (by decide) (cX8init (h := hk (fun _ => none) (rh0 (pI (¬ cl0 X = 0)))) cl0_rg (fun k hk0 => by unfold hk; rw [if_neg (by omega)])) (fun v_ h_ hv_ => ?_)
  obtain ⟨t, rfl, rfl, rfl⟩ := hv_
  refine J_astore_n (M := mL_law) dL_law_25 rfl (by decide) ?_
  refine Z_iconst (M := mL_law) dL_law_26 ?_
  refine J_newL (M := mL_law) (t := (30, 0)) dL_law_27 (by rw [iI_nI]; rfl) (by decide) aw_long rfl (by decide) ?_
  refine Z_h (M := mL_law) HL_e ?_
  refine J_astore_n (M := mL_law) dL_law_29 rfl (by decide) ?_
  refine Z_iconst (M := mL_law) dL_law_30 ?_
  refine J_istore (M := mL_law) dL_law_31 (by decide) ?_
  exact J_sub (lp (k := 0) (n := 0) hL 512 1 0 _ _ _ ⟨by decide, by decide⟩ (by omega) (by decide) (RR_0 (pI_01 _))) (And.intro rfl (And.intro rfl (And.intro rfl (And.intro rfl (And.intro rfl trivial)))))

