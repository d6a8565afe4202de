/-! THE LAW: all that is asked is told -/
set_option maxRecDepth 100000 in
set_option maxHeartbeats 4000000 in
theorem told_t {X : GX} {g : LH} {σ τ : TS} {π : Int → Int64} {c z : Int} {k n : Nat} {Q : LO → LH → Prop} (L : LW σ π τ) (W : WL σ) (M : LM σ) (hz : 0 ≤ z ∧ z ≤ 10000000) {b : Int} (b0 : 0 ≤ b) (b8 : b ≤ 8) (h75 : 5 < b → σ 37 7 = 4) (kk : ∀ r, RR r τ c → J X mL_isTold 367 [some (vR (some (1, 0))), some (vR (some (30, 0))), some (vR (some (31, 0))), some (vR (some (32, 0))), some (vR (some (33, 0))), some (vR (some (36, 0))), some (vR (some (37, 0))), some (vI (iI z)), some (vI (iI 1)), some (vI (iI b)), none, none, none, none] [] (HW g σ π r) k n Q) : ∀ (a j : Nat), (j : Int) + a = σ 32 b → ∀ r, RR r τ c → J X mL_isTold 320 [some (vR (some (1, 0))), some (vR (some (30, 0))), some (vR (some (31, 0))), some (vR (some (32, 0))), some (vR (some (33, 0))), some (vR (some (36, 0))), some (vR (some (37, 0))), some (vI (iI z)), some (vI (iI 1)), some (vI (iI b)), none, none, some (vI (iI (num b))), some (vI (iI j))] [] (HW g σ π r) (k + 1 * a) (n + 6 * a) Q := by
  have hsl := slo_num (b := b) ⟨b0, b8⟩
  have q10 := (L.2.2.2.2.1 b b0 b8).1
  have b32 := wl32 W b
  have nr := num_rg (b := b) ⟨b0, b8⟩
  intro a
  induction a with
  | zero =>
    intro j hj r R
    refine J_iload (M := mL_isTold) dL_isTold_320 rfl ?_
    refine J_aload_n (M := mL_isTold) dL_isTold_322 rfl rfl ?_
    refine J_iload (M := mL_isTold) dL_isTold_323 rfl ?_
    refine L_iald (M := mL_isTold) (kf := 32) (N := 9) dL_isTold_325 (by decide) rfl (by decide) (by omega) (by omega) ?_
    refine Z_ic_ge (M := mL_isTold) (tgt := 367) (by first | assumption | exact pI_rg _ | (unfold rg; omega)) (by first | assumption | exact pI_rg _ | (unfold rg; omega)) dL_isTold_326 (by decide) (fun c_326 => ?_) (fun c_326 => ?_)
    · exact J_sub (kk r R) (And.intro rfl (And.intro rfl (And.intro rfl (And.intro rfl (And.intro rfl (And.intro rfl (And.intro rfl (And.intro rfl (And.intro rfl (And.intro rfl trivial))))))))))
    · omega
  | succ a ih =>
    intro j hj r R
    have tr := ltch_rg (w := σ 30) (π := π) (b := b) (j := j)
    refine J_le (k' := k + 1 * a + 1) (n' := n + 6 * a + 6) (by omega) (by omega) ?_
    refine J_iload (M := mL_isTold) dL_isTold_320 rfl ?_
    refine J_aload_n (M := mL_isTold) dL_isTold_322 rfl rfl ?_
    refine J_iload (M := mL_isTold) dL_isTold_323 rfl ?_
    refine L_iald (M := mL_isTold) (kf := 32) (N := 9) dL_isTold_325 (by decide) rfl (by decide) (by omega) (by omega) ?_
    refine Z_ic_ge (M := mL_isTold) (tgt := 367) (by first | assumption | exact pI_rg _ | (unfold rg; omega)) (by first | assumption | exact pI_rg _ | (unfold rg; omega)) dL_isTold_326 (by decide) (fun c_326 => ?_) (fun c_326 => ?_)
    · omega
    · refine J_iload (M := mL_isTold) dL_isTold_329 rfl ?_
      first
        | refine Z_pf (M := mL_isTold) (tgt := 367) dL_isTold_331 (by decide) (fun c_331 => ?_) (fun c_331 => ?_)
        | refine Z_if_eq (M := mL_isTold) (tgt := 367) (by first | assumption | exact pI_rg _ | (unfold rg; omega)) dL_isTold_331 (by decide) (fun c_331 => ?_) (fun c_331 => ?_)
      · exact absurd c_331 (by decide)
      · refine J_aload_n (M := mL_isTold) dL_isTold_334 rfl rfl ?_
        refine J_iload (M := mL_isTold) dL_isTold_335 rfl ?_
        refine J_iload (M := mL_isTold) dL_isTold_337 rfl ?_
        refine J_callV (M := mL_isTold) (as := [_, _]) dL_isTold_339 ca_L_84 ⟨by decide, by decide⟩ lw1 rfl (Nat.le_of_ble_eq_true rfl) (k' := k + 1 * a) (n' := n + 6 * a) (by show _ + 1 ≤ _; omega) (by show _ + 6 ≤ _; omega) (cx0 (p_touches R (b := num b) (n := j) (by unfold rg; omega) (by unfold rg; omega)) (gl011 ⟨vbo L.1 b0 b8 h75, by omega, by rw [hsl, q10]; omega⟩)) (fun v_ h_ hv_ => ?_)
        obtain ⟨rfl, r1, R1, rfl⟩ := hv_
        refine Z_eq (M := mL_isTold) (b := ltch (σ 30) π b j) (by rw [hsl]; exact (ltch_tch L R.1 b0 b8 (by omega) (by omega)).symm) ?_
        refine J_aload_n (M := mL_isTold) dL_isTold_342 rfl rfl ?_
        refine J_aload_n (M := mL_isTold) dL_isTold_343 rfl rfl ?_
        refine J_iload (M := mL_isTold) dL_isTold_344 rfl ?_
        refine J_iload (M := mL_isTold) dL_isTold_346 rfl ?_
        refine M_callS (M := mL_isTold) (as := [_, _, _, _]) dL_isTold_348 ca_L_19 ⟨by decide, by decide⟩ rfl (Nat.le_of_ble_eq_true rfl) rfl rfl (rL_touches lw30 lw31 (wl30 W) (by omega) (by omega)) ?_
        refine Z_ic_ne (M := mL_isTold) (tgt := 358) (by first | assumption | exact pI_rg _ | (unfold rg; omega)) (by first | assumption | exact pI_rg _ | (unfold rg; omega)) dL_isTold_351 (by decide) (fun c_351 => ?_) (fun c_351 => ?_)
        · exact absurd rfl c_351
        · refine Z_iconst (M := mL_isTold) dL_isTold_354 ?_
          refine J_goto (M := mL_isTold) (tgt := 359) dL_isTold_355 (by decide) ?_
          refine J_istore (M := mL_isTold) dL_isTold_359 (by decide) ?_
          refine Z_iinc (M := mL_isTold) dL_isTold_361 rfl (by decide) ?_
          refine J_goto (M := mL_isTold) (tgt := 320) dL_isTold_364 (by decide) ?_
          exact J_sub (ih (j + 1) (by push_cast; omega) _ R1) (And.intro rfl (And.intro rfl (And.intro rfl (And.intro rfl (And.intro rfl (And.intro rfl (And.intro rfl (And.intro rfl (And.intro rfl (And.intro rfl (And.intro rfl (And.intro (vz (by push_cast; omega)) trivial))))))))))))

set_option maxRecDepth 100000 in
set_option maxHeartbeats 4000000 in
theorem told_b {X : GX} {g : LH} {σ τ : TS} {π : Int → Int64} {c z : Int} {k n : Nat} {Q : LO → LH → Prop} (L : LW σ π τ) (W : WL σ) (M : LM σ) (hz : 0 ≤ z ∧ z ≤ 10000000) (kk : ∀ r, RR r τ c → J X mL_isTold 373 [some (vR (some (1, 0))), some (vR (some (30, 0))), some (vR (some (31, 0))), some (vR (some (32, 0))), some (vR (some (33, 0))), some (vR (some (36, 0))), some (vR (some (37, 0))), some (vI (iI z)), some (vI (iI 1)), none, none, none, none, none] [] (HW g σ π r) k n Q) : ∀ (a i : Nat), (i : Int) + a = lnb σ → ∀ r, RR r τ c → J X mL_isTold 110 [some (vR (some (1, 0))), some (vR (some (30, 0))), some (vR (some (31, 0))), some (vR (some (32, 0))), some (vR (some (33, 0))), some (vR (some (36, 0))), some (vR (some (37, 0))), some (vI (iI z)), some (vI (iI 1)), some (vI (iI i)), none, none, none, none] [] (HW g σ π r) (k + 20 * a) (n + 120 * a) Q := by
  have hnb := lnb_96 (σ := σ)
  have m7 := M.2.2.2.2.2.2.1
  intro a
  induction a with
  | zero =>
    intro i hi r R
    refine J_iload (M := mL_isTold) dL_isTold_110 rfl ?_
    refine Z_ij (M := mL_isTold) (pcB := 127) (lnb σ) (fun hj_127 => ?_) ?_
    · refine J_aload (M := mL_isTold) dL_isTold_112 rfl ?_
      refine Z_bipush (M := mL_isTold) dL_isTold_114 rfl ?_
      refine L_iald (M := mL_isTold) (kf := 37) (N := 10) dL_isTold_116 (by decide) rfl (by decide) (by omega) (by omega) ?_
      refine Z_if_le (M := mL_isTold) (tgt := 125) (by first | assumption | exact pI_rg _ | (unfold rg; omega)) dL_isTold_117 (by decide) (fun c_117 => ?_) (fun c_117 => ?_)
      · refine Z_bipush (M := mL_isTold) dL_isTold_125 rfl ?_
        exact hj_127 _ (by omega)
      · refine Z_bipush (M := mL_isTold) dL_isTold_120 rfl ?_
        refine J_goto (M := mL_isTold) (tgt := 127) dL_isTold_122 (by decide) ?_
        exact hj_127 _ (by omega)
    refine Z_ic_ge (M := mL_isTold) (tgt := 373) (by first | assumption | exact pI_rg _ | (unfold rg; omega)) (by first | assumption | exact pI_rg _ | (unfold rg; omega)) dL_isTold_127 (by decide) (fun c_127 => ?_) (fun c_127 => ?_)
    · exact J_sub (kk r R) (And.intro rfl (And.intro rfl (And.intro rfl (And.intro rfl (And.intro rfl (And.intro rfl (And.intro rfl (And.intro rfl (And.intro rfl trivial)))))))))
    · omega
  | succ a ih =>
    intro i hi r R
    refine J_le (k' := k + 20 * a + 20) (n' := n + 120 * a + 120) (by omega) (by omega) ?_
    have b0 : (0 : Int) ≤ i := by omega
    have b8 : (i : Int) ≤ 8 := by omega
    have h75 : 5 < (i : Int) → σ 37 7 = 4 := by omega
    have hsl := slo_num (b := i) ⟨b0, b8⟩
    obtain ⟨q10, q11, q12⟩ := L.2.2.2.2.1 i b0 b8
    have b32 := wl32 W i
    have nr := num_rg (b := i) ⟨b0, b8⟩
    have hte := lte_te L R.1 b0 b8
    have tr := lte_rg (w := σ 30) (π := π) (e := σ 32) (b := i)
    obtain ⟨zz, hzz⟩ : ∃ zz, zz = lte (σ 30) π (σ 32) i := ⟨_, rfl⟩
    obtain ⟨its, hits⟩ : ∃ y, y = ltold (σ 30) π (σ 32) i := ⟨_, rfl⟩
    have e9 : its = 100 * (zz.2.2 + 1) + 10 * zz.1 + zz.2.1 := by rw [hits, hzz]; rfl
    rw [← hzz] at tr hte
    have d1 : its / 10 % 10 = zz.1 := by omega
    have d2 : its % 10 = zz.2.1 := by omega
    obtain ⟨s, hs⟩ : ∃ s, s = (z + i) % 2 := ⟨_, rfl⟩
    have hs01 : 0 ≤ s ∧ s ≤ 1 := by omega
    have b33 := wl33 W (2 * i + s)
    have hu : τ 11 (2 * slb i + s) = σ 33 (2 * i + s) := by
      have : s = 0 ∨ s = 1 := by omega
      rcases this with y | y
      · rw [y, Int.add_zero, Int.add_zero]; exact q11
      · rw [y]; exact q12
    have hfa := lfen_p L b0 b8 (s := s) (by omega) h75
    have lf := lfen_rg (x := σ 36) (b := i) (s := s) (wl36 W) b0
    have hj232 : ∀ r, RR r τ c → J X mL_isTold 232 [some (vR (some (1, 0))), some (vR (some (30, 0))), some (vR (some (31, 0))), some (vR (some (32, 0))), some (vR (some (33, 0))), some (vR (some (36, 0))), some (vR (some (37, 0))), some (vI (iI z)), some (vI (iI 1)), some (vI (iI i)), some (vI (iI its)), some (vI (iI s)), some (vI (iI (num i))), none] [] (HW g σ π r) (k + 20 * a + 15 + 1) (n + 120 * a + 90 + 6) Q := by
      intro r0 R0
      refine J_aload_n (M := mL_isTold) dL_isTold_232 rfl rfl ?_
      refine J_iload (M := mL_isTold) dL_isTold_233 rfl ?_
      refine J_iload (M := mL_isTold) dL_isTold_235 rfl ?_
      refine J_callV (M := mL_isTold) (as := [_, _]) dL_isTold_237 ca_L_76 ⟨by decide, by decide⟩ lw1 rfl (Nat.le_of_ble_eq_true rfl) (k' := k + 20 * a + 15) (n' := n + 120 * a + 90) (by show _ + 1 ≤ _; omega) (by show _ + 6 ≤ _; omega) (cx0 (p_appeals R0 (b := num i) (s := s) (by unfold rg; omega) (by unfold rg; omega)) (gl011 ⟨vbo L.1 b0 b8 h75, by omega, by omega⟩)) (fun v_ h_ hv_ => ?_)
      obtain ⟨rfl, r6, R6, rfl⟩ := hv_
      refine Z_eq (M := mL_isTold) (b := 2 - σ 33 (2 * i + s)) (by rw [hsl, hu]) ?_
      refine Z_iconst (M := mL_isTold) dL_isTold_240 ?_
      refine J_aload (M := mL_isTold) dL_isTold_241 rfl ?_
      refine Z_iconst (M := mL_isTold) dL_isTold_243 ?_
      refine J_iload (M := mL_isTold) dL_isTold_244 rfl ?_
      refine Z_imul (M := mL_isTold) dL_isTold_246 ?_
      refine J_iload (M := mL_isTold) dL_isTold_247 rfl ?_
      refine Z_iadd (M := mL_isTold) dL_isTold_249 ?_
      refine L_iald (M := mL_isTold) (kf := 33) (N := 18) dL_isTold_250 (by decide) rfl (by decide) (by omega) (by omega) ?_
      refine Z_isub (M := mL_isTold) dL_isTold_251 ?_
      refine Z_ic_ne (M := mL_isTold) (tgt := 314) (by unfold rg; omega) (by unfold rg; omega) dL_isTold_252 (by decide) (fun c_252 => ?_) (fun c_252 => ?_)
      · exact absurd rfl c_252
      · refine J_aload_n (M := mL_isTold) dL_isTold_255 rfl rfl ?_
        refine J_iload (M := mL_isTold) dL_isTold_256 rfl ?_
        refine J_iload (M := mL_isTold) dL_isTold_258 rfl ?_
        refine J_callV (M := mL_isTold) (as := [_, _]) dL_isTold_260 ca_L_79 ⟨by decide, by decide⟩ lw1 rfl (Nat.le_of_ble_eq_true rfl) (k' := k + 20 * a + 14) (n' := n + 120 * a + 84) (by show _ + 1 ≤ _; omega) (by show _ + 6 ≤ _; omega) (cx0 (p_fencerOf R6 (b := num i) (s := s) (by unfold rg; omega) (by unfold rg; omega)) (gl011 ⟨vbo L.1 b0 b8 h75, by omega, by omega⟩)) (fun v_ h_ hv_ => ?_)
        obtain ⟨rfl, r7, R7, rfl⟩ := hv_
        refine Z_eq (M := mL_isTold) (b := lfen (σ 36) i s) (by rw [hfa]; split <;> omega) ?_
        refine J_aload (M := mL_isTold) dL_isTold_263 rfl ?_
        refine J_iload (M := mL_isTold) dL_isTold_265 rfl ?_
        refine J_iload (M := mL_isTold) dL_isTold_267 rfl ?_
        refine M_callS (M := mL_isTold) (as := [_, _, _]) dL_isTold_269 ca_L_27 ⟨by decide, by decide⟩ rfl (Nat.le_of_ble_eq_true rfl) rfl rfl (rL_fencer lw36 (by omega) (by omega)) ?_
        refine Z_ic_ne (M := mL_isTold) (tgt := 314) (by unfold rg; omega) (by unfold rg; omega) dL_isTold_272 (by decide) (fun c_272 => ?_) (fun c_272 => ?_)
        · exact absurd rfl c_272
        · refine J_aload_n (M := mL_isTold) dL_isTold_275 rfl rfl ?_
          refine J_iload (M := mL_isTold) dL_isTold_276 rfl ?_
          refine J_callV (M := mL_isTold) (as := [_]) dL_isTold_278 ca_L_82 ⟨by decide, by decide⟩ lw1 rfl (Nat.le_of_ble_eq_true rfl) (k' := k + 20 * a + 13) (n' := n + 120 * a + 78) (by show _ + 1 ≤ _; omega) (by show _ + 6 ≤ _; omega) (cx0 (p_winner R7 (b := num i) (by unfold rg; omega)) (gl011 (vbo L.1 b0 b8 h75))) (fun v_ h_ hv_ => ?_)
          obtain ⟨rfl, r8, R8, rfl⟩ := hv_
          refine Z_ij (M := mL_isTold) (pcB := 307) (wo τ (num i)) (fun hj_307 => ?_) ?_
          · refine J_iload (M := mL_isTold) dL_isTold_281 rfl ?_
            refine Z_iconst (M := mL_isTold) dL_isTold_283 ?_
            refine Z_ic_le (M := mL_isTold) (tgt := 297) (by first | assumption | exact pI_rg _ | (unfold rg; omega)) (by first | assumption | exact pI_rg _ | (unfold rg; omega)) dL_isTold_284 (by decide) (fun c_284 => ?_) (fun c_284 => ?_)
            · refine J_aload_n (M := mL_isTold) dL_isTold_297 rfl rfl ?_
              refine J_aload_n (M := mL_isTold) dL_isTold_298 rfl rfl ?_
              refine J_aload_n (M := mL_isTold) dL_isTold_299 rfl rfl ?_
              refine J_aload (M := mL_isTold) dL_isTold_300 rfl ?_
              refine J_iload (M := mL_isTold) dL_isTold_302 rfl ?_
              refine M_callS (M := mL_isTold) (as := [_, _, _, _, _]) dL_isTold_304 ca_L_31 ⟨by decide, by decide⟩ rfl (Nat.le_of_ble_eq_true rfl) rfl rfl (rL_winner lw30 lw31 lw32 (wl30 W) (wl32 W) (by omega) lw36) ?_
              exact hj_307 _ (by first | exact (wo_x L (by omega) (by omega) (h75 (by omega))).symm | exact (lwin_wo L R0.1 b0 (by omega)).symm)
            · refine J_aload (M := mL_isTold) dL_isTold_287 rfl ?_
              refine J_iload (M := mL_isTold) dL_isTold_289 rfl ?_
              refine Z_iconst (M := mL_isTold) dL_isTold_291 ?_
              refine Z_isub (M := mL_isTold) dL_isTold_292 ?_
              refine L_iald (M := mL_isTold) (kf := 36) (N := 8) dL_isTold_293 (by decide) rfl (by decide) (by omega) (by omega) ?_
              refine J_goto (M := mL_isTold) (tgt := 307) dL_isTold_294 (by decide) ?_
              exact hj_307 _ (by first | exact (wo_x L (by omega) (by omega) (h75 (by omega))).symm | exact (lwin_wo L R0.1 b0 (by omega)).symm)
          refine Z_ic_ne (M := mL_isTold) (tgt := 314) (by have := wo_rg R0.1 (num i); unfold rg; omega) (by have := wo_rg R0.1 (num i); unfold rg; omega) dL_isTold_307 (by decide) (fun c_307 => ?_) (fun c_307 => ?_)
          · exact absurd rfl c_307
          · refine Z_iconst (M := mL_isTold) dL_isTold_310 ?_
            refine J_goto (M := mL_isTold) (tgt := 315) dL_isTold_311 (by decide) ?_
            refine J_istore (M := mL_isTold) dL_isTold_315 (by decide) ?_
            refine Z_iconst (M := mL_isTold) dL_isTold_317 ?_
            refine J_istore (M := mL_isTold) dL_isTold_318 (by decide) ?_
            refine J_le (M := mL_isTold) (k' := k + 20 * a + 1 * (σ 32 i).toNat) (n' := n + 120 * a + 6 * (σ 32 i).toNat) (by omega) (by omega) ?_
            exact J_sub (told_t L W M hz b0 b8 h75 (fun r9 R9 => by
              refine Z_iinc (M := mL_isTold) dL_isTold_367 rfl (by decide) ?_
              refine J_goto (M := mL_isTold) (tgt := 110) dL_isTold_370 (by decide) ?_
              exact J_sub (ih (i + 1) (by push_cast; omega) _ R9) (And.intro rfl (And.intro rfl (And.intro rfl (And.intro rfl (And.intro rfl (And.intro rfl (And.intro rfl (And.intro rfl (And.intro rfl (And.intro (vz (by push_cast; omega)) trivial))))))))))) (σ 32 i).toNat 0 (by omega) _ R8) (And.intro rfl (And.intro rfl (And.intro rfl (And.intro rfl (And.intro rfl (And.intro rfl (And.intro rfl (And.intro rfl (And.intro rfl (And.intro rfl (And.intro rfl (And.intro rfl trivial))))))))))))
    refine J_iload (M := mL_isTold) dL_isTold_110 rfl ?_
    refine Z_ij (M := mL_isTold) (pcB := 127) (lnb σ) (fun hj_127 => ?_) ?_
    · refine J_aload (M := mL_isTold) dL_isTold_112 rfl ?_
      refine Z_bipush (M := mL_isTold) dL_isTold_114 rfl ?_
      refine L_iald (M := mL_isTold) (kf := 37) (N := 10) dL_isTold_116 (by decide) rfl (by decide) (by omega) (by omega) ?_
      refine Z_if_le (M := mL_isTold) (tgt := 125) (by first | assumption | exact pI_rg _ | (unfold rg; omega)) dL_isTold_117 (by decide) (fun c_117 => ?_) (fun c_117 => ?_)
      · refine Z_bipush (M := mL_isTold) dL_isTold_125 rfl ?_
        exact hj_127 _ (by omega)
      · refine Z_bipush (M := mL_isTold) dL_isTold_120 rfl ?_
        refine J_goto (M := mL_isTold) (tgt := 127) dL_isTold_122 (by decide) ?_
        exact hj_127 _ (by omega)
    refine Z_ic_ge (M := mL_isTold) (tgt := 373) (by first | assumption | exact pI_rg _ | (unfold rg; omega)) (by first | assumption | exact pI_rg _ | (unfold rg; omega)) dL_isTold_127 (by decide) (fun c_127 => ?_) (fun c_127 => ?_)
    · omega
    · refine J_iload (M := mL_isTold) dL_isTold_130 rfl ?_
      first
        | refine Z_pf (M := mL_isTold) (tgt := 373) dL_isTold_132 (by decide) (fun c_132 => ?_) (fun c_132 => ?_)
        | refine Z_if_eq (M := mL_isTold) (tgt := 373) (by first | assumption | exact pI_rg _ | (unfold rg; omega)) dL_isTold_132 (by decide) (fun c_132 => ?_) (fun c_132 => ?_)
      · exact absurd c_132 (by decide)
      · refine J_aload_n (M := mL_isTold) dL_isTold_135 rfl rfl ?_
        refine J_aload_n (M := mL_isTold) dL_isTold_136 rfl rfl ?_
        refine J_aload_n (M := mL_isTold) dL_isTold_137 rfl rfl ?_
        refine J_iload (M := mL_isTold) dL_isTold_138 rfl ?_
        refine M_callS (M := mL_isTold) (as := [_, _, _, _]) dL_isTold_140 ca_L_23 ⟨by decide, by decide⟩ rfl (Nat.le_of_ble_eq_true rfl) rfl rfl (rL_told lw30 lw31 lw32 (wl30 W) (wl32 W) (by omega)) ?_
        refine Z_eq (M := mL_isTold) hits.symm ?_
        refine J_istore (M := mL_isTold) dL_isTold_143 (by decide) ?_
        refine J_iload (M := mL_isTold) dL_isTold_145 rfl ?_
        refine J_iload (M := mL_isTold) dL_isTold_147 rfl ?_
        refine Z_iadd (M := mL_isTold) dL_isTold_149 ?_
        refine Z_iconst (M := mL_isTold) dL_isTold_150 ?_
        refine Z_irem (M := mL_isTold) (by omega) (by first | assumption | exact pI_rg _ | (unfold rg; omega)) (by decide) (by first | assumption | exact pI_rg _ | (unfold rg; omega)) dL_isTold_151 ?_
        refine Z_eq (M := mL_isTold) hs.symm ?_
        refine J_istore (M := mL_isTold) dL_isTold_152 (by decide) ?_
        refine J_iload (M := mL_isTold) dL_isTold_154 rfl ?_
        refine M_callS (M := mL_isTold) (as := [_]) dL_isTold_156 ca_L_49 ⟨by decide, by decide⟩ rfl (Nat.le_of_ble_eq_true rfl) rfl rfl (rL_number (by omega)) ?_
        refine J_istore (M := mL_isTold) dL_isTold_159 (by decide) ?_
        refine J_aload_n (M := mL_isTold) dL_isTold_161 rfl rfl ?_
        refine J_iload (M := mL_isTold) dL_isTold_162 rfl ?_
        refine J_callV (M := mL_isTold) (as := [_]) dL_isTold_164 ca_L_66 ⟨by decide, by decide⟩ lw1 rfl (Nat.le_of_ble_eq_true rfl) (k' := k + 20 * a + 19) (n' := n + 120 * a + 114) (by show _ + 1 ≤ _; omega) (by show _ + 6 ≤ _; omega) (cx0 (p_phrases R (b := num i) (by unfold rg; omega)) (gl011 (vbo L.1 b0 b8 h75))) (fun v_ h_ hv_ => ?_)
        obtain ⟨rfl, r2, R2, rfl⟩ := hv_
        refine Z_eq (M := mL_isTold) (b := σ 32 i) (by rw [hsl, q10]) ?_
        refine J_aload_n (M := mL_isTold) dL_isTold_167 rfl rfl ?_
        refine J_iload (M := mL_isTold) dL_isTold_168 rfl ?_
        refine L_iald (M := mL_isTold) (kf := 32) (N := 9) dL_isTold_170 (by decide) rfl (by decide) (by omega) (by omega) ?_
        refine Z_ic_ne (M := mL_isTold) (tgt := 314) (by unfold rg; omega) (by unfold rg; omega) dL_isTold_171 (by decide) (fun c_171 => ?_) (fun c_171 => ?_)
        · exact absurd rfl c_171
        · refine J_aload_n (M := mL_isTold) dL_isTold_174 rfl rfl ?_
          refine J_iload (M := mL_isTold) dL_isTold_175 rfl ?_
          refine J_iload (M := mL_isTold) dL_isTold_177 rfl ?_
          refine J_callV (M := mL_isTold) (as := [_, _]) dL_isTold_179 ca_L_69 ⟨by decide, by decide⟩ lw1 rfl (Nat.le_of_ble_eq_true rfl) (k' := k + 20 * a + 18) (n' := n + 120 * a + 108) (by show _ + 1 ≤ _; omega) (by show _ + 6 ≤ _; omega) (cx0 (p_score R2 (b := num i) (s := s) (by unfold rg; omega) (by unfold rg; omega)) (gl011 ⟨vbo L.1 b0 b8 h75, by omega, by omega⟩)) (fun v_ h_ hv_ => ?_)
          obtain ⟨rfl, r3, R3, rfl⟩ := hv_
          refine Z_eq (M := mL_isTold) (b := (if s = 0 then zz.1 else zz.2.1)) (by rw [hsl, ← hte]) ?_
          refine Z_ij (M := mL_isTold) (pcB := 203) ((if s = 0 then zz.1 else zz.2.1)) (fun hj_203 => ?_) ?_
          · refine J_iload (M := mL_isTold) dL_isTold_182 rfl ?_
            first
              | refine Z_pt (M := mL_isTold) (tgt := 198) dL_isTold_184 (by decide) (fun c_184 => ?_) (fun c_184 => ?_)
              | refine Z_if_ne (M := mL_isTold) (tgt := 198) (by first | assumption | exact pI_rg _ | (unfold rg; omega)) dL_isTold_184 (by decide) (fun c_184 => ?_) (fun c_184 => ?_)
            · refine J_iload (M := mL_isTold) dL_isTold_198 rfl ?_
              refine Z_bipush (M := mL_isTold) dL_isTold_200 rfl ?_
              refine Z_irem (M := mL_isTold) (by omega) (by first | assumption | exact pI_rg _ | (unfold rg; omega)) (by decide) (by first | assumption | exact pI_rg _ | (unfold rg; omega)) dL_isTold_202 ?_
              exact hj_203 _ (by first | (rw [if_pos (by omega)]; omega) | (rw [if_neg (by omega)]; omega))
            · refine J_iload (M := mL_isTold) dL_isTold_187 rfl ?_
              refine Z_bipush (M := mL_isTold) dL_isTold_189 rfl ?_
              refine Z_idiv (M := mL_isTold) (by omega) (by first | assumption | exact pI_rg _ | (unfold rg; omega)) (by decide) (by first | assumption | exact pI_rg _ | (unfold rg; omega)) dL_isTold_191 ?_
              refine Z_bipush (M := mL_isTold) dL_isTold_192 rfl ?_
              refine Z_irem (M := mL_isTold) (by omega) (by first | assumption | exact pI_rg _ | (unfold rg; omega)) (by decide) (by first | assumption | exact pI_rg _ | (unfold rg; omega)) dL_isTold_194 ?_
              refine J_goto (M := mL_isTold) (tgt := 203) dL_isTold_195 (by decide) ?_
              exact hj_203 _ (by first | (rw [if_pos (by omega)]; omega) | (rw [if_neg (by omega)]; omega))
          refine Z_ic_ne (M := mL_isTold) (tgt := 314) (by unfold rg; split <;> omega) (by unfold rg; split <;> omega) dL_isTold_203 (by decide) (fun c_203 => ?_) (fun c_203 => ?_)
          · exact absurd rfl c_203
          · refine J_iload (M := mL_isTold) dL_isTold_206 rfl ?_
            refine Z_iconst (M := mL_isTold) dL_isTold_208 ?_
            refine Z_irem (M := mL_isTold) (by omega) (by first | assumption | exact pI_rg _ | (unfold rg; omega)) (by decide) (by first | assumption | exact pI_rg _ | (unfold rg; omega)) dL_isTold_209 ?_
            refine Z_if_gt (M := mL_isTold) (tgt := 232) (by unfold rg; omega) dL_isTold_210 (by decide) (fun c_210 => ?_) (fun c_210 => ?_)
            · first
                | exact J_sub (J_le (k' := k + 20 * a + 15 + 1) (n' := n + 120 * a + 90 + 6) (by omega) (by omega) (hj232 _ R3)) (And.intro rfl (And.intro rfl (And.intro rfl (And.intro rfl (And.intro rfl (And.intro rfl (And.intro rfl (And.intro rfl (And.intro rfl (And.intro rfl (And.intro rfl (And.intro rfl (And.intro rfl trivial)))))))))))))
                | exact J_sub (J_le (k' := k + 20 * a + 15 + 1) (n' := n + 120 * a + 90 + 6) (by omega) (by omega) (hj232 _ R5)) (And.intro rfl (And.intro rfl (And.intro rfl (And.intro rfl (And.intro rfl (And.intro rfl (And.intro rfl (And.intro rfl (And.intro rfl (And.intro rfl (And.intro rfl (And.intro rfl (And.intro rfl trivial)))))))))))))
            · refine J_aload_n (M := mL_isTold) dL_isTold_213 rfl rfl ?_
              refine J_iload (M := mL_isTold) dL_isTold_214 rfl ?_
              refine J_iload (M := mL_isTold) dL_isTold_216 rfl ?_
              refine J_callV (M := mL_isTold) (as := [_, _]) dL_isTold_218 ca_L_73 ⟨by decide, by decide⟩ lw1 rfl (Nat.le_of_ble_eq_true rfl) (k' := k + 20 * a + 17) (n' := n + 120 * a + 102) (by show _ + 1 ≤ _; omega) (by show _ + 6 ≤ _; omega) (cx0 (p_scoreAnew R3 (b := num i) (s := s) (by unfold rg; omega) (by unfold rg; omega)) (gl011 ⟨vbo L.1 b0 b8 h75, by omega, by omega⟩)) (fun v_ h_ hv_ => ?_)
              obtain ⟨rfl, r4, R4, rfl⟩ := hv_
              refine Z_eq (M := mL_isTold) (b := (if s = 0 then zz.1 else zz.2.1)) (by rw [hsl, ← hte]) ?_
              refine J_aload_n (M := mL_isTold) dL_isTold_221 rfl rfl ?_
              refine J_iload (M := mL_isTold) dL_isTold_222 rfl ?_
              refine J_iload (M := mL_isTold) dL_isTold_224 rfl ?_
              refine J_callV (M := mL_isTold) (as := [_, _]) dL_isTold_226 ca_L_69 ⟨by decide, by decide⟩ lw1 rfl (Nat.le_of_ble_eq_true rfl) (k' := k + 20 * a + 16) (n' := n + 120 * a + 96) (by show _ + 1 ≤ _; omega) (by show _ + 6 ≤ _; omega) (cx0 (p_score R4 (b := num i) (s := s) (by unfold rg; omega) (by unfold rg; omega)) (gl011 ⟨vbo L.1 b0 b8 h75, by omega, by omega⟩)) (fun v_ h_ hv_ => ?_)
              obtain ⟨rfl, r5, R5, rfl⟩ := hv_
              refine Z_eq (M := mL_isTold) (b := (if s = 0 then zz.1 else zz.2.1)) (by rw [hsl, ← hte]) ?_
              refine Z_ic_ne (M := mL_isTold) (tgt := 314) (by unfold rg; split <;> omega) (by unfold rg; split <;> omega) dL_isTold_229 (by decide) (fun c_229 => ?_) (fun c_229 => ?_)
              · exact absurd rfl c_229
              · first
                  | exact J_sub (J_le (k' := k + 20 * a + 15 + 1) (n' := n + 120 * a + 90 + 6) (by omega) (by omega) (hj232 _ R3)) (And.intro rfl (And.intro rfl (And.intro rfl (And.intro rfl (And.intro rfl (And.intro rfl (And.intro rfl (And.intro rfl (And.intro rfl (And.intro rfl (And.intro rfl (And.intro rfl (And.intro rfl trivial)))))))))))))
                  | exact J_sub (J_le (k' := k + 20 * a + 15 + 1) (n' := n + 120 * a + 90 + 6) (by omega) (by omega) (hj232 _ R5)) (And.intro rfl (And.intro rfl (And.intro rfl (And.intro rfl (And.intro rfl (And.intro rfl (And.intro rfl (And.intro rfl (And.intro rfl (And.intro rfl (And.intro rfl (And.intro rfl (And.intro rfl trivial)))))))))))))

set_option maxRecDepth 100000 in
set_option maxHeartbeats 4000000 in
theorem told_n {X : GX} {g : LH} {σ τ : TS} {π : Int → Int64} {c z : Int} {k n : Nat} {Q : LO → LH → Prop} (L : LW σ π τ) (W : WL σ) (M : LM σ) (hz : 0 ≤ z ∧ z ≤ 10000000) (kk : ∀ r, RR r τ c → J X mL_isTold 423 [some (vR (some (1, 0))), some (vR (some (30, 0))), some (vR (some (31, 0))), some (vR (some (32, 0))), some (vR (some (33, 0))), some (vR (some (36, 0))), some (vR (some (37, 0))), some (vI (iI z)), some (vI (iI 1)), none, none, none, none, none] [] (HW g σ π r) k n Q) : ∀ (a i : Nat), i + a = 8 → 1 ≤ i → ∀ r, RR r τ c → J X mL_isTold 376 [some (vR (some (1, 0))), some (vR (some (30, 0))), some (vR (some (31, 0))), some (vR (some (32, 0))), some (vR (some (33, 0))), some (vR (some (36, 0))), some (vR (some (37, 0))), some (vI (iI z)), some (vI (iI 1)), some (vI (iI i)), none, none, none, none] [] (HW g σ π r) (k + 1 * a) (n + 6 * a) Q := by
  have m7 := M.2.2.2.2.2.2.1
  have a7 := L.1.2.2.1
  intro a
  induction a with
  | zero =>
    intro i hi i1 r R
    refine J_iload (M := mL_isTold) dL_isTold_376 rfl ?_
    refine Z_bipush (M := mL_isTold) dL_isTold_378 rfl ?_
    refine Z_ic_ge (M := mL_isTold) (tgt := 423) (by first | assumption | exact pI_rg _ | (unfold rg; omega)) (by first | assumption | exact pI_rg _ | (unfold rg; omega)) dL_isTold_380 (by decide) (fun c_380 => ?_) (fun c_380 => ?_)
    · exact J_sub (kk r R) (And.intro rfl (And.intro rfl (And.intro rfl (And.intro rfl (And.intro rfl (And.intro rfl (And.intro rfl (And.intro rfl (And.intro rfl trivial)))))))))
    · omega
  | succ a ih =>
    intro i hi i1 r R
    refine J_le (k' := k + 1 * a + 1) (n' := n + 6 * a + 6) (by omega) (by omega) ?_
    have b36 := wl36 W i
    refine J_iload (M := mL_isTold) dL_isTold_376 rfl ?_
    refine Z_bipush (M := mL_isTold) dL_isTold_378 rfl ?_
    refine Z_ic_ge (M := mL_isTold) (tgt := 423) (by first | assumption | exact pI_rg _ | (unfold rg; omega)) (by first | assumption | exact pI_rg _ | (unfold rg; omega)) dL_isTold_380 (by decide) (fun c_380 => ?_) (fun c_380 => ?_)
    · omega
    · refine J_iload (M := mL_isTold) dL_isTold_383 rfl ?_
      first
        | refine Z_pf (M := mL_isTold) (tgt := 423) dL_isTold_385 (by decide) (fun c_385 => ?_) (fun c_385 => ?_)
        | refine Z_if_eq (M := mL_isTold) (tgt := 423) (by first | assumption | exact pI_rg _ | (unfold rg; omega)) dL_isTold_385 (by decide) (fun c_385 => ?_) (fun c_385 => ?_)
      · exact absurd c_385 (by decide)
      · refine J_aload (M := mL_isTold) dL_isTold_388 rfl ?_
        refine Z_bipush (M := mL_isTold) dL_isTold_390 rfl ?_
        refine L_iald (M := mL_isTold) (kf := 37) (N := 10) dL_isTold_392 (by decide) rfl (by decide) (by omega) (by omega) ?_
        refine Z_if_le (M := mL_isTold) (tgt := 423) (by first | assumption | exact pI_rg _ | (unfold rg; omega)) dL_isTold_393 (by decide) (fun c_393 => ?_) (fun c_393 => ?_)
        · exact J_sub (J_le (by omega) (by omega) (kk r R)) (And.intro rfl (And.intro rfl (And.intro rfl (And.intro rfl (And.intro rfl (And.intro rfl (And.intro rfl (And.intro rfl (And.intro rfl trivial)))))))))
        · refine J_aload_n (M := mL_isTold) dL_isTold_396 rfl rfl ?_
          refine J_iload (M := mL_isTold) dL_isTold_397 rfl ?_
          refine J_callV (M := mL_isTold) (as := [_]) dL_isTold_399 ca_L_86 ⟨by decide, by decide⟩ lw1 rfl (Nat.le_of_ble_eq_true rfl) (k' := k + 1 * a) (n' := n + 6 * a) (by show _ + 1 ≤ _; omega) (by show _ + 6 ≤ _; omega) (cx0 (p_nodeWinner R (b := i) (by unfold rg; omega)) (gl011 ⟨by omega, by omega, by omega⟩)) (fun v_ h_ hv_ => ?_)
          obtain ⟨rfl, r9, R9, rfl⟩ := hv_
          refine Z_eq (M := mL_isTold) (b := σ 36 i) (by rw [(L.2.2.2.2.2.1.1 (by omega)).1 i (by omega) (by omega)]; have := wl36 W i; split <;> omega) ?_
          refine J_aload (M := mL_isTold) dL_isTold_402 rfl ?_
          refine J_iload (M := mL_isTold) dL_isTold_404 rfl ?_
          refine L_iald (M := mL_isTold) (kf := 36) (N := 8) dL_isTold_406 (by decide) rfl (by decide) (by omega) (by omega) ?_
          refine Z_ic_ne (M := mL_isTold) (tgt := 414) (by unfold rg; omega) (by unfold rg; omega) dL_isTold_407 (by decide) (fun c_407 => ?_) (fun c_407 => ?_)
          · exact absurd rfl c_407
          · refine Z_iconst (M := mL_isTold) dL_isTold_410 ?_
            refine J_goto (M := mL_isTold) (tgt := 415) dL_isTold_411 (by decide) ?_
            refine J_istore (M := mL_isTold) dL_isTold_415 (by decide) ?_
            refine Z_iinc (M := mL_isTold) dL_isTold_417 rfl (by decide) ?_
            refine J_goto (M := mL_isTold) (tgt := 376) dL_isTold_420 (by decide) ?_
            exact J_sub (ih (i + 1) (by omega) (by omega) _ R9) (And.intro rfl (And.intro rfl (And.intro rfl (And.intro rfl (And.intro rfl (And.intro rfl (And.intro rfl (And.intro rfl (And.intro rfl (And.intro (vz (by push_cast; omega)) trivial))))))))))

set_option maxRecDepth 100000 in
set_option maxHeartbeats 4000000 in
theorem told_w {X : GX} {g : LH} {σ τ : TS} {π : Int → Int64} {c z : Int} {k n : Nat} {Q : LO → LH → Prop} (L : LW σ π τ) (W : WL σ) (M : LM σ) (hz : 0 ≤ z ∧ z ≤ 10000000) (kk : ∀ r, RR r τ c → J X mL_isTold 501 [some (vR (some (1, 0))), some (vR (some (30, 0))), some (vR (some (31, 0))), some (vR (some (32, 0))), some (vR (some (33, 0))), some (vR (some (36, 0))), some (vR (some (37, 0))), some (vI (iI z)), some (vI (iI 1)), none, none, none, none, none] [] (HW g σ π r) k n Q) : ∀ (a i : Nat), (i : Int) + a = σ 37 0 → ∀ r, RR r τ c → J X mL_isTold 426 [some (vR (some (1, 0))), some (vR (some (30, 0))), some (vR (some (31, 0))), some (vR (some (32, 0))), some (vR (some (33, 0))), some (vR (some (36, 0))), some (vR (some (37, 0))), some (vI (iI z)), some (vI (iI 1)), some (vI (iI i)), none, none, none, none] [] (HW g σ π r) (k + 2 * a) (n + 12 * a) Q := by
  have m0 := M.1
  have a3 := L.1.1.2.2.1
  intro a
  induction a with
  | zero =>
    intro i hi r R
    refine J_iload (M := mL_isTold) dL_isTold_426 rfl ?_
    refine J_aload (M := mL_isTold) dL_isTold_428 rfl ?_
    refine Z_iconst (M := mL_isTold) dL_isTold_430 ?_
    refine L_iald (M := mL_isTold) (kf := 37) (N := 10) dL_isTold_431 (by decide) rfl (by decide) (by omega) (by omega) ?_
    refine Z_ic_ge (M := mL_isTold) (tgt := 501) (by first | assumption | exact pI_rg _ | (unfold rg; omega)) (by first | assumption | exact pI_rg _ | (unfold rg; omega)) dL_isTold_432 (by decide) (fun c_432 => ?_) (fun c_432 => ?_)
    · exact J_sub (kk r R) (And.intro rfl (And.intro rfl (And.intro rfl (And.intro rfl (And.intro rfl (And.intro rfl (And.intro rfl (And.intro rfl (And.intro rfl trivial)))))))))
    · omega
  | succ a ih =>
    intro i hi r R
    refine J_le (k' := k + 2 * a + 2) (n' := n + 12 * a + 12) (by omega) (by omega) ?_
    obtain ⟨x1, x2, x3, -⟩ := L.2.2.1 i (by omega) (by omega)
    have b1 := wl30 W (2 * i)
    have b2 := wl30 W (2 * i + 1)
    refine J_iload (M := mL_isTold) dL_isTold_426 rfl ?_
    refine J_aload (M := mL_isTold) dL_isTold_428 rfl ?_
    refine Z_iconst (M := mL_isTold) dL_isTold_430 ?_
    refine L_iald (M := mL_isTold) (kf := 37) (N := 10) dL_isTold_431 (by decide) rfl (by decide) (by omega) (by omega) ?_
    refine Z_ic_ge (M := mL_isTold) (tgt := 501) (by first | assumption | exact pI_rg _ | (unfold rg; omega)) (by first | assumption | exact pI_rg _ | (unfold rg; omega)) dL_isTold_432 (by decide) (fun c_432 => ?_) (fun c_432 => ?_)
    · omega
    · refine J_iload (M := mL_isTold) dL_isTold_435 rfl ?_
      first
        | refine Z_pf (M := mL_isTold) (tgt := 501) dL_isTold_437 (by decide) (fun c_437 => ?_) (fun c_437 => ?_)
        | refine Z_if_eq (M := mL_isTold) (tgt := 501) (by first | assumption | exact pI_rg _ | (unfold rg; omega)) dL_isTold_437 (by decide) (fun c_437 => ?_) (fun c_437 => ?_)
      · exact absurd c_437 (by decide)
      · refine J_aload_n (M := mL_isTold) dL_isTold_440 rfl rfl ?_
        refine J_iload (M := mL_isTold) dL_isTold_441 rfl ?_
        refine J_callV (M := mL_isTold) (as := [_]) dL_isTold_443 ca_L_89 ⟨by decide, by decide⟩ lw1 rfl (Nat.le_of_ble_eq_true rfl) (k' := k + 2 * a + 1) (n' := n + 12 * a + 6) (by show _ + 1 ≤ _; omega) (by show _ + 6 ≤ _; omega) (cx0 (p_owner R (w := i) (by unfold rg; omega)) (gl011 ⟨by omega, by omega⟩)) (fun v_ h_ hv_ => ?_)
        obtain ⟨rfl, r10, R10, rfl⟩ := hv_
        refine Z_eq (M := mL_isTold) x1 ?_
        refine J_aload_n (M := mL_isTold) dL_isTold_446 rfl rfl ?_
        refine Z_iconst (M := mL_isTold) dL_isTold_447 ?_
        refine J_iload (M := mL_isTold) dL_isTold_448 rfl ?_
        refine Z_imul (M := mL_isTold) dL_isTold_450 ?_
        refine L_iald (M := mL_isTold) (kf := 30) (N := 32) dL_isTold_451 (by decide) rfl (by decide) (by omega) (by omega) ?_
        refine Z_ic_ne (M := mL_isTold) (tgt := 492) (by unfold rg; omega) (by unfold rg; omega) dL_isTold_452 (by decide) (fun c_452 => ?_) (fun c_452 => ?_)
        · exact absurd rfl c_452
        · refine J_aload_n (M := mL_isTold) dL_isTold_455 rfl rfl ?_
          refine J_iload (M := mL_isTold) dL_isTold_456 rfl ?_
          refine J_callV (M := mL_isTold) (as := [_]) dL_isTold_458 ca_L_92 ⟨by decide, by decide⟩ lw1 rfl (Nat.le_of_ble_eq_true rfl) (k' := k + 2 * a) (n' := n + 12 * a) (by show _ + 1 ≤ _; omega) (by show _ + 6 ≤ _; omega) (cx0 (p_mark R10 (w := i) (by unfold rg; omega)) (gl011 ⟨by omega, by omega⟩)) (fun v_ h_ hv_ => ?_)
          obtain ⟨rfl, r11, R11, rfl⟩ := hv_
          refine Z_eq (M := mL_isTold) x3 ?_
          refine Z_ij (M := mL_isTold) (pcB := 485) ((if σ 30 (2 * i + 1) = 3 then 2 else σ 30 (2 * i + 1))) (fun hj_485 => ?_) ?_
          · refine J_aload_n (M := mL_isTold) dL_isTold_461 rfl rfl ?_
            refine Z_iconst (M := mL_isTold) dL_isTold_462 ?_
            refine J_iload (M := mL_isTold) dL_isTold_463 rfl ?_
            refine Z_imul (M := mL_isTold) dL_isTold_465 ?_
            refine Z_iconst (M := mL_isTold) dL_isTold_466 ?_
            refine Z_iadd (M := mL_isTold) dL_isTold_467 ?_
            refine L_iald (M := mL_isTold) (kf := 30) (N := 32) dL_isTold_468 (by decide) rfl (by decide) (by omega) (by omega) ?_
            refine Z_iconst (M := mL_isTold) dL_isTold_469 ?_
            refine Z_ic_ne (M := mL_isTold) (tgt := 477) (by first | assumption | exact pI_rg _ | (unfold rg; omega)) (by first | assumption | exact pI_rg _ | (unfold rg; omega)) dL_isTold_470 (by decide) (fun c_470 => ?_) (fun c_470 => ?_)
            · refine J_aload_n (M := mL_isTold) dL_isTold_477 rfl rfl ?_
              refine Z_iconst (M := mL_isTold) dL_isTold_478 ?_
              refine J_iload (M := mL_isTold) dL_isTold_479 rfl ?_
              refine Z_imul (M := mL_isTold) dL_isTold_481 ?_
              refine Z_iconst (M := mL_isTold) dL_isTold_482 ?_
              refine Z_iadd (M := mL_isTold) dL_isTold_483 ?_
              refine L_iald (M := mL_isTold) (kf := 30) (N := 32) dL_isTold_484 (by decide) rfl (by decide) (by omega) (by omega) ?_
              exact hj_485 _ (by first | rw [if_pos (by omega)] | rw [if_neg (by omega)])
            · refine Z_iconst (M := mL_isTold) dL_isTold_473 ?_
              refine J_goto (M := mL_isTold) (tgt := 485) dL_isTold_474 (by decide) ?_
              exact hj_485 _ (by first | rw [if_pos (by omega)] | rw [if_neg (by omega)])
          refine Z_ic_ne (M := mL_isTold) (tgt := 492) (by unfold rg; split <;> omega) (by unfold rg; split <;> omega) dL_isTold_485 (by decide) (fun c_485 => ?_) (fun c_485 => ?_)
          · exact absurd rfl c_485
          · refine Z_iconst (M := mL_isTold) dL_isTold_488 ?_
            refine J_goto (M := mL_isTold) (tgt := 493) dL_isTold_489 (by decide) ?_
            refine J_istore (M := mL_isTold) dL_isTold_493 (by decide) ?_
            refine Z_iinc (M := mL_isTold) dL_isTold_495 rfl (by decide) ?_
            refine J_goto (M := mL_isTold) (tgt := 426) dL_isTold_498 (by decide) ?_
            exact J_sub (ih (i + 1) (by push_cast; omega) _ R11) (And.intro rfl (And.intro rfl (And.intro rfl (And.intro rfl (And.intro rfl (And.intro rfl (And.intro rfl (And.intro rfl (And.intro rfl (And.intro (vz (by push_cast; omega)) trivial))))))))))

set_option maxRecDepth 100000 in
set_option maxHeartbeats 4000000 in
theorem rL_isTold {X : GX} {g : LH} {σ ρ τ : TS} {π : Int → Int64} {c z : Int} (I : IV σ π g ρ τ c) (hz : 0 ≤ z ∧ z ≤ 10000000) : CT X mL_isTold [vR (some (1, 0)), vR (some (30, 0)), vR (some (31, 0)), vR (some (32, 0)), vR (some (33, 0)), vR (some (36, 0)), vR (some (37, 0)), vI (iI z)] (HW g σ π ρ) (rQ (KQ c)) := by
  obtain ⟨L, W, M, G, R, d8, dc⟩ := id I
  obtain ⟨m0, m1, m2, m3, m4, m6, m7, m9⟩ := id M
  have hnb := lnb_96 (σ := σ)
  have hwv : 0 ≤ σ 37 1 → σ 37 (2 + z % 2) = (if τ 17 0 = -1 then -1 else τ 18 (z % 2)) := fun h => by
    obtain ⟨⟨k1, k2, k3, k4⟩, -⟩ := L.2.2.2.1.2 h
    have nr := num_rg (b := σ 37 1) ⟨h, m1.2⟩
    rw [if_neg (by rw [k1]; omega)]
    have : z % 2 = 0 ∨ z % 2 = 1 := by omega
    rcases this with y | y
    · rw [y]; exact k2.symm
    · rw [y]; exact k3.symm
  have hj501 : ∀ r, RR r τ c → J X mL_isTold 501 [some (vR (some (1, 0))), some (vR (some (30, 0))), some (vR (some (31, 0))), some (vR (some (32, 0))), some (vR (some (33, 0))), some (vR (some (36, 0))), some (vR (some (37, 0))), some (vI (iI z)), some (vI (iI 1)), none, none, none, none, none] [] (HW g σ π r) 10 60 (rQ (KQ c)) := by
    clear R
    intro r0 R
    obtain ⟨f, hf⟩ : ∃ f, f = z % 4 := ⟨_, rfl⟩
    have hf3 : 0 ≤ f ∧ f ≤ 3 := by omega
    obtain ⟨h1, h2, h3, h4, h5, h6⟩ := smr6 L R.1 hf3
    have a2 := L.1.1.2.1
    obtain ⟨S, hS⟩ : ∃ S, S = lsm (σ 30) π (σ 32) (σ 36) f 0 6 := ⟨_, rfl⟩
    rw [← hS] at h1
    have d1 : S / 1000 % 10 = sm τ 30 f := by omega
    have d2 : S % 1000 - 100 = sm τ 31 f - sm τ 32 f := by omega
    refine J_iload (M := mL_isTold) dL_isTold_501 rfl ?_
    refine Z_iconst (M := mL_isTold) dL_isTold_503 ?_
    refine Z_irem (M := mL_isTold) (by omega) (by unfold rg; omega) (by decide) (by unfold rg; omega) dL_isTold_504 ?_
    refine Z_eq (M := mL_isTold) hf.symm ?_
    refine J_istore (M := mL_isTold) dL_isTold_505 (by decide) ?_
    refine J_aload_n (M := mL_isTold) dL_isTold_507 rfl rfl ?_
    refine J_aload_n (M := mL_isTold) dL_isTold_508 rfl rfl ?_
    refine J_aload_n (M := mL_isTold) dL_isTold_509 rfl rfl ?_
    refine J_aload (M := mL_isTold) dL_isTold_510 rfl ?_
    refine J_iload (M := mL_isTold) dL_isTold_512 rfl ?_
    refine Z_iconst (M := mL_isTold) dL_isTold_514 ?_
    refine M_callS (M := mL_isTold) (as := [_, _, _, _, _, _]) dL_isTold_515 ca_L_35 ⟨by decide, by decide⟩ rfl (Nat.le_of_ble_eq_true rfl) rfl rfl (rL_sum lw30 lw31 lw32 (wl30 W) (wl32 W) lw36 (wl36 W) hf3 (Or.inl rfl)) ?_
    refine Z_eq (M := mL_isTold) hS.symm ?_
    refine J_istore (M := mL_isTold) dL_isTold_518 (by decide) ?_
    refine J_iload (M := mL_isTold) dL_isTold_520 rfl ?_
    first
      | refine Z_pf (M := mL_isTold) (tgt := 591) dL_isTold_522 (by decide) (fun c_522 => ?_) (fun c_522 => ?_)
      | refine Z_if_eq (M := mL_isTold) (tgt := 591) (by first | assumption | exact pI_rg _ | (unfold rg; omega)) dL_isTold_522 (by decide) (fun c_522 => ?_) (fun c_522 => ?_)
    · exact absurd c_522 (by decide)
    · refine J_aload_n (M := mL_isTold) dL_isTold_525 rfl rfl ?_
      refine J_iload (M := mL_isTold) dL_isTold_526 rfl ?_
      refine J_callV (M := mL_isTold) (as := [_]) dL_isTold_528 ca_L_95 ⟨by decide, by decide⟩ lw1 rfl (Nat.le_of_ble_eq_true rfl) (k' := 4) (n' := 24) (by show _ + 1 ≤ _; omega) (by show _ + 6 ≤ _; omega) (cx0 (p_won R (f := f) (by unfold rg; omega)) (gl011 ⟨by omega, by omega⟩)) (fun v_ h_ hv_ => ?_)
      obtain ⟨rfl, r12, R12, rfl⟩ := hv_
      refine J_iload (M := mL_isTold) dL_isTold_531 rfl ?_
      refine Z_sipush (M := mL_isTold) dL_isTold_533 rfl ?_
      refine Z_idiv (M := mL_isTold) (by omega) (by first | assumption | exact pI_rg _ | (unfold rg; omega)) (by decide) (by first | assumption | exact pI_rg _ | (unfold rg; omega)) dL_isTold_536 ?_
      refine Z_bipush (M := mL_isTold) dL_isTold_537 rfl ?_
      refine Z_irem (M := mL_isTold) (by omega) (by first | assumption | exact pI_rg _ | (unfold rg; omega)) (by decide) (by first | assumption | exact pI_rg _ | (unfold rg; omega)) dL_isTold_539 ?_
      refine Z_eq (M := mL_isTold) d1 ?_
      refine Z_ic_ne (M := mL_isTold) (tgt := 591) (by unfold rg; omega) (by unfold rg; omega) dL_isTold_540 (by decide) (fun c_540 => ?_) (fun c_540 => ?_)
      · exact absurd rfl c_540
      · refine J_aload_n (M := mL_isTold) dL_isTold_543 rfl rfl ?_
        refine J_iload (M := mL_isTold) dL_isTold_544 rfl ?_
        refine J_callV (M := mL_isTold) (as := [_]) dL_isTold_546 ca_L_98 ⟨by decide, by decide⟩ lw1 rfl (Nat.le_of_ble_eq_true rfl) (k' := 3) (n' := 18) (by show _ + 1 ≤ _; omega) (by show _ + 6 ≤ _; omega) (cx0 (p_index R12 (f := f) (by unfold rg; omega)) (gl011 ⟨by omega, by omega⟩)) (fun v_ h_ hv_ => ?_)
        obtain ⟨rfl, r13, R13, rfl⟩ := hv_
        refine J_iload (M := mL_isTold) dL_isTold_549 rfl ?_
        refine Z_sipush (M := mL_isTold) dL_isTold_551 rfl ?_
        refine Z_irem (M := mL_isTold) (by omega) (by first | assumption | exact pI_rg _ | (unfold rg; omega)) (by decide) (by first | assumption | exact pI_rg _ | (unfold rg; omega)) dL_isTold_554 ?_
        refine Z_bipush (M := mL_isTold) dL_isTold_555 rfl ?_
        refine Z_isub (M := mL_isTold) dL_isTold_557 ?_
        refine Z_eq (M := mL_isTold) d2 ?_
        refine Z_ic_ne (M := mL_isTold) (tgt := 591) (by unfold rg; omega) (by unfold rg; omega) dL_isTold_558 (by decide) (fun c_558 => ?_) (fun c_558 => ?_)
        · exact absurd rfl c_558
        · refine J_iload (M := mL_isTold) dL_isTold_561 rfl ?_
          refine Z_iconst (M := mL_isTold) dL_isTold_563 ?_
          refine Z_irem (M := mL_isTold) (by omega) (by first | assumption | exact pI_rg _ | (unfold rg; omega)) (by decide) (by first | assumption | exact pI_rg _ | (unfold rg; omega)) dL_isTold_564 ?_
          refine Z_if_gt (M := mL_isTold) (tgt := 587) (by first | assumption | exact pI_rg _ | (unfold rg; omega)) dL_isTold_565 (by decide) (fun c_565 => ?_) (fun c_565 => ?_)
          · refine Z_iconst (M := mL_isTold) dL_isTold_587 ?_
            refine J_goto (M := mL_isTold) (tgt := 592) dL_isTold_588 (by decide) ?_
            refine J_zret (M := mL_isTold) dL_isTold_592 rfl (by first | exact pI_zb _ | exact zb_of (Or.inl rfl) | exact zb_of (Or.inr rfl) | assumption) ?_
            first
              | exact ⟨rfl, σ, π, g, _, τ, rfl, L, W, M, G, R14, d8, dc⟩
              | exact ⟨rfl, σ, π, g, _, τ, rfl, L, W, M, G, R13, d8, dc⟩
          · refine J_aload_n (M := mL_isTold) dL_isTold_568 rfl rfl ?_
            refine J_iload (M := mL_isTold) dL_isTold_569 rfl ?_
            refine J_callV (M := mL_isTold) (as := [_]) dL_isTold_571 ca_L_101 ⟨by decide, by decide⟩ lw1 rfl (Nat.le_of_ble_eq_true rfl) (k' := 2) (n' := 12) (by show _ + 1 ≤ _; omega) (by show _ + 6 ≤ _; omega) (cx0 (p_rankedAt R13 (f := f) (by unfold rg; omega)) (gl011 ⟨by omega, by omega⟩)) (fun v_ h_ hv_ => ?_)
            obtain ⟨rfl, r14, R14, rfl⟩ := hv_
            refine Z_eq (M := mL_isTold) (rank_i L R.1 hf3) ?_
            refine J_aload_n (M := mL_isTold) dL_isTold_574 rfl rfl ?_
            refine J_aload_n (M := mL_isTold) dL_isTold_575 rfl rfl ?_
            refine J_aload_n (M := mL_isTold) dL_isTold_576 rfl rfl ?_
            refine J_aload (M := mL_isTold) dL_isTold_577 rfl ?_
            refine J_iload (M := mL_isTold) dL_isTold_579 rfl ?_
            refine M_callS (M := mL_isTold) (as := [_, _, _, _, _]) dL_isTold_581 ca_L_104 ⟨by decide, by decide⟩ rfl (Nat.le_of_ble_eq_true rfl) rfl rfl (rL_ranked lw30 lw31 lw32 (wl30 W) (wl32 W) lw36 (wl36 W) (by unfold rg; omega)) ?_
            refine Z_ic_ne (M := mL_isTold) (tgt := 591) (by have := lrk_rg (w := σ 30) (π := π) (e := σ 32) (x := σ 36) (p := f) 4; unfold rg; omega) (by have := lrk_rg (w := σ 30) (π := π) (e := σ 32) (x := σ 36) (p := f) 4; unfold rg; omega) dL_isTold_584 (by decide) (fun c_584 => ?_) (fun c_584 => ?_)
            · exact absurd rfl c_584
            · refine Z_iconst (M := mL_isTold) dL_isTold_587 ?_
              refine J_goto (M := mL_isTold) (tgt := 592) dL_isTold_588 (by decide) ?_
              refine J_zret (M := mL_isTold) dL_isTold_592 rfl (by first | exact pI_zb _ | exact zb_of (Or.inl rfl) | exact zb_of (Or.inr rfl) | assumption) ?_
              first
                | exact ⟨rfl, σ, π, g, _, τ, rfl, L, W, M, G, R14, d8, dc⟩
                | exact ⟨rfl, σ, π, g, _, τ, rfl, L, W, M, G, R13, d8, dc⟩
  have hj423 : ∀ r, RR r τ c → J X mL_isTold 423 [some (vR (some (1, 0))), some (vR (some (30, 0))), some (vR (some (31, 0))), some (vR (some (32, 0))), some (vR (some (33, 0))), some (vR (some (36, 0))), some (vR (some (37, 0))), some (vI (iI z)), some (vI (iI 1)), none, none, none, none, none] [] (HW g σ π r) 50 300 (rQ (KQ c)) := by
    intro r1 Q1
    refine Z_iconst (M := mL_isTold) dL_isTold_423 ?_
    refine J_istore (M := mL_isTold) dL_isTold_424 (by decide) ?_
    refine J_le (M := mL_isTold) (k' := 10 + 2 * (σ 37 0).toNat) (n' := 60 + 12 * (σ 37 0).toNat) (by omega) (by omega) ?_
    exact J_sub (told_w L W M hz hj501 (σ 37 0).toNat 0 (by omega) _ Q1) (And.intro rfl (And.intro rfl (And.intro rfl (And.intro rfl (And.intro rfl (And.intro rfl (And.intro rfl (And.intro rfl (And.intro rfl (And.intro rfl trivial))))))))))
  have hj373 : ∀ r, RR r τ c → J X mL_isTold 373 [some (vR (some (1, 0))), some (vR (some (30, 0))), some (vR (some (31, 0))), some (vR (some (32, 0))), some (vR (some (33, 0))), some (vR (some (36, 0))), some (vR (some (37, 0))), some (vI (iI z)), some (vI (iI 1)), none, none, none, none, none] [] (HW g σ π r) 60 360 (rQ (KQ c)) := by
    intro r1 Q1
    refine Z_iconst (M := mL_isTold) dL_isTold_373 ?_
    refine J_istore (M := mL_isTold) dL_isTold_374 (by decide) ?_
    refine J_le (M := mL_isTold) (k' := 50 + 1 * 7) (n' := 300 + 6 * 7) (by decide) (by decide) ?_
    exact J_sub (told_n L W M hz hj423 7 1 rfl (by decide) _ Q1) (And.intro rfl (And.intro rfl (And.intro rfl (And.intro rfl (And.intro rfl (And.intro rfl (And.intro rfl (And.intro rfl (And.intro rfl (And.intro rfl trivial))))))))))
  refine CT_of (by decide +kernel) rfl (Nat.le_of_ble_eq_true rfl) ?_
  refine J_aload_n (M := mL_isTold) dL_isTold_0 rfl rfl ?_
  refine J_callV (M := mL_isTold) (as := []) dL_isTold_1 ca_L_43 ⟨by decide, by decide⟩ lw1 rfl (Nat.le_of_ble_eq_true rfl) (k' := 400) (n' := 2400) (by decide) (by decide) (ck0 (p_piste R)) (fun v_ h_ hv_ => ?_)
  obtain ⟨rfl, rfl⟩ := hv_
  refine Z_ij (M := mL_isTold) (pcB := 22) (τ 17 0) (fun hj_22 => ?_) ?_
  · refine J_aload (M := mL_isTold) dL_isTold_4 rfl ?_
    refine Z_iconst (M := mL_isTold) dL_isTold_6 ?_
    refine L_iald (M := mL_isTold) (kf := 37) (N := 10) dL_isTold_7 (by decide) rfl (by decide) (by omega) (by omega) ?_
    refine Z_if_ge (M := mL_isTold) (tgt := 15) (by first | assumption | exact pI_rg _ | (unfold rg; omega)) dL_isTold_8 (by decide) (fun c_8 => ?_) (fun c_8 => ?_)
    · refine J_aload (M := mL_isTold) dL_isTold_15 rfl ?_
      refine Z_iconst (M := mL_isTold) dL_isTold_17 ?_
      refine L_iald (M := mL_isTold) (kf := 37) (N := 10) dL_isTold_18 (by decide) rfl (by decide) (by omega) (by omega) ?_
      refine M_callS (M := mL_isTold) (as := [_]) dL_isTold_19 ca_L_49 ⟨by decide, by decide⟩ rfl (Nat.le_of_ble_eq_true rfl) rfl rfl (rL_number (by omega)) ?_
      exact hj_22 _ (by first | exact (L.2.2.2.1.1 (by omega)).symm | exact (L.2.2.2.1.2 (by omega)).1.1.symm)
    · refine Z_iconst (M := mL_isTold) dL_isTold_11 ?_
      refine J_goto (M := mL_isTold) (tgt := 22) dL_isTold_12 (by decide) ?_
      exact hj_22 _ (by first | exact (L.2.2.2.1.1 (by omega)).symm | exact (L.2.2.2.1.2 (by omega)).1.1.symm)
  refine Z_ic_ne (M := mL_isTold) (tgt := 104) (by have := wf17 R.1 0; unfold rg; omega) (by have := wf17 R.1 0; unfold rg; omega) dL_isTold_22 (by decide) (fun c_22 => ?_) (fun c_22 => ?_)
  · exact absurd rfl c_22
  · refine J_aload_n (M := mL_isTold) dL_isTold_25 rfl rfl ?_
    refine J_callV (M := mL_isTold) (as := []) dL_isTold_26 ca_L_53 ⟨by decide, by decide⟩ lw1 rfl (Nat.le_of_ble_eq_true rfl) (k' := 400) (n' := 2400) (by decide) (by decide) (ck0 (p_isFencing R)) (fun v_ h_ hv_ => ?_)
    obtain ⟨rfl, rfl⟩ := hv_
    refine Z_eq (M := mL_isTold) L.1.2.1 ?_
    refine Z_ij (M := mL_isTold) (pcB := 42) (0) (fun hj_42 => ?_) ?_
    · refine J_aload (M := mL_isTold) dL_isTold_29 rfl ?_
      refine Z_iconst (M := mL_isTold) dL_isTold_31 ?_
      refine L_iald (M := mL_isTold) (kf := 37) (N := 10) dL_isTold_32 (by decide) rfl (by decide) (by omega) (by omega) ?_
      refine Z_iconst (M := mL_isTold) dL_isTold_33 ?_
      refine Z_ic_ne (M := mL_isTold) (tgt := 41) (by first | assumption | exact pI_rg _ | (unfold rg; omega)) (by first | assumption | exact pI_rg _ | (unfold rg; omega)) dL_isTold_34 (by decide) (fun c_34 => ?_) (fun c_34 => ?_)
      · refine Z_iconst (M := mL_isTold) dL_isTold_41 ?_
        exact hj_42 _ (by omega)
      · refine Z_iconst (M := mL_isTold) dL_isTold_37 ?_
        refine J_goto (M := mL_isTold) (tgt := 42) dL_isTold_38 (by decide) ?_
        exact hj_42 _ (by omega)
    refine Z_ic_ne (M := mL_isTold) (tgt := 104) (by first | assumption | exact pI_rg _ | (unfold rg; omega)) (by first | assumption | exact pI_rg _ | (unfold rg; omega)) dL_isTold_42 (by decide) (fun c_42 => ?_) (fun c_42 => ?_)
    · exact absurd rfl c_42
    · refine J_aload_n (M := mL_isTold) dL_isTold_45 rfl rfl ?_
      refine J_iload (M := mL_isTold) dL_isTold_46 rfl ?_
      refine Z_iconst (M := mL_isTold) dL_isTold_48 ?_
      refine Z_irem (M := mL_isTold) (by omega) (by first | assumption | exact pI_rg _ | (unfold rg; omega)) (by decide) (by first | assumption | exact pI_rg _ | (unfold rg; omega)) dL_isTold_49 ?_
      refine J_callV (M := mL_isTold) (as := [_]) dL_isTold_50 ca_L_57 ⟨by decide, by decide⟩ lw1 rfl (Nat.le_of_ble_eq_true rfl) (k' := 399) (n' := 2394) (by show _ + 1 ≤ _; omega) (by show _ + 6 ≤ _; omega) (cx0 (p_weaponOf R (s := z % 2) (by unfold rg; omega)) (gl011 ⟨by omega, by omega⟩)) (fun v_ h_ hv_ => ?_)
      obtain ⟨rfl, r15, R15, rfl⟩ := hv_
      refine Z_ij (M := mL_isTold) (pcB := 73) ((if τ 17 0 = -1 then -1 else τ 18 (z % 2))) (fun hj_73 => ?_) ?_
      · refine J_aload (M := mL_isTold) dL_isTold_53 rfl ?_
        refine Z_iconst (M := mL_isTold) dL_isTold_55 ?_
        refine L_iald (M := mL_isTold) (kf := 37) (N := 10) dL_isTold_56 (by decide) rfl (by decide) (by omega) (by omega) ?_
        refine Z_if_ge (M := mL_isTold) (tgt := 64) (by first | assumption | exact pI_rg _ | (unfold rg; omega)) dL_isTold_57 (by decide) (fun c_57 => ?_) (fun c_57 => ?_)
        · refine J_aload (M := mL_isTold) dL_isTold_64 rfl ?_
          refine Z_iconst (M := mL_isTold) dL_isTold_66 ?_
          refine J_iload (M := mL_isTold) dL_isTold_67 rfl ?_
          refine Z_iconst (M := mL_isTold) dL_isTold_69 ?_
          refine Z_irem (M := mL_isTold) (by omega) (by first | assumption | exact pI_rg _ | (unfold rg; omega)) (by decide) (by first | assumption | exact pI_rg _ | (unfold rg; omega)) dL_isTold_70 ?_
          refine Z_iadd (M := mL_isTold) dL_isTold_71 ?_
          refine L_iald (M := mL_isTold) (kf := 37) (N := 10) dL_isTold_72 (by decide) rfl (by decide) (by omega) (by omega) ?_
          exact hj_73 _ (by first | (rw [if_pos (L.2.2.2.1.1 (by omega))]) | exact hwv (by omega))
        · refine Z_iconst (M := mL_isTold) dL_isTold_60 ?_
          refine J_goto (M := mL_isTold) (tgt := 73) dL_isTold_61 (by decide) ?_
          exact hj_73 _ (by first | (rw [if_pos (L.2.2.2.1.1 (by omega))]) | exact hwv (by omega))
      refine Z_ic_ne (M := mL_isTold) (tgt := 104) (by have := wf18 R.1 (z % 2); unfold rg; split <;> omega) (by have := wf18 R.1 (z % 2); unfold rg; split <;> omega) dL_isTold_73 (by decide) (fun c_73 => ?_) (fun c_73 => ?_)
      · exact absurd rfl c_73
      · refine J_aload_n (M := mL_isTold) dL_isTold_76 rfl rfl ?_
        refine J_callV (M := mL_isTold) (as := []) dL_isTold_77 ca_L_60 ⟨by decide, by decide⟩ lw1 rfl (Nat.le_of_ble_eq_true rfl) (k' := 399) (n' := 2394) (by decide) (by decide) (ck0 (p_size R15)) (fun v_ h_ hv_ => ?_)
        obtain ⟨rfl, rfl⟩ := hv_
        refine Z_eq (M := mL_isTold) L.1.2.2.1 ?_
        refine J_aload (M := mL_isTold) dL_isTold_80 rfl ?_
        refine Z_bipush (M := mL_isTold) dL_isTold_82 rfl ?_
        refine L_iald (M := mL_isTold) (kf := 37) (N := 10) dL_isTold_84 (by decide) rfl (by decide) (by omega) (by omega) ?_
        refine Z_ic_ne (M := mL_isTold) (tgt := 104) (by first | assumption | exact pI_rg _ | (unfold rg; omega)) (by first | assumption | exact pI_rg _ | (unfold rg; omega)) dL_isTold_85 (by decide) (fun c_85 => ?_) (fun c_85 => ?_)
        · exact absurd rfl c_85
        · refine J_aload_n (M := mL_isTold) dL_isTold_88 rfl rfl ?_
          refine J_callV (M := mL_isTold) (as := []) dL_isTold_89 ca_L_63 ⟨by decide, by decide⟩ lw1 rfl (Nat.le_of_ble_eq_true rfl) (k' := 399) (n' := 2394) (by decide) (by decide) (ck0 (p_gone R15)) (fun v_ h_ hv_ => ?_)
          obtain ⟨rfl, rfl⟩ := hv_
          refine Z_eq (M := mL_isTold) L.1.2.2.2 ?_
          refine J_aload (M := mL_isTold) dL_isTold_92 rfl ?_
          refine Z_bipush (M := mL_isTold) dL_isTold_94 rfl ?_
          refine L_iald (M := mL_isTold) (kf := 37) (N := 10) dL_isTold_96 (by decide) rfl (by decide) (by omega) (by omega) ?_
          refine Z_ic_ne (M := mL_isTold) (tgt := 104) (by unfold rg; omega) (by unfold rg; omega) dL_isTold_97 (by decide) (fun c_97 => ?_) (fun c_97 => ?_)
          · exact absurd rfl c_97
          · refine Z_iconst (M := mL_isTold) dL_isTold_100 ?_
            refine J_goto (M := mL_isTold) (tgt := 105) dL_isTold_101 (by decide) ?_
            refine J_istore (M := mL_isTold) dL_isTold_105 (by decide) ?_
            refine Z_iconst (M := mL_isTold) dL_isTold_107 ?_
            refine J_istore (M := mL_isTold) dL_isTold_108 (by decide) ?_
            refine J_le (M := mL_isTold) (k' := 60 + 20 * (lnb σ).toNat) (n' := 360 + 120 * (lnb σ).toNat) (by omega) (by omega) ?_
            exact J_sub (told_b L W M hz hj373 (lnb σ).toNat 0 (by omega) _ R15) (And.intro rfl (And.intro rfl (And.intro rfl (And.intro rfl (And.intro rfl (And.intro rfl (And.intro rfl (And.intro rfl (And.intro rfl (And.intro rfl trivial))))))))))

