/-! THE LAW: one call after the other -/
theorem z_okb {ρ τ : TS} {c : Int} (R : RR ρ τ c) : ¬ τ 17 0 = -1 → okb (τ 17 0) := by
  intro h
  rcases pst_c R with ⟨h1, -⟩ | ⟨-, -, -, -, -, -, h7, -⟩ | ⟨-, -, -, -, -, -, h7, -⟩
  · exact absurd h1 h
  · exact h7
  · exact h7
theorem z_okp {ρ τ : TS} {c : Int} (R : RR ρ τ c) : ¬ τ 19 0 = 0 → okp τ := by
  intro h
  rcases pst_c R with ⟨-, h2, -⟩ | ⟨-, h2, -⟩ | ⟨-, -, -, -, -, -, h7, -, h9⟩
  · exact absurd h2 h
  · exact absurd h2 h
  · exact ⟨h7, h9⟩
theorem z_fr {ρ τ : TS} {c : Int} (R : RR ρ τ c) : ¬ τ 17 0 = -1 → τ 19 0 = 0 → ¬ τ 20 0 = 0 → 1 ≤ τ 10 (slo (τ 17 0)) := by
  intro h h19 h20
  rcases pst_c R with ⟨h1, -⟩ | ⟨-, -, -, -, -, -, -, -, -, h10⟩ | ⟨-, h2, -⟩
  · exact absurd h1 h
  · exact h10 h20
  · exact absurd h19 h2
theorem z_h9 {ρ τ : TS} {c : Int} (R : RR ρ τ c) : τ 8 0 = 0 → τ 9 0 = 0 := R.2.2.1.2.2.2.2.2.1.mp
theorem z_all {ρ τ : TS} {c : Int} (R : RR ρ τ c) : ¬ τ 17 0 = -1 → wo τ (τ 17 0) = -1 → okp τ := by
  intro h1 hwo
  by_cases h2 : τ 19 0 = 0
  · refine ⟨z_okb R h1, ?_⟩
    have hid := ((pst_c R).resolve_left (fun z => h1 z.1)).resolve_right (fun z => z.2.1 h2)
    obtain ⟨-, -, i3, -⟩ := hid
    have hfa := fa_p R h1 i3
    have hcb := (cbf R i3).mpr ⟨hfa.1, hfa.2, hwo⟩
    have w10 := wf10 R.1 (slo (τ 17 0))
    have e := (te_r R.1 (slo (τ 17 0))).2.2.2.2.2
    rw [hcb.2.2] at e
    by_cases z : 12 ≤ τ 10 (slo (τ 17 0))
    · rw [if_pos (Or.inr (Or.inr z))] at e
      split at e <;> omega
    · omega
  · exact z_okp R h2
set_option maxRecDepth 100000 in
set_option maxHeartbeats 4000000 in
theorem o_0 {X : GX} {f : Nat → Int64} {ρ τ : TS} {c i : Int} {k n : Nat} {Q : LO → LH → Prop} (hL : xL X ≤ 2049) (h0 : 1 ≤ i) (h3 : i + 3 < xL X) (hc : 0 ≤ c ∧ c ≤ 90000) (R : RR ρ τ c) (kk : ∀ f r u, RR r u (c + 1) → J X mL_law 1869 [some (vR (some tScr)), some (vR (some (1, 0))), some (vR (some (20, 0))), some (vR (some (30, 0))), some (vI (iI i)), none, none] [] (HL f r u) k n Q) : J X mL_law 192 [some (vR (some tScr)), some (vR (some (1, 0))), some (vR (some (20, 0))), some (vR (some (30, 0))), some (vI (iI i)), none, none] [] (HL f ρ τ) (k + 800) (n + 6200) Q := by
  refine J_aload_n (M := mL_law) dL_law_192 rfl rfl ?_
  refine J_aload_n (M := mL_law) dL_law_193 rfl rfl ?_
  refine Z_h (M := mL_law) (show HL f ρ τ = hk (hm (ob f) τ) ρ from hm_hk) ?_
  refine J_callW (M := mL_law) (as := [vR (some (1, 0)), vR (some (30, 0))]) dL_law_194 ca_L_111 ⟨by decide, by decide⟩ rfl (Nat.le_of_ble_eq_true rfl) (k' := k) (n' := n) (Nat.add_le_add_left (by decide) k) (Nat.add_le_add_left (by decide) n) (l_fencer ob_30 (p_fencer (RR_33 (x := 0) R (by decide)) )) (fun v_ h_ hv_ => ?_)
  obtain ⟨rfl, f1, r1, rfl, h1, h2⟩ := LQ_ob hv_
  refine J_istore (M := mL_law) dL_law_197 (by decide) ?_
  refine J_aload_n (M := mL_law) dL_law_199 rfl rfl ?_
  refine M_call (M := mL_law) (as := []) dL_law_200 ca_L_114 ⟨by decide, by decide⟩ rfl (Nat.le_of_ble_eq_true rfl) rfl rfl (c_fencer R.1  ) (fun v_ t_ hv_ => ?_)
  obtain ⟨x, rfl, e33, hgr, hx, R6⟩ := opA (c' := c + 1) R (by omega) h1 h2 (fun _ => rfl) (fun z => RR_mono (c := c) (by omega) z) (rfl) hv_
  refine J_istore (M := mL_law) dL_law_203 (by decide) ?_
  refine J_aload_n (M := mL_law) dL_law_205 rfl rfl ?_
  refine M_call (M := mL_law) (as := []) dL_law_206 ca_L_115 ⟨by decide, by decide⟩ rfl (Nat.le_of_ble_eq_true rfl) rfl rfl c_thrown (fun v_ t9 hv9 => ?_)
  obtain ⟨rfl, rfl⟩ := hv9
  rw [e33]
  refine J_iload (M := mL_law) dL_law_209 rfl ?_
  refine Z_ic_eq (M := mL_law) (tgt := 216) hgr hgr dL_law_211 (by decide) (fun c_211 => ?_) (fun c_211 => ?_)
  · refine J_iload (M := mL_law) dL_law_216 rfl ?_
    refine Z_if_ne (M := mL_law) (tgt := 233) hgr dL_law_218 (by decide) (fun c_218 => ?_) (fun c_218 => ?_)
    · refine J_goto (M := mL_law) (tgt := 1869) dL_law_233 (by decide) ?_
      exact J_sub (kk _ _ _ R6) (And.intro rfl (And.intro rfl (And.intro rfl (And.intro rfl (And.intro rfl trivial)))))
    · refine J_aload_n (M := mL_law) dL_law_221 rfl rfl ?_
      refine Z_iconst (M := mL_law) dL_law_222 ?_
      refine J_lald (M := mL_law) (j := 0) dL_law_223 HL_30 (ix_iI (by decide) (by decide) (by decide)) ?_
      rw [(hx c_218).1]
      refine J_iload (M := mL_law) dL_law_224 rfl ?_
      refine J_i2l (M := mL_law) dL_law_226 ?_
      refine J_lcmp (M := mL_law) dL_law_227 ?_
      rw [lg_self]
      refine Z_if_eq (M := mL_law) (tgt := 233) rg0 dL_law_228 (by decide) (fun c_228 => ?_) (fun c_228 => ?_)
      · refine J_goto (M := mL_law) (tgt := 1869) dL_law_233 (by decide) ?_
        exact J_sub (kk _ _ _ R6) (And.intro rfl (And.intro rfl (And.intro rfl (And.intro rfl (And.intro rfl trivial)))))
      · exact absurd rfl c_228
  · exact absurd rfl c_211

set_option maxRecDepth 100000 in
set_option maxHeartbeats 4000000 in
theorem o_1 {X : GX} {f : Nat → Int64} {ρ τ : TS} {c i : Int} {k n : Nat} {Q : LO → LH → Prop} (hL : xL X ≤ 2049) (h0 : 1 ≤ i) (h3 : i + 3 < xL X) (hc : 0 ≤ c ∧ c ≤ 90000) (R : RR ρ τ c) (kk : ∀ f r u, RR r u (c + 1) → J X mL_law 1869 [some (vR (some tScr)), some (vR (some (1, 0))), some (vR (some (20, 0))), some (vR (some (30, 0))), some (vI (iI i)), none, none] [] (HL f r u) k n Q) : J X mL_law 236 [some (vR (some tScr)), some (vR (some (1, 0))), some (vR (some (20, 0))), some (vR (some (30, 0))), some (vI (iI i)), none, none] [] (HL f ρ τ) (k + 800) (n + 6200) Q := by
  refine J_aload_n (M := mL_law) dL_law_236 rfl rfl ?_
  refine J_aload_n (M := mL_law) dL_law_237 rfl rfl ?_
  refine J_iload (M := mL_law) dL_law_238 rfl ?_
  refine Z_iconst (M := mL_law) dL_law_240 ?_
  refine Z_iadd (M := mL_law) dL_law_241 ?_
  refine Z_sld (M := mL_law) dL_law_242 hL (by omega) (by omega) ?_
  refine J_aload_n (M := mL_law) dL_law_243 rfl rfl ?_
  refine Z_h (M := mL_law) (show HL f ρ τ = hk (hm (ob f) τ) ρ from hm_hk) ?_
  refine J_callW (M := mL_law) (as := [vR (some (1, 0)), vI (iI (sx X (i + 1))), vR (some (30, 0))]) dL_law_244 ca_L_118 ⟨by decide, by decide⟩ rfl (Nat.le_of_ble_eq_true rfl) (k' := k) (n' := n) (Nat.add_le_add_left (by decide) k) (Nat.add_le_add_left (by decide) n) (l_weapon ob_30 (p_weapon (RR_33 (x := 0) R (by decide)) sx_rg)) (fun v_ h_ hv_ => ?_)
  obtain ⟨rfl, f1, r1, rfl, h1, h2⟩ := LQ_ob hv_
  refine J_istore (M := mL_law) dL_law_247 (by decide) ?_
  refine J_aload_n (M := mL_law) dL_law_249 rfl rfl ?_
  refine J_aload_n (M := mL_law) dL_law_250 rfl rfl ?_
  refine J_iload (M := mL_law) dL_law_251 rfl ?_
  refine Z_iconst (M := mL_law) dL_law_253 ?_
  refine Z_iadd (M := mL_law) dL_law_254 ?_
  refine Z_sld (M := mL_law) dL_law_255 hL (by omega) (by omega) ?_
  refine M_call (M := mL_law) (as := [vI (iI (sx X (i + 1)))]) dL_law_256 ca_L_121 ⟨by decide, by decide⟩ rfl (Nat.le_of_ble_eq_true rfl) rfl rfl (c_weapon R.1 sx_rg ) (fun v_ t_ hv_ => ?_)
  obtain ⟨x, rfl, e33, hgr, hx, R6⟩ := opA (c' := c + 1) R (by omega) h1 h2 (fun _ => rfl) (fun z => RR_mono (c := c) (by omega) z) (rfl) hv_
  refine J_istore (M := mL_law) dL_law_259 (by decide) ?_
  refine J_aload_n (M := mL_law) dL_law_261 rfl rfl ?_
  refine M_call (M := mL_law) (as := []) dL_law_262 ca_L_115 ⟨by decide, by decide⟩ rfl (Nat.le_of_ble_eq_true rfl) rfl rfl c_thrown (fun v_ t9 hv9 => ?_)
  obtain ⟨rfl, rfl⟩ := hv9
  rw [e33]
  refine J_iload (M := mL_law) dL_law_265 rfl ?_
  refine Z_ic_eq (M := mL_law) (tgt := 272) hgr hgr dL_law_267 (by decide) (fun c_267 => ?_) (fun c_267 => ?_)
  · refine J_iload (M := mL_law) dL_law_272 rfl ?_
    refine Z_if_ne (M := mL_law) (tgt := 289) hgr dL_law_274 (by decide) (fun c_274 => ?_) (fun c_274 => ?_)
    · refine J_goto (M := mL_law) (tgt := 1869) dL_law_289 (by decide) ?_
      exact J_sub (kk _ _ _ R6) (And.intro rfl (And.intro rfl (And.intro rfl (And.intro rfl (And.intro rfl trivial)))))
    · refine J_aload_n (M := mL_law) dL_law_277 rfl rfl ?_
      refine Z_iconst (M := mL_law) dL_law_278 ?_
      refine J_lald (M := mL_law) (j := 0) dL_law_279 HL_30 (ix_iI (by decide) (by decide) (by decide)) ?_
      rw [(hx c_274).1]
      refine J_iload (M := mL_law) dL_law_280 rfl ?_
      refine J_i2l (M := mL_law) dL_law_282 ?_
      refine J_lcmp (M := mL_law) dL_law_283 ?_
      rw [lg_self]
      refine Z_if_eq (M := mL_law) (tgt := 289) rg0 dL_law_284 (by decide) (fun c_284 => ?_) (fun c_284 => ?_)
      · refine J_goto (M := mL_law) (tgt := 1869) dL_law_289 (by decide) ?_
        exact J_sub (kk _ _ _ R6) (And.intro rfl (And.intro rfl (And.intro rfl (And.intro rfl (And.intro rfl trivial)))))
      · exact absurd rfl c_284
  · exact absurd rfl c_267

set_option maxRecDepth 100000 in
set_option maxHeartbeats 4000000 in
theorem o_2 {X : GX} {f : Nat → Int64} {ρ τ : TS} {c i : Int} {k n : Nat} {Q : LO → LH → Prop} (hL : xL X ≤ 2049) (h0 : 1 ≤ i) (h3 : i + 3 < xL X) (hc : 0 ≤ c ∧ c ≤ 90000) (R : RR ρ τ c) (kk : ∀ f r u, RR r u (c + 1) → J X mL_law 1869 [some (vR (some tScr)), some (vR (some (1, 0))), some (vR (some (20, 0))), some (vR (some (30, 0))), some (vI (iI i)), none, none] [] (HL f r u) k n Q) : J X mL_law 292 [some (vR (some tScr)), some (vR (some (1, 0))), some (vR (some (20, 0))), some (vR (some (30, 0))), some (vI (iI i)), none, none] [] (HL f ρ τ) (k + 800) (n + 6200) Q := by
  refine J_aload_n (M := mL_law) dL_law_292 rfl rfl ?_
  refine J_aload_n (M := mL_law) dL_law_293 rfl rfl ?_
  refine J_iload (M := mL_law) dL_law_294 rfl ?_
  refine Z_iconst (M := mL_law) dL_law_296 ?_
  refine Z_iadd (M := mL_law) dL_law_297 ?_
  refine Z_sld (M := mL_law) dL_law_298 hL (by omega) (by omega) ?_
  refine J_aload_n (M := mL_law) dL_law_299 rfl rfl ?_
  refine J_iload (M := mL_law) dL_law_300 rfl ?_
  refine Z_iconst (M := mL_law) dL_law_302 ?_
  refine Z_iadd (M := mL_law) dL_law_303 ?_
  refine Z_sld (M := mL_law) dL_law_304 hL (by omega) (by omega) ?_
  refine J_aload_n (M := mL_law) dL_law_305 rfl rfl ?_
  refine J_iload (M := mL_law) dL_law_306 rfl ?_
  refine Z_iconst (M := mL_law) dL_law_308 ?_
  refine Z_iadd (M := mL_law) dL_law_309 ?_
  refine Z_sld (M := mL_law) dL_law_310 hL (by omega) (by omega) ?_
  refine J_aload_n (M := mL_law) dL_law_311 rfl rfl ?_
  refine Z_h (M := mL_law) (show HL f ρ τ = hk (hm (ob f) τ) ρ from hm_hk) ?_
  refine J_callW (M := mL_law) (as := [vR (some (1, 0)), vI (iI (sx X (i + 1))), vI (iI (sx X (i + 2))), vI (iI (sx X (i + 3))), vR (some (30, 0))]) dL_law_312 ca_L_122 ⟨by decide, by decide⟩ rfl (Nat.le_of_ble_eq_true rfl) (k' := k) (n' := n) (Nat.add_le_add_left (by decide) k) (Nat.add_le_add_left (by decide) n) (l_test ob_30 (p_test (RR_33 (x := 0) R (by decide)) sx_rg sx_rg sx_rg)) (fun v_ h_ hv_ => ?_)
  obtain ⟨rfl, f1, r1, rfl, h1, h2⟩ := LQ_ob hv_
  refine J_istore (M := mL_law) dL_law_315 (by decide) ?_
  refine J_aload_n (M := mL_law) dL_law_317 rfl rfl ?_
  refine J_aload_n (M := mL_law) dL_law_318 rfl rfl ?_
  refine J_iload (M := mL_law) dL_law_319 rfl ?_
  refine Z_iconst (M := mL_law) dL_law_321 ?_
  refine Z_iadd (M := mL_law) dL_law_322 ?_
  refine Z_sld (M := mL_law) dL_law_323 hL (by omega) (by omega) ?_
  refine J_aload_n (M := mL_law) dL_law_324 rfl rfl ?_
  refine J_iload (M := mL_law) dL_law_325 rfl ?_
  refine Z_iconst (M := mL_law) dL_law_327 ?_
  refine Z_iadd (M := mL_law) dL_law_328 ?_
  refine Z_sld (M := mL_law) dL_law_329 hL (by omega) (by omega) ?_
  refine J_aload_n (M := mL_law) dL_law_330 rfl rfl ?_
  refine J_iload (M := mL_law) dL_law_331 rfl ?_
  refine Z_iconst (M := mL_law) dL_law_333 ?_
  refine Z_iadd (M := mL_law) dL_law_334 ?_
  refine Z_sld (M := mL_law) dL_law_335 hL (by omega) (by omega) ?_
  refine M_call (M := mL_law) (as := [vI (iI (sx X (i + 1))), vI (iI (sx X (i + 2))), vI (iI (sx X (i + 3)))]) dL_law_336 ca_L_125 ⟨by decide, by decide⟩ rfl (Nat.le_of_ble_eq_true rfl) rfl rfl (c_test R.1 sx_rg sx_rg sx_rg ) (fun v_ t_ hv_ => ?_)
  obtain ⟨x, rfl, e33, hgr, hx, R6⟩ := opA (c' := c + 1) R (by omega) h1 h2 (fun _ => rfl) (fun z => RR_mono (c := c) (by omega) z) (fol_33) hv_
  refine J_istore (M := mL_law) dL_law_339 (by decide) ?_
  refine J_aload_n (M := mL_law) dL_law_341 rfl rfl ?_
  refine M_call (M := mL_law) (as := []) dL_law_342 ca_L_115 ⟨by decide, by decide⟩ rfl (Nat.le_of_ble_eq_true rfl) rfl rfl c_thrown (fun v_ t9 hv9 => ?_)
  obtain ⟨rfl, rfl⟩ := hv9
  rw [e33]
  refine J_iload (M := mL_law) dL_law_345 rfl ?_
  refine Z_ic_eq (M := mL_law) (tgt := 352) hgr hgr dL_law_347 (by decide) (fun c_347 => ?_) (fun c_347 => ?_)
  · refine J_iload (M := mL_law) dL_law_352 rfl ?_
    refine Z_if_ne (M := mL_law) (tgt := 376) hgr dL_law_354 (by decide) (fun c_354 => ?_) (fun c_354 => ?_)
    · refine J_goto (M := mL_law) (tgt := 1869) dL_law_376 (by decide) ?_
      exact J_sub (kk _ _ _ R6) (And.intro rfl (And.intro rfl (And.intro rfl (And.intro rfl (And.intro rfl trivial)))))
    · refine J_aload_n (M := mL_law) dL_law_357 rfl rfl ?_
      refine Z_iconst (M := mL_law) dL_law_358 ?_
      refine J_lald (M := mL_law) (j := 0) dL_law_359 HL_30 (ix_iI (by decide) (by decide) (by decide)) ?_
      obtain ⟨hx1, rfl⟩ := hx c_354
      rw [hx1]
      refine J_iload (M := mL_law) dL_law_360 rfl ?_
      first
        | refine Z_pf (M := mL_law) (tgt := 369) dL_law_362 (by decide) (fun c_362 => ?_) (fun c_362 => ?_)
        | refine Z_if_eq (M := mL_law) (tgt := 369) (by first | assumption | exact pI_rg _ | (unfold rg; omega)) dL_law_362 (by decide) (fun c_362 => ?_) (fun c_362 => ?_)
      · rw [pI_f c_362]
        refine J_lconst (M := mL_law) (z := 0) dL_law_369 l_0 ?_
        refine J_lcmp (M := mL_law) dL_law_370 ?_
        rw [lg_self]
        refine Z_if_eq (M := mL_law) (tgt := 376) rg0 dL_law_371 (by decide) (fun c_371 => ?_) (fun c_371 => ?_)
        · refine J_goto (M := mL_law) (tgt := 1869) dL_law_376 (by decide) ?_
          exact J_sub (kk _ _ _ R6) (And.intro rfl (And.intro rfl (And.intro rfl (And.intro rfl (And.intro rfl trivial)))))
        · exact absurd rfl c_371
      · rw [pI_t c_362]
        refine J_lconst (M := mL_law) (z := 1) dL_law_365 l_1 ?_
        refine J_goto (M := mL_law) (tgt := 370) dL_law_366 (by decide) ?_
        refine J_lcmp (M := mL_law) dL_law_370 ?_
        rw [lg_self]
        refine Z_if_eq (M := mL_law) (tgt := 376) rg0 dL_law_371 (by decide) (fun c_371 => ?_) (fun c_371 => ?_)
        · refine J_goto (M := mL_law) (tgt := 1869) dL_law_376 (by decide) ?_
          exact J_sub (kk _ _ _ R6) (And.intro rfl (And.intro rfl (And.intro rfl (And.intro rfl (And.intro rfl trivial)))))
        · exact absurd rfl c_371
  · exact absurd rfl c_347

set_option maxRecDepth 100000 in
set_option maxHeartbeats 4000000 in
theorem o_3 {X : GX} {f : Nat → Int64} {ρ τ : TS} {c i : Int} {k n : Nat} {Q : LO → LH → Prop} (hL : xL X ≤ 2049) (h0 : 1 ≤ i) (h3 : i + 3 < xL X) (hc : 0 ≤ c ∧ c ≤ 90000) (R : RR ρ τ c) (kk : ∀ f r u, RR r u (c + 1) → J X mL_law 1869 [some (vR (some tScr)), some (vR (some (1, 0))), some (vR (some (20, 0))), some (vR (some (30, 0))), some (vI (iI i)), none, none] [] (HL f r u) k n Q) : J X mL_law 379 [some (vR (some tScr)), some (vR (some (1, 0))), some (vR (some (20, 0))), some (vR (some (30, 0))), some (vI (iI i)), none, none] [] (HL f ρ τ) (k + 800) (n + 6200) Q := by
  refine J_aload_n (M := mL_law) dL_law_379 rfl rfl ?_
  refine Z_h (M := mL_law) (show HL f ρ τ = hk (hm (ob f) τ) ρ from hm_hk) ?_
  refine J_callV (M := mL_law) (as := []) dL_law_380 ca_L_126 ⟨by decide, by decide⟩ (hk_1 (show CE ρ 1 0 from rfl)) rfl (Nat.le_of_ble_eq_true rfl) (k' := k) (n' := n) (Nat.le_add_right k 800) (Nat.le_add_right n 6200) (p_fencers R) (fun v_ h_ hv_ => ?_)
  obtain ⟨r_, rfl, rfl, rfl⟩ := hv_
  refine Z_h (M := mL_law) hm_hk.symm ?_
  refine J_aload_n (M := mL_law) dL_law_383 rfl rfl ?_
  refine M_call (M := mL_law) (as := []) dL_law_384 ca_L_129 ⟨by decide, by decide⟩ rfl (Nat.le_of_ble_eq_true rfl) rfl rfl (c_fencers R.1) (fun v_ t_ hv_ => ?_)
  obtain ⟨rfl, rfl⟩ := hv_
  refine J_ic_eq (M := mL_law) (tgt := 1869) dL_law_387 (by decide) (fun c_ => ?_) (fun c_ => absurd rfl c_)
  exact kk f _ _ (RR_mono (c := c) (by omega) (RR_33 R (by decide)))

set_option maxRecDepth 100000 in
set_option maxHeartbeats 4000000 in
theorem o_4 {X : GX} {f : Nat → Int64} {ρ τ : TS} {c i : Int} {k n : Nat} {Q : LO → LH → Prop} (hL : xL X ≤ 2049) (h0 : 1 ≤ i) (h3 : i + 3 < xL X) (hc : 0 ≤ c ∧ c ≤ 90000) (R : RR ρ τ c) (kk : ∀ f r u, RR r u (c + 1) → J X mL_law 1869 [some (vR (some tScr)), some (vR (some (1, 0))), some (vR (some (20, 0))), some (vR (some (30, 0))), some (vI (iI i)), none, none] [] (HL f r u) k n Q) : J X mL_law 392 [some (vR (some tScr)), some (vR (some (1, 0))), some (vR (some (20, 0))), some (vR (some (30, 0))), some (vI (iI i)), none, none] [] (HL f ρ τ) (k + 800) (n + 6200) Q := by
  refine J_aload_n (M := mL_law) dL_law_392 rfl rfl ?_
  refine J_aload_n (M := mL_law) dL_law_393 rfl rfl ?_
  refine J_iload (M := mL_law) dL_law_394 rfl ?_
  refine Z_iconst (M := mL_law) dL_law_396 ?_
  refine Z_iadd (M := mL_law) dL_law_397 ?_
  refine Z_sld (M := mL_law) dL_law_398 hL (by omega) (by omega) ?_
  refine J_aload_n (M := mL_law) dL_law_399 rfl rfl ?_
  refine Z_h (M := mL_law) (show HL f ρ τ = hk (hm (ob f) τ) ρ from hm_hk) ?_
  refine J_callW (M := mL_law) (as := [vR (some (1, 0)), vI (iI (sx X (i + 1))), vR (some (30, 0))]) dL_law_400 ca_L_130 ⟨by decide, by decide⟩ rfl (Nat.le_of_ble_eq_true rfl) (k' := k) (n' := n) (Nat.add_le_add_left (by decide) k) (Nat.add_le_add_left (by decide) n) (l_mark ob_30 (p_mark R sx_rg)) (fun v_ h_ hv_ => ?_)
  obtain ⟨rfl, f1, r1, rfl, h1, h2⟩ := LQ_ob hv_
  refine J_istore (M := mL_law) dL_law_403 (by decide) ?_
  refine J_aload_n (M := mL_law) dL_law_405 rfl rfl ?_
  refine J_aload_n (M := mL_law) dL_law_406 rfl rfl ?_
  refine J_iload (M := mL_law) dL_law_407 rfl ?_
  refine Z_iconst (M := mL_law) dL_law_409 ?_
  refine Z_iadd (M := mL_law) dL_law_410 ?_
  refine Z_sld (M := mL_law) dL_law_411 hL (by omega) (by omega) ?_
  refine M_call (M := mL_law) (as := [vI (iI (sx X (i + 1)))]) dL_law_412 ca_L_132 ⟨by decide, by decide⟩ rfl (Nat.le_of_ble_eq_true rfl) rfl rfl (c_mark R.1 sx_rg ) (fun v_ t_ hv_ => ?_)
  obtain ⟨x, rfl, e33, hgr, hx, R6⟩ := opA (c' := c + 1) R (by omega) h1 h2 (fun _ => rfl) (fun z => RR_mono (c := c) (by omega) (RR_33 z (by decide))) (rfl) hv_
  refine J_istore (M := mL_law) dL_law_415 (by decide) ?_
  refine J_aload_n (M := mL_law) dL_law_417 rfl rfl ?_
  refine M_call (M := mL_law) (as := []) dL_law_418 ca_L_115 ⟨by decide, by decide⟩ rfl (Nat.le_of_ble_eq_true rfl) rfl rfl c_thrown (fun v_ t9 hv9 => ?_)
  obtain ⟨rfl, rfl⟩ := hv9
  rw [e33]
  refine J_iload (M := mL_law) dL_law_421 rfl ?_
  refine Z_ic_eq (M := mL_law) (tgt := 428) hgr hgr dL_law_423 (by decide) (fun c_423 => ?_) (fun c_423 => ?_)
  · refine J_iload (M := mL_law) dL_law_428 rfl ?_
    refine Z_if_ne (M := mL_law) (tgt := 445) hgr dL_law_430 (by decide) (fun c_430 => ?_) (fun c_430 => ?_)
    · refine J_goto (M := mL_law) (tgt := 1869) dL_law_445 (by decide) ?_
      exact J_sub (kk _ _ _ R6) (And.intro rfl (And.intro rfl (And.intro rfl (And.intro rfl (And.intro rfl trivial)))))
    · refine J_aload_n (M := mL_law) dL_law_433 rfl rfl ?_
      refine Z_iconst (M := mL_law) dL_law_434 ?_
      refine J_lald (M := mL_law) (j := 0) dL_law_435 HL_30 (ix_iI (by decide) (by decide) (by decide)) ?_
      rw [(hx c_430).1]
      refine J_iload (M := mL_law) dL_law_436 rfl ?_
      refine J_i2l (M := mL_law) dL_law_438 ?_
      refine J_lcmp (M := mL_law) dL_law_439 ?_
      rw [lg_self]
      refine Z_if_eq (M := mL_law) (tgt := 445) rg0 dL_law_440 (by decide) (fun c_440 => ?_) (fun c_440 => ?_)
      · refine J_goto (M := mL_law) (tgt := 1869) dL_law_445 (by decide) ?_
        exact J_sub (kk _ _ _ R6) (And.intro rfl (And.intro rfl (And.intro rfl (And.intro rfl (And.intro rfl trivial)))))
      · exact absurd rfl c_440
  · exact absurd rfl c_423

set_option maxRecDepth 100000 in
set_option maxHeartbeats 4000000 in
theorem o_5 {X : GX} {f : Nat → Int64} {ρ τ : TS} {c i : Int} {k n : Nat} {Q : LO → LH → Prop} (hL : xL X ≤ 2049) (h0 : 1 ≤ i) (h3 : i + 3 < xL X) (hc : 0 ≤ c ∧ c ≤ 90000) (R : RR ρ τ c) (kk : ∀ f r u, RR r u (c + 1) → J X mL_law 1869 [some (vR (some tScr)), some (vR (some (1, 0))), some (vR (some (20, 0))), some (vR (some (30, 0))), some (vI (iI i)), none, none] [] (HL f r u) k n Q) : J X mL_law 448 [some (vR (some tScr)), some (vR (some (1, 0))), some (vR (some (20, 0))), some (vR (some (30, 0))), some (vI (iI i)), none, none] [] (HL f ρ τ) (k + 800) (n + 6200) Q := by
  refine J_aload_n (M := mL_law) dL_law_448 rfl rfl ?_
  refine J_aload_n (M := mL_law) dL_law_449 rfl rfl ?_
  refine J_iload (M := mL_law) dL_law_450 rfl ?_
  refine Z_iconst (M := mL_law) dL_law_452 ?_
  refine Z_iadd (M := mL_law) dL_law_453 ?_
  refine Z_sld (M := mL_law) dL_law_454 hL (by omega) (by omega) ?_
  refine J_aload_n (M := mL_law) dL_law_455 rfl rfl ?_
  refine Z_h (M := mL_law) (show HL f ρ τ = hk (hm (ob f) τ) ρ from hm_hk) ?_
  refine J_callW (M := mL_law) (as := [vR (some (1, 0)), vI (iI (sx X (i + 1))), vR (some (30, 0))]) dL_law_456 ca_L_133 ⟨by decide, by decide⟩ rfl (Nat.le_of_ble_eq_true rfl) (k' := k) (n' := n) (Nat.add_le_add_left (by decide) k) (Nat.add_le_add_left (by decide) n) (l_owner ob_30 (p_owner R sx_rg)) (fun v_ h_ hv_ => ?_)
  obtain ⟨rfl, f1, r1, rfl, h1, h2⟩ := LQ_ob hv_
  refine J_istore (M := mL_law) dL_law_459 (by decide) ?_
  refine J_aload_n (M := mL_law) dL_law_461 rfl rfl ?_
  refine J_aload_n (M := mL_law) dL_law_462 rfl rfl ?_
  refine J_iload (M := mL_law) dL_law_463 rfl ?_
  refine Z_iconst (M := mL_law) dL_law_465 ?_
  refine Z_iadd (M := mL_law) dL_law_466 ?_
  refine Z_sld (M := mL_law) dL_law_467 hL (by omega) (by omega) ?_
  refine M_call (M := mL_law) (as := [vI (iI (sx X (i + 1)))]) dL_law_468 ca_L_135 ⟨by decide, by decide⟩ rfl (Nat.le_of_ble_eq_true rfl) rfl rfl (c_owner R.1 sx_rg ) (fun v_ t_ hv_ => ?_)
  obtain ⟨x, rfl, e33, hgr, hx, R6⟩ := opA (c' := c + 1) R (by omega) h1 h2 (fun _ => rfl) (fun z => RR_mono (c := c) (by omega) (RR_33 z (by decide))) (rfl) hv_
  refine J_istore (M := mL_law) dL_law_471 (by decide) ?_
  refine J_aload_n (M := mL_law) dL_law_473 rfl rfl ?_
  refine M_call (M := mL_law) (as := []) dL_law_474 ca_L_115 ⟨by decide, by decide⟩ rfl (Nat.le_of_ble_eq_true rfl) rfl rfl c_thrown (fun v_ t9 hv9 => ?_)
  obtain ⟨rfl, rfl⟩ := hv9
  rw [e33]
  refine J_iload (M := mL_law) dL_law_477 rfl ?_
  refine Z_ic_eq (M := mL_law) (tgt := 484) hgr hgr dL_law_479 (by decide) (fun c_479 => ?_) (fun c_479 => ?_)
  · refine J_iload (M := mL_law) dL_law_484 rfl ?_
    refine Z_if_ne (M := mL_law) (tgt := 501) hgr dL_law_486 (by decide) (fun c_486 => ?_) (fun c_486 => ?_)
    · refine J_goto (M := mL_law) (tgt := 1869) dL_law_501 (by decide) ?_
      exact J_sub (kk _ _ _ R6) (And.intro rfl (And.intro rfl (And.intro rfl (And.intro rfl (And.intro rfl trivial)))))
    · refine J_aload_n (M := mL_law) dL_law_489 rfl rfl ?_
      refine Z_iconst (M := mL_law) dL_law_490 ?_
      refine J_lald (M := mL_law) (j := 0) dL_law_491 HL_30 (ix_iI (by decide) (by decide) (by decide)) ?_
      rw [(hx c_486).1]
      refine J_iload (M := mL_law) dL_law_492 rfl ?_
      refine J_i2l (M := mL_law) dL_law_494 ?_
      refine J_lcmp (M := mL_law) dL_law_495 ?_
      rw [lg_self]
      refine Z_if_eq (M := mL_law) (tgt := 501) rg0 dL_law_496 (by decide) (fun c_496 => ?_) (fun c_496 => ?_)
      · refine J_goto (M := mL_law) (tgt := 1869) dL_law_501 (by decide) ?_
        exact J_sub (kk _ _ _ R6) (And.intro rfl (And.intro rfl (And.intro rfl (And.intro rfl (And.intro rfl trivial)))))
      · exact absurd rfl c_496
  · exact absurd rfl c_479

set_option maxRecDepth 100000 in
set_option maxHeartbeats 4000000 in
theorem o_6 {X : GX} {f : Nat → Int64} {ρ τ : TS} {c i : Int} {k n : Nat} {Q : LO → LH → Prop} (hL : xL X ≤ 2049) (h0 : 1 ≤ i) (h3 : i + 3 < xL X) (hc : 0 ≤ c ∧ c ≤ 90000) (R : RR ρ τ c) (kk : ∀ f r u, RR r u (c + 1) → J X mL_law 1869 [some (vR (some tScr)), some (vR (some (1, 0))), some (vR (some (20, 0))), some (vR (some (30, 0))), some (vI (iI i)), none, none] [] (HL f r u) k n Q) : J X mL_law 504 [some (vR (some tScr)), some (vR (some (1, 0))), some (vR (some (20, 0))), some (vR (some (30, 0))), some (vI (iI i)), none, none] [] (HL f ρ τ) (k + 800) (n + 6200) Q := by
  refine J_aload_n (M := mL_law) dL_law_504 rfl rfl ?_
  refine J_aload_n (M := mL_law) dL_law_505 rfl rfl ?_
  refine J_iload (M := mL_law) dL_law_506 rfl ?_
  refine Z_iconst (M := mL_law) dL_law_508 ?_
  refine Z_iadd (M := mL_law) dL_law_509 ?_
  refine Z_sld (M := mL_law) dL_law_510 hL (by omega) (by omega) ?_
  refine J_aload_n (M := mL_law) dL_law_511 rfl rfl ?_
  refine J_iload (M := mL_law) dL_law_512 rfl ?_
  refine Z_iconst (M := mL_law) dL_law_514 ?_
  refine Z_iadd (M := mL_law) dL_law_515 ?_
  refine Z_sld (M := mL_law) dL_law_516 hL (by omega) (by omega) ?_
  refine J_aload_n (M := mL_law) dL_law_517 rfl rfl ?_
  refine J_iload (M := mL_law) dL_law_518 rfl ?_
  refine Z_iconst (M := mL_law) dL_law_520 ?_
  refine Z_iadd (M := mL_law) dL_law_521 ?_
  refine Z_sld (M := mL_law) dL_law_522 hL (by omega) (by omega) ?_
  refine J_aload_n (M := mL_law) dL_law_523 rfl rfl ?_
  refine Z_h (M := mL_law) (show HL f ρ τ = hk (hm (ob f) τ) ρ from hm_hk) ?_
  refine J_callW (M := mL_law) (as := [vR (some (1, 0)), vI (iI (sx X (i + 1))), vI (iI (sx X (i + 2))), vI (iI (sx X (i + 3))), vR (some (30, 0))]) dL_law_524 ca_L_136 ⟨by decide, by decide⟩ rfl (Nat.le_of_ble_eq_true rfl) (k' := k) (n' := n) (Nat.add_le_add_left (by decide) k) (Nat.add_le_add_left (by decide) n) (l_begin ob_30 (p_begin (RR_33 (x := 0) R (by decide)) sx_rg sx_rg sx_rg)) (fun v_ h_ hv_ => ?_)
  obtain ⟨rfl, f1, r1, rfl, h1, h2⟩ := LQ_ob hv_
  refine J_istore (M := mL_law) dL_law_527 (by decide) ?_
  refine J_aload_n (M := mL_law) dL_law_529 rfl rfl ?_
  refine J_aload_n (M := mL_law) dL_law_530 rfl rfl ?_
  refine J_iload (M := mL_law) dL_law_531 rfl ?_
  refine Z_iconst (M := mL_law) dL_law_533 ?_
  refine Z_iadd (M := mL_law) dL_law_534 ?_
  refine Z_sld (M := mL_law) dL_law_535 hL (by omega) (by omega) ?_
  refine J_aload_n (M := mL_law) dL_law_536 rfl rfl ?_
  refine J_iload (M := mL_law) dL_law_537 rfl ?_
  refine Z_iconst (M := mL_law) dL_law_539 ?_
  refine Z_iadd (M := mL_law) dL_law_540 ?_
  refine Z_sld (M := mL_law) dL_law_541 hL (by omega) (by omega) ?_
  refine J_aload_n (M := mL_law) dL_law_542 rfl rfl ?_
  refine J_iload (M := mL_law) dL_law_543 rfl ?_
  refine Z_iconst (M := mL_law) dL_law_545 ?_
  refine Z_iadd (M := mL_law) dL_law_546 ?_
  refine Z_sld (M := mL_law) dL_law_547 hL (by omega) (by omega) ?_
  refine M_call (M := mL_law) (as := [vI (iI (sx X (i + 1))), vI (iI (sx X (i + 2))), vI (iI (sx X (i + 3)))]) dL_law_548 ca_L_138 ⟨by decide, by decide⟩ rfl (Nat.le_of_ble_eq_true rfl) rfl rfl (c_begin R.1 sx_rg sx_rg sx_rg ) (fun v_ t_ hv_ => ?_)
  obtain ⟨x, rfl, e33, hgr, hx, R6⟩ := opQ (c' := c + 1) R (by omega) h1 h2 (fun _ => rfl) (fun z => RR_mono (c := c) (by omega) z) hv_
  refine J_istore (M := mL_law) dL_law_551 (by decide) ?_
  refine J_aload_n (M := mL_law) dL_law_553 rfl rfl ?_
  refine M_call (M := mL_law) (as := []) dL_law_554 ca_L_115 ⟨by decide, by decide⟩ rfl (Nat.le_of_ble_eq_true rfl) rfl rfl c_thrown (fun v_ t9 hv9 => ?_)
  obtain ⟨rfl, rfl⟩ := hv9
  rw [e33]
  refine J_iload (M := mL_law) dL_law_557 rfl ?_
  refine Z_ic_eq (M := mL_law) (tgt := 564) hgr hgr dL_law_559 (by decide) (fun c_559 => ?_) (fun c_559 => ?_)
  · refine J_iload (M := mL_law) dL_law_564 rfl ?_
    refine Z_if_ne (M := mL_law) (tgt := 581) hgr dL_law_566 (by decide) (fun c_566 => ?_) (fun c_566 => ?_)
    · refine J_goto (M := mL_law) (tgt := 1869) dL_law_581 (by decide) ?_
      exact J_sub (kk _ _ _ R6) (And.intro rfl (And.intro rfl (And.intro rfl (And.intro rfl (And.intro rfl trivial)))))
    · refine J_aload_n (M := mL_law) dL_law_569 rfl rfl ?_
      refine Z_iconst (M := mL_law) dL_law_570 ?_
      refine J_lald (M := mL_law) (j := 0) dL_law_571 HL_30 (ix_iI (by decide) (by decide) (by decide)) ?_
      rw [(hx c_566).1]
      refine J_iload (M := mL_law) dL_law_572 rfl ?_
      refine J_i2l (M := mL_law) dL_law_574 ?_
      refine J_lcmp (M := mL_law) dL_law_575 ?_
      rw [lg_self]
      refine Z_if_eq (M := mL_law) (tgt := 581) rg0 dL_law_576 (by decide) (fun c_576 => ?_) (fun c_576 => ?_)
      · refine J_goto (M := mL_law) (tgt := 1869) dL_law_581 (by decide) ?_
        exact J_sub (kk _ _ _ R6) (And.intro rfl (And.intro rfl (And.intro rfl (And.intro rfl (And.intro rfl trivial)))))
      · exact absurd rfl c_576
  · exact absurd rfl c_559

set_option maxRecDepth 100000 in
set_option maxHeartbeats 4000000 in
theorem o_7 {X : GX} {f : Nat → Int64} {ρ τ : TS} {c i : Int} {k n : Nat} {Q : LO → LH → Prop} (hL : xL X ≤ 2049) (h0 : 1 ≤ i) (h3 : i + 3 < xL X) (hc : 0 ≤ c ∧ c ≤ 90000) (R : RR ρ τ c) (kk : ∀ f r u, RR r u (c + 1) → J X mL_law 1869 [some (vR (some tScr)), some (vR (some (1, 0))), some (vR (some (20, 0))), some (vR (some (30, 0))), some (vI (iI i)), none, none] [] (HL f r u) k n Q) : J X mL_law 584 [some (vR (some tScr)), some (vR (some (1, 0))), some (vR (some (20, 0))), some (vR (some (30, 0))), some (vI (iI i)), none, none] [] (HL f ρ τ) (k + 800) (n + 6200) Q := by
  refine J_aload_n (M := mL_law) dL_law_584 rfl rfl ?_
  refine J_aload_n (M := mL_law) dL_law_585 rfl rfl ?_
  refine J_iload (M := mL_law) dL_law_586 rfl ?_
  refine Z_iconst (M := mL_law) dL_law_588 ?_
  refine Z_iadd (M := mL_law) dL_law_589 ?_
  refine Z_sld (M := mL_law) dL_law_590 hL (by omega) (by omega) ?_
  refine J_aload_n (M := mL_law) dL_law_591 rfl rfl ?_
  refine J_iload (M := mL_law) dL_law_592 rfl ?_
  refine Z_iconst (M := mL_law) dL_law_594 ?_
  refine Z_iadd (M := mL_law) dL_law_595 ?_
  refine Z_sld (M := mL_law) dL_law_596 hL (by omega) (by omega) ?_
  refine J_aload_n (M := mL_law) dL_law_597 rfl rfl ?_
  refine Z_h (M := mL_law) (show HL f ρ τ = hk (hm (ob f) τ) ρ from hm_hk) ?_
  refine J_callW (M := mL_law) (as := [vR (some (1, 0)), vI (iI (sx X (i + 1))), vI (iI (sx X (i + 2))), vR (some (30, 0))]) dL_law_598 ca_L_139 ⟨by decide, by decide⟩ rfl (Nat.le_of_ble_eq_true rfl) (k' := k) (n' := n) (Nat.add_le_add_left (by decide) k) (Nat.add_le_add_left (by decide) n) (l_change ob_30 (p_change (RR_33 (x := 0) R (by decide)) sx_rg sx_rg)) (fun v_ h_ hv_ => ?_)
  obtain ⟨rfl, f1, r1, rfl, h1, h2⟩ := LQ_ob hv_
  refine J_istore (M := mL_law) dL_law_601 (by decide) ?_
  refine J_aload_n (M := mL_law) dL_law_603 rfl rfl ?_
  refine J_aload_n (M := mL_law) dL_law_604 rfl rfl ?_
  refine J_iload (M := mL_law) dL_law_605 rfl ?_
  refine Z_iconst (M := mL_law) dL_law_607 ?_
  refine Z_iadd (M := mL_law) dL_law_608 ?_
  refine Z_sld (M := mL_law) dL_law_609 hL (by omega) (by omega) ?_
  refine J_aload_n (M := mL_law) dL_law_610 rfl rfl ?_
  refine J_iload (M := mL_law) dL_law_611 rfl ?_
  refine Z_iconst (M := mL_law) dL_law_613 ?_
  refine Z_iadd (M := mL_law) dL_law_614 ?_
  refine Z_sld (M := mL_law) dL_law_615 hL (by omega) (by omega) ?_
  refine M_call (M := mL_law) (as := [vI (iI (sx X (i + 1))), vI (iI (sx X (i + 2)))]) dL_law_616 ca_L_142 ⟨by decide, by decide⟩ rfl (Nat.le_of_ble_eq_true rfl) rfl rfl (c_change R.1 sx_rg sx_rg (z_okb R)) (fun v_ t_ hv_ => ?_)
  obtain ⟨x, rfl, e33, hgr, hx, R6⟩ := opA (c' := c + 1) R (by omega) h1 h2 (fun _ => rfl) (fun z => RR_mono (c := c) (by omega) z) (rfl) hv_
  refine J_istore (M := mL_law) dL_law_619 (by decide) ?_
  refine J_aload_n (M := mL_law) dL_law_621 rfl rfl ?_
  refine M_call (M := mL_law) (as := []) dL_law_622 ca_L_115 ⟨by decide, by decide⟩ rfl (Nat.le_of_ble_eq_true rfl) rfl rfl c_thrown (fun v_ t9 hv9 => ?_)
  obtain ⟨rfl, rfl⟩ := hv9
  rw [e33]
  refine J_iload (M := mL_law) dL_law_625 rfl ?_
  refine Z_ic_eq (M := mL_law) (tgt := 632) hgr hgr dL_law_627 (by decide) (fun c_627 => ?_) (fun c_627 => ?_)
  · refine J_iload (M := mL_law) dL_law_632 rfl ?_
    refine Z_if_ne (M := mL_law) (tgt := 649) hgr dL_law_634 (by decide) (fun c_634 => ?_) (fun c_634 => ?_)
    · refine J_goto (M := mL_law) (tgt := 1869) dL_law_649 (by decide) ?_
      exact J_sub (kk _ _ _ R6) (And.intro rfl (And.intro rfl (And.intro rfl (And.intro rfl (And.intro rfl trivial)))))
    · refine J_aload_n (M := mL_law) dL_law_637 rfl rfl ?_
      refine Z_iconst (M := mL_law) dL_law_638 ?_
      refine J_lald (M := mL_law) (j := 0) dL_law_639 HL_30 (ix_iI (by decide) (by decide) (by decide)) ?_
      rw [(hx c_634).1]
      refine J_iload (M := mL_law) dL_law_640 rfl ?_
      refine J_i2l (M := mL_law) dL_law_642 ?_
      refine J_lcmp (M := mL_law) dL_law_643 ?_
      rw [lg_self]
      refine Z_if_eq (M := mL_law) (tgt := 649) rg0 dL_law_644 (by decide) (fun c_644 => ?_) (fun c_644 => ?_)
      · refine J_goto (M := mL_law) (tgt := 1869) dL_law_649 (by decide) ?_
        exact J_sub (kk _ _ _ R6) (And.intro rfl (And.intro rfl (And.intro rfl (And.intro rfl (And.intro rfl trivial)))))
      · exact absurd rfl c_644
  · exact absurd rfl c_627

set_option maxRecDepth 100000 in
set_option maxHeartbeats 4000000 in
theorem o_8 {X : GX} {f : Nat → Int64} {ρ τ : TS} {c i : Int} {k n : Nat} {Q : LO → LH → Prop} (hL : xL X ≤ 2049) (h0 : 1 ≤ i) (h3 : i + 3 < xL X) (hc : 0 ≤ c ∧ c ≤ 90000) (R : RR ρ τ c) (kk : ∀ f r u, RR r u (c + 1) → J X mL_law 1869 [some (vR (some tScr)), some (vR (some (1, 0))), some (vR (some (20, 0))), some (vR (some (30, 0))), some (vI (iI i)), none, none] [] (HL f r u) k n Q) : J X mL_law 652 [some (vR (some tScr)), some (vR (some (1, 0))), some (vR (some (20, 0))), some (vR (some (30, 0))), some (vI (iI i)), none, none] [] (HL f ρ τ) (k + 800) (n + 6200) Q := by
  refine J_aload_n (M := mL_law) dL_law_652 rfl rfl ?_
  refine J_aload_n (M := mL_law) dL_law_653 rfl rfl ?_
  refine Z_h (M := mL_law) (show HL f ρ τ = hk (hm (ob f) τ) ρ from hm_hk) ?_
  refine J_callW (M := mL_law) (as := [vR (some (1, 0)), vR (some (30, 0))]) dL_law_654 ca_L_143 ⟨by decide, by decide⟩ rfl (Nat.le_of_ble_eq_true rfl) (k' := k) (n' := n) (Nat.add_le_add_left (by decide) k) (Nat.add_le_add_left (by decide) n) (l_allez ob_30 (p_allez (RR_33 (x := 0) R (by decide))  hc.2)) (fun v_ h_ hv_ => ?_)
  obtain ⟨rfl, f1, r1, rfl, h1, h2⟩ := LQ_ob hv_
  refine J_istore (M := mL_law) dL_law_657 (by decide) ?_
  refine J_aload_n (M := mL_law) dL_law_659 rfl rfl ?_
  refine M_call (M := mL_law) (as := []) dL_law_660 ca_L_145 ⟨by decide, by decide⟩ rfl (Nat.le_of_ble_eq_true rfl) rfl rfl (c_allez R.1  (z_okb R) (z_all R)) (fun v_ t_ hv_ => ?_)
  obtain ⟨x, rfl, e33, hgr, hx, R6⟩ := opQ (c' := c + 1) R (by omega) h1 h2 (fun _ => rfl) (fun z => z) hv_
  refine J_istore (M := mL_law) dL_law_663 (by decide) ?_
  refine J_aload_n (M := mL_law) dL_law_665 rfl rfl ?_
  refine M_call (M := mL_law) (as := []) dL_law_666 ca_L_115 ⟨by decide, by decide⟩ rfl (Nat.le_of_ble_eq_true rfl) rfl rfl c_thrown (fun v_ t9 hv9 => ?_)
  obtain ⟨rfl, rfl⟩ := hv9
  rw [e33]
  refine J_iload (M := mL_law) dL_law_669 rfl ?_
  refine Z_ic_eq (M := mL_law) (tgt := 676) hgr hgr dL_law_671 (by decide) (fun c_671 => ?_) (fun c_671 => ?_)
  · refine J_iload (M := mL_law) dL_law_676 rfl ?_
    refine Z_if_ne (M := mL_law) (tgt := 693) hgr dL_law_678 (by decide) (fun c_678 => ?_) (fun c_678 => ?_)
    · refine J_goto (M := mL_law) (tgt := 1869) dL_law_693 (by decide) ?_
      exact J_sub (kk _ _ _ R6) (And.intro rfl (And.intro rfl (And.intro rfl (And.intro rfl (And.intro rfl trivial)))))
    · refine J_aload_n (M := mL_law) dL_law_681 rfl rfl ?_
      refine Z_iconst (M := mL_law) dL_law_682 ?_
      refine J_lald (M := mL_law) (j := 0) dL_law_683 HL_30 (ix_iI (by decide) (by decide) (by decide)) ?_
      rw [(hx c_678).1]
      refine J_iload (M := mL_law) dL_law_684 rfl ?_
      refine J_i2l (M := mL_law) dL_law_686 ?_
      refine J_lcmp (M := mL_law) dL_law_687 ?_
      rw [lg_self]
      refine Z_if_eq (M := mL_law) (tgt := 693) rg0 dL_law_688 (by decide) (fun c_688 => ?_) (fun c_688 => ?_)
      · refine J_goto (M := mL_law) (tgt := 1869) dL_law_693 (by decide) ?_
        exact J_sub (kk _ _ _ R6) (And.intro rfl (And.intro rfl (And.intro rfl (And.intro rfl (And.intro rfl trivial)))))
      · exact absurd rfl c_688
  · exact absurd rfl c_671

set_option maxRecDepth 100000 in
set_option maxHeartbeats 4000000 in
theorem o_9 {X : GX} {f : Nat → Int64} {ρ τ : TS} {c i : Int} {k n : Nat} {Q : LO → LH → Prop} (hL : xL X ≤ 2049) (h0 : 1 ≤ i) (h3 : i + 3 < xL X) (hc : 0 ≤ c ∧ c ≤ 90000) (R : RR ρ τ c) (kk : ∀ f r u, RR r u (c + 1) → J X mL_law 1869 [some (vR (some tScr)), some (vR (some (1, 0))), some (vR (some (20, 0))), some (vR (some (30, 0))), some (vI (iI i)), none, none] [] (HL f r u) k n Q) : J X mL_law 696 [some (vR (some tScr)), some (vR (some (1, 0))), some (vR (some (20, 0))), some (vR (some (30, 0))), some (vI (iI i)), none, none] [] (HL f ρ τ) (k + 800) (n + 6200) Q := by
  refine J_aload_n (M := mL_law) dL_law_696 rfl rfl ?_
  refine J_aload_n (M := mL_law) dL_law_697 rfl rfl ?_
  refine J_iload (M := mL_law) dL_law_698 rfl ?_
  refine Z_iconst (M := mL_law) dL_law_700 ?_
  refine Z_iadd (M := mL_law) dL_law_701 ?_
  refine Z_sld (M := mL_law) dL_law_702 hL (by omega) (by omega) ?_
  refine Z_bj (M := mL_law) (pcB := 717) (¬ sx X (i + 2) = 0) (fun hj_717 => ?_) ?_
  · refine J_aload_n (M := mL_law) dL_law_703 rfl rfl ?_
    refine J_iload (M := mL_law) dL_law_704 rfl ?_
    refine Z_iconst (M := mL_law) dL_law_706 ?_
    refine Z_iadd (M := mL_law) dL_law_707 ?_
    refine Z_sld (M := mL_law) dL_law_708 hL (by omega) (by omega) ?_
    refine Z_if_eq (M := mL_law) (tgt := 716) sx_rg dL_law_709 (by decide) (fun c_709 => ?_) (fun c_709 => ?_)
    · refine Z_iconst (M := mL_law) dL_law_716 ?_
      exact hj_717 _ (pI_f (by omega)).symm
    · refine Z_iconst (M := mL_law) dL_law_712 ?_
      refine J_goto (M := mL_law) (tgt := 717) dL_law_713 (by decide) ?_
      exact hj_717 _ (pI_t (by omega)).symm
  refine J_aload_n (M := mL_law) dL_law_717 rfl rfl ?_
  refine J_iload (M := mL_law) dL_law_718 rfl ?_
  refine Z_iconst (M := mL_law) dL_law_720 ?_
  refine Z_iadd (M := mL_law) dL_law_721 ?_
  refine Z_sld (M := mL_law) dL_law_722 hL (by omega) (by omega) ?_
  refine J_aload_n (M := mL_law) dL_law_723 rfl rfl ?_
  refine Z_h (M := mL_law) (show HL f ρ τ = hk (hm (ob f) τ) ρ from hm_hk) ?_
  refine J_callW (M := mL_law) (as := [vR (some (1, 0)), vI (iI (sx X (i + 1))), vI (iI (pI (¬ sx X (i + 2) = 0))), vI (iI (sx X (i + 3))), vR (some (30, 0))]) dL_law_724 ca_L_146 ⟨by decide, by decide⟩ rfl (Nat.le_of_ble_eq_true rfl) (k' := k) (n' := n) (Nat.add_le_add_left (by decide) k) (Nat.add_le_add_left (by decide) n) (l_contact ob_30 (p_contact (RR_33 (x := 0) R (by decide)) sx_rg sx_rg)) (fun v_ h_ hv_ => ?_)
  obtain ⟨rfl, f1, r1, rfl, h1, h2⟩ := LQ_ob hv_
  refine J_istore (M := mL_law) dL_law_727 (by decide) ?_
  refine J_aload_n (M := mL_law) dL_law_729 rfl rfl ?_
  refine J_aload_n (M := mL_law) dL_law_730 rfl rfl ?_
  refine J_iload (M := mL_law) dL_law_731 rfl ?_
  refine Z_iconst (M := mL_law) dL_law_733 ?_
  refine Z_iadd (M := mL_law) dL_law_734 ?_
  refine Z_sld (M := mL_law) dL_law_735 hL (by omega) (by omega) ?_
  refine Z_bj (M := mL_law) (pcB := 750) (¬ sx X (i + 2) = 0) (fun hj_750 => ?_) ?_
  · refine J_aload_n (M := mL_law) dL_law_736 rfl rfl ?_
    refine J_iload (M := mL_law) dL_law_737 rfl ?_
    refine Z_iconst (M := mL_law) dL_law_739 ?_
    refine Z_iadd (M := mL_law) dL_law_740 ?_
    refine Z_sld (M := mL_law) dL_law_741 hL (by omega) (by omega) ?_
    refine Z_if_eq (M := mL_law) (tgt := 749) sx_rg dL_law_742 (by decide) (fun c_742 => ?_) (fun c_742 => ?_)
    · refine Z_iconst (M := mL_law) dL_law_749 ?_
      exact hj_750 _ (pI_f (by omega)).symm
    · refine Z_iconst (M := mL_law) dL_law_745 ?_
      refine J_goto (M := mL_law) (tgt := 750) dL_law_746 (by decide) ?_
      exact hj_750 _ (pI_t (by omega)).symm
  refine J_aload_n (M := mL_law) dL_law_750 rfl rfl ?_
  refine J_iload (M := mL_law) dL_law_751 rfl ?_
  refine Z_iconst (M := mL_law) dL_law_753 ?_
  refine Z_iadd (M := mL_law) dL_law_754 ?_
  refine Z_sld (M := mL_law) dL_law_755 hL (by omega) (by omega) ?_
  refine M_call (M := mL_law) (as := [vI (iI (sx X (i + 1))), vI (iI (pI (¬ sx X (i + 2) = 0))), vI (iI (sx X (i + 3)))]) dL_law_756 ca_L_149 ⟨by decide, by decide⟩ rfl (Nat.le_of_ble_eq_true rfl) rfl rfl (c_contact R.1 sx_rg sx_rg (z_okp R)) (fun v_ t_ hv_ => ?_)
  obtain ⟨x, rfl, e33, hgr, hx, R6⟩ := opA (c' := c + 1) R (by omega) h1 h2 (fun _ => rfl) (fun z => RR_mono (c := c) (by omega) z) (rfl) hv_
  refine J_istore (M := mL_law) dL_law_759 (by decide) ?_
  refine J_aload_n (M := mL_law) dL_law_761 rfl rfl ?_
  refine M_call (M := mL_law) (as := []) dL_law_762 ca_L_115 ⟨by decide, by decide⟩ rfl (Nat.le_of_ble_eq_true rfl) rfl rfl c_thrown (fun v_ t9 hv9 => ?_)
  obtain ⟨rfl, rfl⟩ := hv9
  rw [e33]
  refine J_iload (M := mL_law) dL_law_765 rfl ?_
  refine Z_ic_eq (M := mL_law) (tgt := 772) hgr hgr dL_law_767 (by decide) (fun c_767 => ?_) (fun c_767 => ?_)
  · refine J_iload (M := mL_law) dL_law_772 rfl ?_
    refine Z_if_ne (M := mL_law) (tgt := 789) hgr dL_law_774 (by decide) (fun c_774 => ?_) (fun c_774 => ?_)
    · refine J_goto (M := mL_law) (tgt := 1869) dL_law_789 (by decide) ?_
      exact J_sub (kk _ _ _ R6) (And.intro rfl (And.intro rfl (And.intro rfl (And.intro rfl (And.intro rfl trivial)))))
    · refine J_aload_n (M := mL_law) dL_law_777 rfl rfl ?_
      refine Z_iconst (M := mL_law) dL_law_778 ?_
      refine J_lald (M := mL_law) (j := 0) dL_law_779 HL_30 (ix_iI (by decide) (by decide) (by decide)) ?_
      rw [(hx c_774).1]
      refine J_iload (M := mL_law) dL_law_780 rfl ?_
      refine J_i2l (M := mL_law) dL_law_782 ?_
      refine J_lcmp (M := mL_law) dL_law_783 ?_
      rw [lg_self]
      refine Z_if_eq (M := mL_law) (tgt := 789) rg0 dL_law_784 (by decide) (fun c_784 => ?_) (fun c_784 => ?_)
      · refine J_goto (M := mL_law) (tgt := 1869) dL_law_789 (by decide) ?_
        exact J_sub (kk _ _ _ R6) (And.intro rfl (And.intro rfl (And.intro rfl (And.intro rfl (And.intro rfl trivial)))))
      · exact absurd rfl c_784
  · exact absurd rfl c_767

set_option maxRecDepth 100000 in
set_option maxHeartbeats 4000000 in
theorem o_10 {X : GX} {f : Nat → Int64} {ρ τ : TS} {c i : Int} {k n : Nat} {Q : LO → LH → Prop} (hL : xL X ≤ 2049) (h0 : 1 ≤ i) (h3 : i + 3 < xL X) (hc : 0 ≤ c ∧ c ≤ 90000) (R : RR ρ τ c) (kk : ∀ f r u, RR r u (c + 1) → J X mL_law 1869 [some (vR (some tScr)), some (vR (some (1, 0))), some (vR (some (20, 0))), some (vR (some (30, 0))), some (vI (iI i)), none, none] [] (HL f r u) k n Q) : J X mL_law 792 [some (vR (some tScr)), some (vR (some (1, 0))), some (vR (some (20, 0))), some (vR (some (30, 0))), some (vI (iI i)), none, none] [] (HL f ρ τ) (k + 800) (n + 6200) Q := by
  refine J_aload_n (M := mL_law) dL_law_792 rfl rfl ?_
  refine J_aload_n (M := mL_law) dL_law_793 rfl rfl ?_
  refine J_iload (M := mL_law) dL_law_794 rfl ?_
  refine Z_iconst (M := mL_law) dL_law_796 ?_
  refine Z_iadd (M := mL_law) dL_law_797 ?_
  refine Z_sld (M := mL_law) dL_law_798 hL (by omega) (by omega) ?_
  refine J_aload_n (M := mL_law) dL_law_799 rfl rfl ?_
  refine J_iload (M := mL_law) dL_law_800 rfl ?_
  refine Z_iconst (M := mL_law) dL_law_802 ?_
  refine Z_iadd (M := mL_law) dL_law_803 ?_
  refine Z_sld (M := mL_law) dL_law_804 hL (by omega) (by omega) ?_
  refine J_aload_n (M := mL_law) dL_law_805 rfl rfl ?_
  refine Z_h (M := mL_law) (show HL f ρ τ = hk (hm (ob f) τ) ρ from hm_hk) ?_
  refine J_callW (M := mL_law) (as := [vR (some (1, 0)), vI (iI (sx X (i + 1))), vI (iI (sx X (i + 2))), vR (some (30, 0))]) dL_law_806 ca_L_150 ⟨by decide, by decide⟩ rfl (Nat.le_of_ble_eq_true rfl) (k' := k) (n' := n) (Nat.add_le_add_left (by decide) k) (Nat.add_le_add_left (by decide) n) (l_right ob_30 (p_right (RR_33 (x := 0) R (by decide)) sx_rg sx_rg)) (fun v_ h_ hv_ => ?_)
  obtain ⟨rfl, f1, r1, rfl, h1, h2⟩ := LQ_ob hv_
  refine J_istore (M := mL_law) dL_law_809 (by decide) ?_
  refine J_aload_n (M := mL_law) dL_law_811 rfl rfl ?_
  refine J_aload_n (M := mL_law) dL_law_812 rfl rfl ?_
  refine J_iload (M := mL_law) dL_law_813 rfl ?_
  refine Z_iconst (M := mL_law) dL_law_815 ?_
  refine Z_iadd (M := mL_law) dL_law_816 ?_
  refine Z_sld (M := mL_law) dL_law_817 hL (by omega) (by omega) ?_
  refine J_aload_n (M := mL_law) dL_law_818 rfl rfl ?_
  refine J_iload (M := mL_law) dL_law_819 rfl ?_
  refine Z_iconst (M := mL_law) dL_law_821 ?_
  refine Z_iadd (M := mL_law) dL_law_822 ?_
  refine Z_sld (M := mL_law) dL_law_823 hL (by omega) (by omega) ?_
  refine M_call (M := mL_law) (as := [vI (iI (sx X (i + 1))), vI (iI (sx X (i + 2)))]) dL_law_824 ca_L_152 ⟨by decide, by decide⟩ rfl (Nat.le_of_ble_eq_true rfl) rfl rfl (c_right R.1 sx_rg sx_rg (z_okp R)) (fun v_ t_ hv_ => ?_)
  obtain ⟨x, rfl, e33, hgr, hx, R6⟩ := opA (c' := c + 1) R (by omega) h1 h2 (fun _ => rfl) (fun z => RR_mono (c := c) (by omega) z) (rfl) hv_
  refine J_istore (M := mL_law) dL_law_827 (by decide) ?_
  refine J_aload_n (M := mL_law) dL_law_829 rfl rfl ?_
  refine M_call (M := mL_law) (as := []) dL_law_830 ca_L_115 ⟨by decide, by decide⟩ rfl (Nat.le_of_ble_eq_true rfl) rfl rfl c_thrown (fun v_ t9 hv9 => ?_)
  obtain ⟨rfl, rfl⟩ := hv9
  rw [e33]
  refine J_iload (M := mL_law) dL_law_833 rfl ?_
  refine Z_ic_eq (M := mL_law) (tgt := 840) hgr hgr dL_law_835 (by decide) (fun c_835 => ?_) (fun c_835 => ?_)
  · refine J_iload (M := mL_law) dL_law_840 rfl ?_
    refine Z_if_ne (M := mL_law) (tgt := 857) hgr dL_law_842 (by decide) (fun c_842 => ?_) (fun c_842 => ?_)
    · refine J_goto (M := mL_law) (tgt := 1869) dL_law_857 (by decide) ?_
      exact J_sub (kk _ _ _ R6) (And.intro rfl (And.intro rfl (And.intro rfl (And.intro rfl (And.intro rfl trivial)))))
    · refine J_aload_n (M := mL_law) dL_law_845 rfl rfl ?_
      refine Z_iconst (M := mL_law) dL_law_846 ?_
      refine J_lald (M := mL_law) (j := 0) dL_law_847 HL_30 (ix_iI (by decide) (by decide) (by decide)) ?_
      rw [(hx c_842).1]
      refine J_iload (M := mL_law) dL_law_848 rfl ?_
      refine J_i2l (M := mL_law) dL_law_850 ?_
      refine J_lcmp (M := mL_law) dL_law_851 ?_
      rw [lg_self]
      refine Z_if_eq (M := mL_law) (tgt := 857) rg0 dL_law_852 (by decide) (fun c_852 => ?_) (fun c_852 => ?_)
      · refine J_goto (M := mL_law) (tgt := 1869) dL_law_857 (by decide) ?_
        exact J_sub (kk _ _ _ R6) (And.intro rfl (And.intro rfl (And.intro rfl (And.intro rfl (And.intro rfl trivial)))))
      · exact absurd rfl c_852
  · exact absurd rfl c_835

set_option maxRecDepth 100000 in
set_option maxHeartbeats 4000000 in
theorem o_11 {X : GX} {f : Nat → Int64} {ρ τ : TS} {c i : Int} {k n : Nat} {Q : LO → LH → Prop} (hL : xL X ≤ 2049) (h0 : 1 ≤ i) (h3 : i + 3 < xL X) (hc : 0 ≤ c ∧ c ≤ 90000) (R : RR ρ τ c) (kk : ∀ f r u, RR r u (c + 1) → J X mL_law 1869 [some (vR (some tScr)), some (vR (some (1, 0))), some (vR (some (20, 0))), some (vR (some (30, 0))), some (vI (iI i)), none, none] [] (HL f r u) k n Q) : J X mL_law 860 [some (vR (some tScr)), some (vR (some (1, 0))), some (vR (some (20, 0))), some (vR (some (30, 0))), some (vI (iI i)), none, none] [] (HL f ρ τ) (k + 800) (n + 6200) Q := by
  refine J_aload_n (M := mL_law) dL_law_860 rfl rfl ?_
  refine J_aload_n (M := mL_law) dL_law_861 rfl rfl ?_
  refine Z_h (M := mL_law) (show HL f ρ τ = hk (hm (ob f) τ) ρ from hm_hk) ?_
  refine J_callW (M := mL_law) (as := [vR (some (1, 0)), vR (some (30, 0))]) dL_law_862 ca_L_153 ⟨by decide, by decide⟩ rfl (Nat.le_of_ble_eq_true rfl) (k' := k) (n' := n) (Nat.add_le_add_left (by decide) k) (Nat.add_le_add_left (by decide) n) (l_halt ob_30 (p_halt (RR_33 (x := 0) R (by decide))  hc.2)) (fun v_ h_ hv_ => ?_)
  obtain ⟨rfl, f1, r1, rfl, h1, h2⟩ := LQ_ob hv_
  refine J_istore (M := mL_law) dL_law_865 (by decide) ?_
  refine J_aload_n (M := mL_law) dL_law_867 rfl rfl ?_
  refine M_call (M := mL_law) (as := []) dL_law_868 ca_L_155 ⟨by decide, by decide⟩ rfl (Nat.le_of_ble_eq_true rfl) rfl rfl (c_halt R.1  (z_okp R)) (fun v_ t_ hv_ => ?_)
  obtain ⟨x, rfl, e33, hgr, hx, R6⟩ := opA (c' := c + 1) R (by omega) h1 h2 (fun _ => rfl) (fun z => RR_mono (c := c) (by omega) z) (fol_33) hv_
  refine J_istore (M := mL_law) dL_law_871 (by decide) ?_
  refine J_aload_n (M := mL_law) dL_law_873 rfl rfl ?_
  refine M_call (M := mL_law) (as := []) dL_law_874 ca_L_115 ⟨by decide, by decide⟩ rfl (Nat.le_of_ble_eq_true rfl) rfl rfl c_thrown (fun v_ t9 hv9 => ?_)
  obtain ⟨rfl, rfl⟩ := hv9
  rw [e33]
  refine J_iload (M := mL_law) dL_law_877 rfl ?_
  refine Z_ic_eq (M := mL_law) (tgt := 884) hgr hgr dL_law_879 (by decide) (fun c_879 => ?_) (fun c_879 => ?_)
  · refine J_iload (M := mL_law) dL_law_884 rfl ?_
    refine Z_if_ne (M := mL_law) (tgt := 901) hgr dL_law_886 (by decide) (fun c_886 => ?_) (fun c_886 => ?_)
    · refine J_goto (M := mL_law) (tgt := 1869) dL_law_901 (by decide) ?_
      exact J_sub (kk _ _ _ R6) (And.intro rfl (And.intro rfl (And.intro rfl (And.intro rfl (And.intro rfl trivial)))))
    · refine J_aload_n (M := mL_law) dL_law_889 rfl rfl ?_
      refine Z_iconst (M := mL_law) dL_law_890 ?_
      refine J_lald (M := mL_law) (j := 0) dL_law_891 HL_30 (ix_iI (by decide) (by decide) (by decide)) ?_
      rw [(hx c_886).1]
      refine J_iload (M := mL_law) dL_law_892 rfl ?_
      refine J_i2l (M := mL_law) dL_law_894 ?_
      refine J_lcmp (M := mL_law) dL_law_895 ?_
      rw [lg_self]
      refine Z_if_eq (M := mL_law) (tgt := 901) rg0 dL_law_896 (by decide) (fun c_896 => ?_) (fun c_896 => ?_)
      · refine J_goto (M := mL_law) (tgt := 1869) dL_law_901 (by decide) ?_
        exact J_sub (kk _ _ _ R6) (And.intro rfl (And.intro rfl (And.intro rfl (And.intro rfl (And.intro rfl trivial)))))
      · exact absurd rfl c_896
  · exact absurd rfl c_879

set_option maxRecDepth 100000 in
set_option maxHeartbeats 4000000 in
theorem o_12 {X : GX} {f : Nat → Int64} {ρ τ : TS} {c i : Int} {k n : Nat} {Q : LO → LH → Prop} (hL : xL X ≤ 2049) (h0 : 1 ≤ i) (h3 : i + 3 < xL X) (hc : 0 ≤ c ∧ c ≤ 90000) (R : RR ρ τ c) (kk : ∀ f r u, RR r u (c + 1) → J X mL_law 1869 [some (vR (some tScr)), some (vR (some (1, 0))), some (vR (some (20, 0))), some (vR (some (30, 0))), some (vI (iI i)), none, none] [] (HL f r u) k n Q) : J X mL_law 904 [some (vR (some tScr)), some (vR (some (1, 0))), some (vR (some (20, 0))), some (vR (some (30, 0))), some (vI (iI i)), none, none] [] (HL f ρ τ) (k + 800) (n + 6200) Q := by
  refine J_aload_n (M := mL_law) dL_law_904 rfl rfl ?_
  refine J_aload_n (M := mL_law) dL_law_905 rfl rfl ?_
  refine J_iload (M := mL_law) dL_law_906 rfl ?_
  refine Z_iconst (M := mL_law) dL_law_908 ?_
  refine Z_iadd (M := mL_law) dL_law_909 ?_
  refine Z_sld (M := mL_law) dL_law_910 hL (by omega) (by omega) ?_
  refine J_aload_n (M := mL_law) dL_law_911 rfl rfl ?_
  refine J_iload (M := mL_law) dL_law_912 rfl ?_
  refine Z_iconst (M := mL_law) dL_law_914 ?_
  refine Z_iadd (M := mL_law) dL_law_915 ?_
  refine Z_sld (M := mL_law) dL_law_916 hL (by omega) (by omega) ?_
  refine J_aload_n (M := mL_law) dL_law_917 rfl rfl ?_
  refine Z_h (M := mL_law) (show HL f ρ τ = hk (hm (ob f) τ) ρ from hm_hk) ?_
  refine J_callW (M := mL_law) (as := [vR (some (1, 0)), vI (iI (sx X (i + 1))), vI (iI (sx X (i + 2))), vR (some (30, 0))]) dL_law_918 ca_L_156 ⟨by decide, by decide⟩ rfl (Nat.le_of_ble_eq_true rfl) (k' := k) (n' := n) (Nat.add_le_add_left (by decide) k) (Nat.add_le_add_left (by decide) n) (l_appeal ob_30 (p_appeal (RR_33 (x := 0) R (by decide)) sx_rg sx_rg)) (fun v_ h_ hv_ => ?_)
  obtain ⟨rfl, f1, r1, rfl, h1, h2⟩ := LQ_ob hv_
  refine J_istore (M := mL_law) dL_law_921 (by decide) ?_
  refine J_aload_n (M := mL_law) dL_law_923 rfl rfl ?_
  refine J_aload_n (M := mL_law) dL_law_924 rfl rfl ?_
  refine J_iload (M := mL_law) dL_law_925 rfl ?_
  refine Z_iconst (M := mL_law) dL_law_927 ?_
  refine Z_iadd (M := mL_law) dL_law_928 ?_
  refine Z_sld (M := mL_law) dL_law_929 hL (by omega) (by omega) ?_
  refine J_aload_n (M := mL_law) dL_law_930 rfl rfl ?_
  refine J_iload (M := mL_law) dL_law_931 rfl ?_
  refine Z_iconst (M := mL_law) dL_law_933 ?_
  refine Z_iadd (M := mL_law) dL_law_934 ?_
  refine Z_sld (M := mL_law) dL_law_935 hL (by omega) (by omega) ?_
  refine M_call (M := mL_law) (as := [vI (iI (sx X (i + 1))), vI (iI (sx X (i + 2)))]) dL_law_936 ca_L_158 ⟨by decide, by decide⟩ rfl (Nat.le_of_ble_eq_true rfl) rfl rfl (c_appeal R.1 sx_rg sx_rg (z_okb R) (z_fr R)) (fun v_ t_ hv_ => ?_)
  obtain ⟨x, rfl, e33, hgr, hx, R6⟩ := opA (c' := c + 1) R (by omega) h1 h2 (fun _ => rfl) (fun z => RR_mono (c := c) (by omega) z) (fol_33) hv_
  refine J_istore (M := mL_law) dL_law_939 (by decide) ?_
  refine J_aload_n (M := mL_law) dL_law_941 rfl rfl ?_
  refine M_call (M := mL_law) (as := []) dL_law_942 ca_L_115 ⟨by decide, by decide⟩ rfl (Nat.le_of_ble_eq_true rfl) rfl rfl c_thrown (fun v_ t9 hv9 => ?_)
  obtain ⟨rfl, rfl⟩ := hv9
  rw [e33]
  refine J_iload (M := mL_law) dL_law_945 rfl ?_
  refine Z_ic_eq (M := mL_law) (tgt := 952) hgr hgr dL_law_947 (by decide) (fun c_947 => ?_) (fun c_947 => ?_)
  · refine J_iload (M := mL_law) dL_law_952 rfl ?_
    refine Z_if_ne (M := mL_law) (tgt := 969) hgr dL_law_954 (by decide) (fun c_954 => ?_) (fun c_954 => ?_)
    · refine J_goto (M := mL_law) (tgt := 1869) dL_law_969 (by decide) ?_
      exact J_sub (kk _ _ _ R6) (And.intro rfl (And.intro rfl (And.intro rfl (And.intro rfl (And.intro rfl trivial)))))
    · refine J_aload_n (M := mL_law) dL_law_957 rfl rfl ?_
      refine Z_iconst (M := mL_law) dL_law_958 ?_
      refine J_lald (M := mL_law) (j := 0) dL_law_959 HL_30 (ix_iI (by decide) (by decide) (by decide)) ?_
      rw [(hx c_954).1]
      refine J_iload (M := mL_law) dL_law_960 rfl ?_
      refine J_i2l (M := mL_law) dL_law_962 ?_
      refine J_lcmp (M := mL_law) dL_law_963 ?_
      rw [lg_self]
      refine Z_if_eq (M := mL_law) (tgt := 969) rg0 dL_law_964 (by decide) (fun c_964 => ?_) (fun c_964 => ?_)
      · refine J_goto (M := mL_law) (tgt := 1869) dL_law_969 (by decide) ?_
        exact J_sub (kk _ _ _ R6) (And.intro rfl (And.intro rfl (And.intro rfl (And.intro rfl (And.intro rfl trivial)))))
      · exact absurd rfl c_964
  · exact absurd rfl c_947

set_option maxRecDepth 100000 in
set_option maxHeartbeats 4000000 in
theorem o_13 {X : GX} {f : Nat → Int64} {ρ τ : TS} {c i : Int} {k n : Nat} {Q : LO → LH → Prop} (hL : xL X ≤ 2049) (h0 : 1 ≤ i) (h3 : i + 3 < xL X) (hc : 0 ≤ c ∧ c ≤ 90000) (R : RR ρ τ c) (kk : ∀ f r u, RR r u (c + 1) → J X mL_law 1869 [some (vR (some tScr)), some (vR (some (1, 0))), some (vR (some (20, 0))), some (vR (some (30, 0))), some (vI (iI i)), none, none] [] (HL f r u) k n Q) : J X mL_law 972 [some (vR (some tScr)), some (vR (some (1, 0))), some (vR (some (20, 0))), some (vR (some (30, 0))), some (vI (iI i)), none, none] [] (HL f ρ τ) (k + 800) (n + 6200) Q := by
  refine J_aload_n (M := mL_law) dL_law_972 rfl rfl ?_
  refine Z_h (M := mL_law) (show HL f ρ τ = hk (hm (ob f) τ) ρ from hm_hk) ?_
  refine J_callV (M := mL_law) (as := []) dL_law_973 ca_L_159 ⟨by decide, by decide⟩ (hk_1 (show CE ρ 1 0 from rfl)) rfl (Nat.le_of_ble_eq_true rfl) (k' := k) (n' := n) (Nat.le_add_right k 800) (Nat.le_add_right n 6200) (p_piste R) (fun v_ h_ hv_ => ?_)
  obtain ⟨r_, rfl, rfl, rfl⟩ := hv_
  refine Z_h (M := mL_law) hm_hk.symm ?_
  refine J_aload_n (M := mL_law) dL_law_976 rfl rfl ?_
  refine M_call (M := mL_law) (as := []) dL_law_977 ca_L_162 ⟨by decide, by decide⟩ rfl (Nat.le_of_ble_eq_true rfl) rfl rfl (c_piste R.1) (fun v_ t_ hv_ => ?_)
  obtain ⟨rfl, rfl⟩ := hv_
  refine J_ic_eq (M := mL_law) (tgt := 1869) dL_law_980 (by decide) (fun c_ => ?_) (fun c_ => absurd rfl c_)
  exact kk f _ _ (RR_mono (c := c) (by omega) (RR_33 R (by decide)))

set_option maxRecDepth 100000 in
set_option maxHeartbeats 4000000 in
theorem o_14 {X : GX} {f : Nat → Int64} {ρ τ : TS} {c i : Int} {k n : Nat} {Q : LO → LH → Prop} (hL : xL X ≤ 2049) (h0 : 1 ≤ i) (h3 : i + 3 < xL X) (hc : 0 ≤ c ∧ c ≤ 90000) (R : RR ρ τ c) (kk : ∀ f r u, RR r u (c + 1) → J X mL_law 1869 [some (vR (some tScr)), some (vR (some (1, 0))), some (vR (some (20, 0))), some (vR (some (30, 0))), some (vI (iI i)), none, none] [] (HL f r u) k n Q) : J X mL_law 985 [some (vR (some tScr)), some (vR (some (1, 0))), some (vR (some (20, 0))), some (vR (some (30, 0))), some (vI (iI i)), none, none] [] (HL f ρ τ) (k + 800) (n + 6200) Q := by
  refine J_aload_n (M := mL_law) dL_law_985 rfl rfl ?_
  refine Z_h (M := mL_law) (show HL f ρ τ = hk (hm (ob f) τ) ρ from hm_hk) ?_
  refine J_callV (M := mL_law) (as := []) dL_law_986 ca_L_163 ⟨by decide, by decide⟩ (hk_1 (show CE ρ 1 0 from rfl)) rfl (Nat.le_of_ble_eq_true rfl) (k' := k) (n' := n) (Nat.le_add_right k 800) (Nat.le_add_right n 6200) (p_isFencing R) (fun v_ h_ hv_ => ?_)
  obtain ⟨r_, rfl, rfl, rfl⟩ := hv_
  refine Z_h (M := mL_law) hm_hk.symm ?_
  refine J_aload_n (M := mL_law) dL_law_989 rfl rfl ?_
  refine M_call (M := mL_law) (as := []) dL_law_990 ca_L_167 ⟨by decide, by decide⟩ rfl (Nat.le_of_ble_eq_true rfl) rfl rfl (c_isFencing R.1) (fun v_ t_ hv_ => ?_)
  obtain ⟨rfl, rfl⟩ := hv_
  refine J_ic_eq (M := mL_law) (tgt := 1869) dL_law_993 (by decide) (fun c_ => ?_) (fun c_ => absurd rfl c_)
  exact kk f _ _ (RR_mono (c := c) (by omega) (RR_33 R (by decide)))

set_option maxRecDepth 100000 in
set_option maxHeartbeats 4000000 in
theorem o_15 {X : GX} {f : Nat → Int64} {ρ τ : TS} {c i : Int} {k n : Nat} {Q : LO → LH → Prop} (hL : xL X ≤ 2049) (h0 : 1 ≤ i) (h3 : i + 3 < xL X) (hc : 0 ≤ c ∧ c ≤ 90000) (R : RR ρ τ c) (kk : ∀ f r u, RR r u (c + 1) → J X mL_law 1869 [some (vR (some tScr)), some (vR (some (1, 0))), some (vR (some (20, 0))), some (vR (some (30, 0))), some (vI (iI i)), none, none] [] (HL f r u) k n Q) : J X mL_law 998 [some (vR (some tScr)), some (vR (some (1, 0))), some (vR (some (20, 0))), some (vR (some (30, 0))), some (vI (iI i)), none, none] [] (HL f ρ τ) (k + 800) (n + 6200) Q := by
  refine J_aload_n (M := mL_law) dL_law_998 rfl rfl ?_
  refine J_aload_n (M := mL_law) dL_law_999 rfl rfl ?_
  refine J_iload (M := mL_law) dL_law_1000 rfl ?_
  refine Z_iconst (M := mL_law) dL_law_1002 ?_
  refine Z_iadd (M := mL_law) dL_law_1003 ?_
  refine Z_sld (M := mL_law) dL_law_1004 hL (by omega) (by omega) ?_
  refine J_aload_n (M := mL_law) dL_law_1005 rfl rfl ?_
  refine Z_h (M := mL_law) (show HL f ρ τ = hk (hm (ob f) τ) ρ from hm_hk) ?_
  refine J_callW (M := mL_law) (as := [vR (some (1, 0)), vI (iI (sx X (i + 1))), vR (some (30, 0))]) dL_law_1006 ca_L_168 ⟨by decide, by decide⟩ rfl (Nat.le_of_ble_eq_true rfl) (k' := k) (n' := n) (Nat.add_le_add_left (by decide) k) (Nat.add_le_add_left (by decide) n) (l_weaponOf ob_30 (p_weaponOf R sx_rg)) (fun v_ h_ hv_ => ?_)
  obtain ⟨rfl, f1, r1, rfl, h1, h2⟩ := LQ_ob hv_
  refine J_istore (M := mL_law) dL_law_1009 (by decide) ?_
  refine J_aload_n (M := mL_law) dL_law_1011 rfl rfl ?_
  refine J_aload_n (M := mL_law) dL_law_1012 rfl rfl ?_
  refine J_iload (M := mL_law) dL_law_1013 rfl ?_
  refine Z_iconst (M := mL_law) dL_law_1015 ?_
  refine Z_iadd (M := mL_law) dL_law_1016 ?_
  refine Z_sld (M := mL_law) dL_law_1017 hL (by omega) (by omega) ?_
  refine M_call (M := mL_law) (as := [vI (iI (sx X (i + 1)))]) dL_law_1018 ca_L_170 ⟨by decide, by decide⟩ rfl (Nat.le_of_ble_eq_true rfl) rfl rfl (c_weaponOf R.1 sx_rg ) (fun v_ t_ hv_ => ?_)
  obtain ⟨x, rfl, e33, hgr, hx, R6⟩ := opA (c' := c + 1) R (by omega) h1 h2 (fun _ => rfl) (fun z => RR_mono (c := c) (by omega) (RR_33 z (by decide))) (rfl) hv_
  refine J_istore (M := mL_law) dL_law_1021 (by decide) ?_
  refine J_aload_n (M := mL_law) dL_law_1023 rfl rfl ?_
  refine M_call (M := mL_law) (as := []) dL_law_1024 ca_L_115 ⟨by decide, by decide⟩ rfl (Nat.le_of_ble_eq_true rfl) rfl rfl c_thrown (fun v_ t9 hv9 => ?_)
  obtain ⟨rfl, rfl⟩ := hv9
  rw [e33]
  refine J_iload (M := mL_law) dL_law_1027 rfl ?_
  refine Z_ic_eq (M := mL_law) (tgt := 1034) hgr hgr dL_law_1029 (by decide) (fun c_1029 => ?_) (fun c_1029 => ?_)
  · refine J_iload (M := mL_law) dL_law_1034 rfl ?_
    refine Z_if_ne (M := mL_law) (tgt := 1051) hgr dL_law_1036 (by decide) (fun c_1036 => ?_) (fun c_1036 => ?_)
    · refine J_goto (M := mL_law) (tgt := 1869) dL_law_1051 (by decide) ?_
      exact J_sub (kk _ _ _ R6) (And.intro rfl (And.intro rfl (And.intro rfl (And.intro rfl (And.intro rfl trivial)))))
    · refine J_aload_n (M := mL_law) dL_law_1039 rfl rfl ?_
      refine Z_iconst (M := mL_law) dL_law_1040 ?_
      refine J_lald (M := mL_law) (j := 0) dL_law_1041 HL_30 (ix_iI (by decide) (by decide) (by decide)) ?_
      rw [(hx c_1036).1]
      refine J_iload (M := mL_law) dL_law_1042 rfl ?_
      refine J_i2l (M := mL_law) dL_law_1044 ?_
      refine J_lcmp (M := mL_law) dL_law_1045 ?_
      rw [lg_self]
      refine Z_if_eq (M := mL_law) (tgt := 1051) rg0 dL_law_1046 (by decide) (fun c_1046 => ?_) (fun c_1046 => ?_)
      · refine J_goto (M := mL_law) (tgt := 1869) dL_law_1051 (by decide) ?_
        exact J_sub (kk _ _ _ R6) (And.intro rfl (And.intro rfl (And.intro rfl (And.intro rfl (And.intro rfl trivial)))))
      · exact absurd rfl c_1046
  · exact absurd rfl c_1029

set_option maxRecDepth 100000 in
set_option maxHeartbeats 4000000 in
theorem o_16 {X : GX} {f : Nat → Int64} {ρ τ : TS} {c i : Int} {k n : Nat} {Q : LO → LH → Prop} (hL : xL X ≤ 2049) (h0 : 1 ≤ i) (h3 : i + 3 < xL X) (hc : 0 ≤ c ∧ c ≤ 90000) (R : RR ρ τ c) (kk : ∀ f r u, RR r u (c + 1) → J X mL_law 1869 [some (vR (some tScr)), some (vR (some (1, 0))), some (vR (some (20, 0))), some (vR (some (30, 0))), some (vI (iI i)), none, none] [] (HL f r u) k n Q) : J X mL_law 1054 [some (vR (some tScr)), some (vR (some (1, 0))), some (vR (some (20, 0))), some (vR (some (30, 0))), some (vI (iI i)), none, none] [] (HL f ρ τ) (k + 800) (n + 6200) Q := by
  refine J_aload_n (M := mL_law) dL_law_1054 rfl rfl ?_
  refine J_aload_n (M := mL_law) dL_law_1055 rfl rfl ?_
  refine J_iload (M := mL_law) dL_law_1056 rfl ?_
  refine Z_iconst (M := mL_law) dL_law_1058 ?_
  refine Z_iadd (M := mL_law) dL_law_1059 ?_
  refine Z_sld (M := mL_law) dL_law_1060 hL (by omega) (by omega) ?_
  refine J_aload_n (M := mL_law) dL_law_1061 rfl rfl ?_
  refine J_iload (M := mL_law) dL_law_1062 rfl ?_
  refine Z_iconst (M := mL_law) dL_law_1064 ?_
  refine Z_iadd (M := mL_law) dL_law_1065 ?_
  refine Z_sld (M := mL_law) dL_law_1066 hL (by omega) (by omega) ?_
  refine J_aload_n (M := mL_law) dL_law_1067 rfl rfl ?_
  refine Z_h (M := mL_law) (show HL f ρ τ = hk (hm (ob f) τ) ρ from hm_hk) ?_
  refine J_callW (M := mL_law) (as := [vR (some (1, 0)), vI (iI (sx X (i + 1))), vI (iI (sx X (i + 2))), vR (some (30, 0))]) dL_law_1068 ca_L_171 ⟨by decide, by decide⟩ rfl (Nat.le_of_ble_eq_true rfl) (k' := k) (n' := n) (Nat.add_le_add_left (by decide) k) (Nat.add_le_add_left (by decide) n) (l_fencerOf ob_30 (p_fencerOf R sx_rg sx_rg)) (fun v_ h_ hv_ => ?_)
  obtain ⟨rfl, f1, r1, rfl, h1, h2⟩ := LQ_ob hv_
  refine J_istore (M := mL_law) dL_law_1071 (by decide) ?_
  refine J_aload_n (M := mL_law) dL_law_1073 rfl rfl ?_
  refine J_aload_n (M := mL_law) dL_law_1074 rfl rfl ?_
  refine J_iload (M := mL_law) dL_law_1075 rfl ?_
  refine Z_iconst (M := mL_law) dL_law_1077 ?_
  refine Z_iadd (M := mL_law) dL_law_1078 ?_
  refine Z_sld (M := mL_law) dL_law_1079 hL (by omega) (by omega) ?_
  refine J_aload_n (M := mL_law) dL_law_1080 rfl rfl ?_
  refine J_iload (M := mL_law) dL_law_1081 rfl ?_
  refine Z_iconst (M := mL_law) dL_law_1083 ?_
  refine Z_iadd (M := mL_law) dL_law_1084 ?_
  refine Z_sld (M := mL_law) dL_law_1085 hL (by omega) (by omega) ?_
  refine M_call (M := mL_law) (as := [vI (iI (sx X (i + 1))), vI (iI (sx X (i + 2)))]) dL_law_1086 ca_L_173 ⟨by decide, by decide⟩ rfl (Nat.le_of_ble_eq_true rfl) rfl rfl (c_fencerOf R.1 sx_rg sx_rg ) (fun v_ t_ hv_ => ?_)
  obtain ⟨x, rfl, e33, hgr, hx, R6⟩ := opA (c' := c + 1) R (by omega) h1 h2 (fun _ => rfl) (fun z => RR_mono (c := c) (by omega) (RR_33 z (by decide))) (rfl) hv_
  refine J_istore (M := mL_law) dL_law_1089 (by decide) ?_
  refine J_aload_n (M := mL_law) dL_law_1091 rfl rfl ?_
  refine M_call (M := mL_law) (as := []) dL_law_1092 ca_L_115 ⟨by decide, by decide⟩ rfl (Nat.le_of_ble_eq_true rfl) rfl rfl c_thrown (fun v_ t9 hv9 => ?_)
  obtain ⟨rfl, rfl⟩ := hv9
  rw [e33]
  refine J_iload (M := mL_law) dL_law_1095 rfl ?_
  refine Z_ic_eq (M := mL_law) (tgt := 1102) hgr hgr dL_law_1097 (by decide) (fun c_1097 => ?_) (fun c_1097 => ?_)
  · refine J_iload (M := mL_law) dL_law_1102 rfl ?_
    refine Z_if_ne (M := mL_law) (tgt := 1119) hgr dL_law_1104 (by decide) (fun c_1104 => ?_) (fun c_1104 => ?_)
    · refine J_goto (M := mL_law) (tgt := 1869) dL_law_1119 (by decide) ?_
      exact J_sub (kk _ _ _ R6) (And.intro rfl (And.intro rfl (And.intro rfl (And.intro rfl (And.intro rfl trivial)))))
    · refine J_aload_n (M := mL_law) dL_law_1107 rfl rfl ?_
      refine Z_iconst (M := mL_law) dL_law_1108 ?_
      refine J_lald (M := mL_law) (j := 0) dL_law_1109 HL_30 (ix_iI (by decide) (by decide) (by decide)) ?_
      rw [(hx c_1104).1]
      refine J_iload (M := mL_law) dL_law_1110 rfl ?_
      refine J_i2l (M := mL_law) dL_law_1112 ?_
      refine J_lcmp (M := mL_law) dL_law_1113 ?_
      rw [lg_self]
      refine Z_if_eq (M := mL_law) (tgt := 1119) rg0 dL_law_1114 (by decide) (fun c_1114 => ?_) (fun c_1114 => ?_)
      · refine J_goto (M := mL_law) (tgt := 1869) dL_law_1119 (by decide) ?_
        exact J_sub (kk _ _ _ R6) (And.intro rfl (And.intro rfl (And.intro rfl (And.intro rfl (And.intro rfl trivial)))))
      · exact absurd rfl c_1114
  · exact absurd rfl c_1097

set_option maxRecDepth 100000 in
set_option maxHeartbeats 4000000 in
theorem o_17 {X : GX} {f : Nat → Int64} {ρ τ : TS} {c i : Int} {k n : Nat} {Q : LO → LH → Prop} (hL : xL X ≤ 2049) (h0 : 1 ≤ i) (h3 : i + 3 < xL X) (hc : 0 ≤ c ∧ c ≤ 90000) (R : RR ρ τ c) (kk : ∀ f r u, RR r u (c + 1) → J X mL_law 1869 [some (vR (some tScr)), some (vR (some (1, 0))), some (vR (some (20, 0))), some (vR (some (30, 0))), some (vI (iI i)), none, none] [] (HL f r u) k n Q) : J X mL_law 1122 [some (vR (some tScr)), some (vR (some (1, 0))), some (vR (some (20, 0))), some (vR (some (30, 0))), some (vI (iI i)), none, none] [] (HL f ρ τ) (k + 800) (n + 6200) Q := by
  refine J_aload_n (M := mL_law) dL_law_1122 rfl rfl ?_
  refine J_aload_n (M := mL_law) dL_law_1123 rfl rfl ?_
  refine J_iload (M := mL_law) dL_law_1124 rfl ?_
  refine Z_iconst (M := mL_law) dL_law_1126 ?_
  refine Z_iadd (M := mL_law) dL_law_1127 ?_
  refine Z_sld (M := mL_law) dL_law_1128 hL (by omega) (by omega) ?_
  refine J_aload_n (M := mL_law) dL_law_1129 rfl rfl ?_
  refine J_iload (M := mL_law) dL_law_1130 rfl ?_
  refine Z_iconst (M := mL_law) dL_law_1132 ?_
  refine Z_iadd (M := mL_law) dL_law_1133 ?_
  refine Z_sld (M := mL_law) dL_law_1134 hL (by omega) (by omega) ?_
  refine J_aload_n (M := mL_law) dL_law_1135 rfl rfl ?_
  refine Z_h (M := mL_law) (show HL f ρ τ = hk (hm (ob f) τ) ρ from hm_hk) ?_
  refine J_callW (M := mL_law) (as := [vR (some (1, 0)), vI (iI (sx X (i + 1))), vI (iI (sx X (i + 2))), vR (some (30, 0))]) dL_law_1136 ca_L_174 ⟨by decide, by decide⟩ rfl (Nat.le_of_ble_eq_true rfl) (k' := k) (n' := n) (Nat.add_le_add_left (by decide) k) (Nat.add_le_add_left (by decide) n) (l_score ob_30 (p_score R sx_rg sx_rg)) (fun v_ h_ hv_ => ?_)
  obtain ⟨rfl, f1, r1, rfl, h1, h2⟩ := LQ_ob hv_
  refine J_istore (M := mL_law) dL_law_1139 (by decide) ?_
  refine J_aload_n (M := mL_law) dL_law_1141 rfl rfl ?_
  refine J_aload_n (M := mL_law) dL_law_1142 rfl rfl ?_
  refine J_iload (M := mL_law) dL_law_1143 rfl ?_
  refine Z_iconst (M := mL_law) dL_law_1145 ?_
  refine Z_iadd (M := mL_law) dL_law_1146 ?_
  refine Z_sld (M := mL_law) dL_law_1147 hL (by omega) (by omega) ?_
  refine J_aload_n (M := mL_law) dL_law_1148 rfl rfl ?_
  refine J_iload (M := mL_law) dL_law_1149 rfl ?_
  refine Z_iconst (M := mL_law) dL_law_1151 ?_
  refine Z_iadd (M := mL_law) dL_law_1152 ?_
  refine Z_sld (M := mL_law) dL_law_1153 hL (by omega) (by omega) ?_
  refine M_call (M := mL_law) (as := [vI (iI (sx X (i + 1))), vI (iI (sx X (i + 2)))]) dL_law_1154 ca_L_176 ⟨by decide, by decide⟩ rfl (Nat.le_of_ble_eq_true rfl) rfl rfl (c_score R.1 sx_rg sx_rg ) (fun v_ t_ hv_ => ?_)
  obtain ⟨x, rfl, e33, hgr, hx, R6⟩ := opQ (c' := c + 1) R (by omega) h1 h2 (fun _ => rfl) (fun z => RR_mono (c := c) (by omega) (RR_33 z (by decide))) hv_
  refine J_istore (M := mL_law) dL_law_1157 (by decide) ?_
  refine J_aload_n (M := mL_law) dL_law_1159 rfl rfl ?_
  refine M_call (M := mL_law) (as := []) dL_law_1160 ca_L_115 ⟨by decide, by decide⟩ rfl (Nat.le_of_ble_eq_true rfl) rfl rfl c_thrown (fun v_ t9 hv9 => ?_)
  obtain ⟨rfl, rfl⟩ := hv9
  rw [e33]
  refine J_iload (M := mL_law) dL_law_1163 rfl ?_
  refine Z_ic_eq (M := mL_law) (tgt := 1170) hgr hgr dL_law_1165 (by decide) (fun c_1165 => ?_) (fun c_1165 => ?_)
  · refine J_iload (M := mL_law) dL_law_1170 rfl ?_
    refine Z_if_ne (M := mL_law) (tgt := 1187) hgr dL_law_1172 (by decide) (fun c_1172 => ?_) (fun c_1172 => ?_)
    · refine J_goto (M := mL_law) (tgt := 1869) dL_law_1187 (by decide) ?_
      exact J_sub (kk _ _ _ R6) (And.intro rfl (And.intro rfl (And.intro rfl (And.intro rfl (And.intro rfl trivial)))))
    · refine J_aload_n (M := mL_law) dL_law_1175 rfl rfl ?_
      refine Z_iconst (M := mL_law) dL_law_1176 ?_
      refine J_lald (M := mL_law) (j := 0) dL_law_1177 HL_30 (ix_iI (by decide) (by decide) (by decide)) ?_
      rw [(hx c_1172).1]
      refine J_iload (M := mL_law) dL_law_1178 rfl ?_
      refine J_i2l (M := mL_law) dL_law_1180 ?_
      refine J_lcmp (M := mL_law) dL_law_1181 ?_
      rw [lg_self]
      refine Z_if_eq (M := mL_law) (tgt := 1187) rg0 dL_law_1182 (by decide) (fun c_1182 => ?_) (fun c_1182 => ?_)
      · refine J_goto (M := mL_law) (tgt := 1869) dL_law_1187 (by decide) ?_
        exact J_sub (kk _ _ _ R6) (And.intro rfl (And.intro rfl (And.intro rfl (And.intro rfl (And.intro rfl trivial)))))
      · exact absurd rfl c_1182
  · exact absurd rfl c_1165

set_option maxRecDepth 100000 in
set_option maxHeartbeats 4000000 in
theorem o_18 {X : GX} {f : Nat → Int64} {ρ τ : TS} {c i : Int} {k n : Nat} {Q : LO → LH → Prop} (hL : xL X ≤ 2049) (h0 : 1 ≤ i) (h3 : i + 3 < xL X) (hc : 0 ≤ c ∧ c ≤ 90000) (R : RR ρ τ c) (kk : ∀ f r u, RR r u (c + 1) → J X mL_law 1869 [some (vR (some tScr)), some (vR (some (1, 0))), some (vR (some (20, 0))), some (vR (some (30, 0))), some (vI (iI i)), none, none] [] (HL f r u) k n Q) : J X mL_law 1190 [some (vR (some tScr)), some (vR (some (1, 0))), some (vR (some (20, 0))), some (vR (some (30, 0))), some (vI (iI i)), none, none] [] (HL f ρ τ) (k + 800) (n + 6200) Q := by
  refine J_aload_n (M := mL_law) dL_law_1190 rfl rfl ?_
  refine J_aload_n (M := mL_law) dL_law_1191 rfl rfl ?_
  refine J_iload (M := mL_law) dL_law_1192 rfl ?_
  refine Z_iconst (M := mL_law) dL_law_1194 ?_
  refine Z_iadd (M := mL_law) dL_law_1195 ?_
  refine Z_sld (M := mL_law) dL_law_1196 hL (by omega) (by omega) ?_
  refine J_aload_n (M := mL_law) dL_law_1197 rfl rfl ?_
  refine J_iload (M := mL_law) dL_law_1198 rfl ?_
  refine Z_iconst (M := mL_law) dL_law_1200 ?_
  refine Z_iadd (M := mL_law) dL_law_1201 ?_
  refine Z_sld (M := mL_law) dL_law_1202 hL (by omega) (by omega) ?_
  refine J_aload_n (M := mL_law) dL_law_1203 rfl rfl ?_
  refine Z_h (M := mL_law) (show HL f ρ τ = hk (hm (ob f) τ) ρ from hm_hk) ?_
  refine J_callW (M := mL_law) (as := [vR (some (1, 0)), vI (iI (sx X (i + 1))), vI (iI (sx X (i + 2))), vR (some (30, 0))]) dL_law_1204 ca_L_177 ⟨by decide, by decide⟩ rfl (Nat.le_of_ble_eq_true rfl) (k' := k) (n' := n) (Nat.add_le_add_left (by decide) k) (Nat.add_le_add_left (by decide) n) (l_scoreAnew ob_30 (p_scoreAnew R sx_rg sx_rg)) (fun v_ h_ hv_ => ?_)
  obtain ⟨rfl, f1, r1, rfl, h1, h2⟩ := LQ_ob hv_
  refine J_istore (M := mL_law) dL_law_1207 (by decide) ?_
  refine J_aload_n (M := mL_law) dL_law_1209 rfl rfl ?_
  refine J_aload_n (M := mL_law) dL_law_1210 rfl rfl ?_
  refine J_iload (M := mL_law) dL_law_1211 rfl ?_
  refine Z_iconst (M := mL_law) dL_law_1213 ?_
  refine Z_iadd (M := mL_law) dL_law_1214 ?_
  refine Z_sld (M := mL_law) dL_law_1215 hL (by omega) (by omega) ?_
  refine J_aload_n (M := mL_law) dL_law_1216 rfl rfl ?_
  refine J_iload (M := mL_law) dL_law_1217 rfl ?_
  refine Z_iconst (M := mL_law) dL_law_1219 ?_
  refine Z_iadd (M := mL_law) dL_law_1220 ?_
  refine Z_sld (M := mL_law) dL_law_1221 hL (by omega) (by omega) ?_
  refine M_call (M := mL_law) (as := [vI (iI (sx X (i + 1))), vI (iI (sx X (i + 2)))]) dL_law_1222 ca_L_179 ⟨by decide, by decide⟩ rfl (Nat.le_of_ble_eq_true rfl) rfl rfl (c_scoreAnew R.1 sx_rg sx_rg ) (fun v_ t_ hv_ => ?_)
  obtain ⟨x, rfl, e33, hgr, hx, R6⟩ := opQ (c' := c + 1) R (by omega) h1 h2 (fun _ => rfl) (fun z => RR_mono (c := c) (by omega) (RR_33 z (by decide))) hv_
  refine J_istore (M := mL_law) dL_law_1225 (by decide) ?_
  refine J_aload_n (M := mL_law) dL_law_1227 rfl rfl ?_
  refine M_call (M := mL_law) (as := []) dL_law_1228 ca_L_115 ⟨by decide, by decide⟩ rfl (Nat.le_of_ble_eq_true rfl) rfl rfl c_thrown (fun v_ t9 hv9 => ?_)
  obtain ⟨rfl, rfl⟩ := hv9
  rw [e33]
  refine J_iload (M := mL_law) dL_law_1231 rfl ?_
  refine Z_ic_eq (M := mL_law) (tgt := 1238) hgr hgr dL_law_1233 (by decide) (fun c_1233 => ?_) (fun c_1233 => ?_)
  · refine J_iload (M := mL_law) dL_law_1238 rfl ?_
    refine Z_if_ne (M := mL_law) (tgt := 1255) hgr dL_law_1240 (by decide) (fun c_1240 => ?_) (fun c_1240 => ?_)
    · refine J_goto (M := mL_law) (tgt := 1869) dL_law_1255 (by decide) ?_
      exact J_sub (kk _ _ _ R6) (And.intro rfl (And.intro rfl (And.intro rfl (And.intro rfl (And.intro rfl trivial)))))
    · refine J_aload_n (M := mL_law) dL_law_1243 rfl rfl ?_
      refine Z_iconst (M := mL_law) dL_law_1244 ?_
      refine J_lald (M := mL_law) (j := 0) dL_law_1245 HL_30 (ix_iI (by decide) (by decide) (by decide)) ?_
      rw [(hx c_1240).1]
      refine J_iload (M := mL_law) dL_law_1246 rfl ?_
      refine J_i2l (M := mL_law) dL_law_1248 ?_
      refine J_lcmp (M := mL_law) dL_law_1249 ?_
      rw [lg_self]
      refine Z_if_eq (M := mL_law) (tgt := 1255) rg0 dL_law_1250 (by decide) (fun c_1250 => ?_) (fun c_1250 => ?_)
      · refine J_goto (M := mL_law) (tgt := 1869) dL_law_1255 (by decide) ?_
        exact J_sub (kk _ _ _ R6) (And.intro rfl (And.intro rfl (And.intro rfl (And.intro rfl (And.intro rfl trivial)))))
      · exact absurd rfl c_1250
  · exact absurd rfl c_1233

set_option maxRecDepth 100000 in
set_option maxHeartbeats 4000000 in
theorem o_19 {X : GX} {f : Nat → Int64} {ρ τ : TS} {c i : Int} {k n : Nat} {Q : LO → LH → Prop} (hL : xL X ≤ 2049) (h0 : 1 ≤ i) (h3 : i + 3 < xL X) (hc : 0 ≤ c ∧ c ≤ 90000) (R : RR ρ τ c) (kk : ∀ f r u, RR r u (c + 1) → J X mL_law 1869 [some (vR (some tScr)), some (vR (some (1, 0))), some (vR (some (20, 0))), some (vR (some (30, 0))), some (vI (iI i)), none, none] [] (HL f r u) k n Q) : J X mL_law 1258 [some (vR (some tScr)), some (vR (some (1, 0))), some (vR (some (20, 0))), some (vR (some (30, 0))), some (vI (iI i)), none, none] [] (HL f ρ τ) (k + 800) (n + 6200) Q := by
  refine J_aload_n (M := mL_law) dL_law_1258 rfl rfl ?_
  refine J_aload_n (M := mL_law) dL_law_1259 rfl rfl ?_
  refine J_iload (M := mL_law) dL_law_1260 rfl ?_
  refine Z_iconst (M := mL_law) dL_law_1262 ?_
  refine Z_iadd (M := mL_law) dL_law_1263 ?_
  refine Z_sld (M := mL_law) dL_law_1264 hL (by omega) (by omega) ?_
  refine J_aload_n (M := mL_law) dL_law_1265 rfl rfl ?_
  refine Z_h (M := mL_law) (show HL f ρ τ = hk (hm (ob f) τ) ρ from hm_hk) ?_
  refine J_callW (M := mL_law) (as := [vR (some (1, 0)), vI (iI (sx X (i + 1))), vR (some (30, 0))]) dL_law_1266 ca_L_180 ⟨by decide, by decide⟩ rfl (Nat.le_of_ble_eq_true rfl) (k' := k) (n' := n) (Nat.add_le_add_left (by decide) k) (Nat.add_le_add_left (by decide) n) (l_winner ob_30 (p_winner R sx_rg)) (fun v_ h_ hv_ => ?_)
  obtain ⟨rfl, f1, r1, rfl, h1, h2⟩ := LQ_ob hv_
  refine J_istore (M := mL_law) dL_law_1269 (by decide) ?_
  refine J_aload_n (M := mL_law) dL_law_1271 rfl rfl ?_
  refine J_aload_n (M := mL_law) dL_law_1272 rfl rfl ?_
  refine J_iload (M := mL_law) dL_law_1273 rfl ?_
  refine Z_iconst (M := mL_law) dL_law_1275 ?_
  refine Z_iadd (M := mL_law) dL_law_1276 ?_
  refine Z_sld (M := mL_law) dL_law_1277 hL (by omega) (by omega) ?_
  refine M_call (M := mL_law) (as := [vI (iI (sx X (i + 1)))]) dL_law_1278 ca_L_182 ⟨by decide, by decide⟩ rfl (Nat.le_of_ble_eq_true rfl) rfl rfl (c_winner R.1 sx_rg ) (fun v_ t_ hv_ => ?_)
  obtain ⟨x, rfl, e33, hgr, hx, R6⟩ := opQ (c' := c + 1) R (by omega) h1 h2 (fun _ => rfl) (fun z => RR_mono (c := c) (by omega) (RR_33 z (by decide))) hv_
  refine J_istore (M := mL_law) dL_law_1281 (by decide) ?_
  refine J_aload_n (M := mL_law) dL_law_1283 rfl rfl ?_
  refine M_call (M := mL_law) (as := []) dL_law_1284 ca_L_115 ⟨by decide, by decide⟩ rfl (Nat.le_of_ble_eq_true rfl) rfl rfl c_thrown (fun v_ t9 hv9 => ?_)
  obtain ⟨rfl, rfl⟩ := hv9
  rw [e33]
  refine J_iload (M := mL_law) dL_law_1287 rfl ?_
  refine Z_ic_eq (M := mL_law) (tgt := 1294) hgr hgr dL_law_1289 (by decide) (fun c_1289 => ?_) (fun c_1289 => ?_)
  · refine J_iload (M := mL_law) dL_law_1294 rfl ?_
    refine Z_if_ne (M := mL_law) (tgt := 1311) hgr dL_law_1296 (by decide) (fun c_1296 => ?_) (fun c_1296 => ?_)
    · refine J_goto (M := mL_law) (tgt := 1869) dL_law_1311 (by decide) ?_
      exact J_sub (kk _ _ _ R6) (And.intro rfl (And.intro rfl (And.intro rfl (And.intro rfl (And.intro rfl trivial)))))
    · refine J_aload_n (M := mL_law) dL_law_1299 rfl rfl ?_
      refine Z_iconst (M := mL_law) dL_law_1300 ?_
      refine J_lald (M := mL_law) (j := 0) dL_law_1301 HL_30 (ix_iI (by decide) (by decide) (by decide)) ?_
      rw [(hx c_1296).1]
      refine J_iload (M := mL_law) dL_law_1302 rfl ?_
      refine J_i2l (M := mL_law) dL_law_1304 ?_
      refine J_lcmp (M := mL_law) dL_law_1305 ?_
      rw [lg_self]
      refine Z_if_eq (M := mL_law) (tgt := 1311) rg0 dL_law_1306 (by decide) (fun c_1306 => ?_) (fun c_1306 => ?_)
      · refine J_goto (M := mL_law) (tgt := 1869) dL_law_1311 (by decide) ?_
        exact J_sub (kk _ _ _ R6) (And.intro rfl (And.intro rfl (And.intro rfl (And.intro rfl (And.intro rfl trivial)))))
      · exact absurd rfl c_1306
  · exact absurd rfl c_1289

set_option maxRecDepth 100000 in
set_option maxHeartbeats 4000000 in
theorem o_20 {X : GX} {f : Nat → Int64} {ρ τ : TS} {c i : Int} {k n : Nat} {Q : LO → LH → Prop} (hL : xL X ≤ 2049) (h0 : 1 ≤ i) (h3 : i + 3 < xL X) (hc : 0 ≤ c ∧ c ≤ 90000) (R : RR ρ τ c) (kk : ∀ f r u, RR r u (c + 1) → J X mL_law 1869 [some (vR (some tScr)), some (vR (some (1, 0))), some (vR (some (20, 0))), some (vR (some (30, 0))), some (vI (iI i)), none, none] [] (HL f r u) k n Q) : J X mL_law 1314 [some (vR (some tScr)), some (vR (some (1, 0))), some (vR (some (20, 0))), some (vR (some (30, 0))), some (vI (iI i)), none, none] [] (HL f ρ τ) (k + 800) (n + 6200) Q := by
  refine J_aload_n (M := mL_law) dL_law_1314 rfl rfl ?_
  refine J_aload_n (M := mL_law) dL_law_1315 rfl rfl ?_
  refine J_iload (M := mL_law) dL_law_1316 rfl ?_
  refine Z_iconst (M := mL_law) dL_law_1318 ?_
  refine Z_iadd (M := mL_law) dL_law_1319 ?_
  refine Z_sld (M := mL_law) dL_law_1320 hL (by omega) (by omega) ?_
  refine J_aload_n (M := mL_law) dL_law_1321 rfl rfl ?_
  refine Z_h (M := mL_law) (show HL f ρ τ = hk (hm (ob f) τ) ρ from hm_hk) ?_
  refine J_callW (M := mL_law) (as := [vR (some (1, 0)), vI (iI (sx X (i + 1))), vR (some (30, 0))]) dL_law_1322 ca_L_183 ⟨by decide, by decide⟩ rfl (Nat.le_of_ble_eq_true rfl) (k' := k) (n' := n) (Nat.add_le_add_left (by decide) k) (Nat.add_le_add_left (by decide) n) (l_phrases ob_30 (p_phrases R sx_rg)) (fun v_ h_ hv_ => ?_)
  obtain ⟨rfl, f1, r1, rfl, h1, h2⟩ := LQ_ob hv_
  refine J_istore (M := mL_law) dL_law_1325 (by decide) ?_
  refine J_aload_n (M := mL_law) dL_law_1327 rfl rfl ?_
  refine J_aload_n (M := mL_law) dL_law_1328 rfl rfl ?_
  refine J_iload (M := mL_law) dL_law_1329 rfl ?_
  refine Z_iconst (M := mL_law) dL_law_1331 ?_
  refine Z_iadd (M := mL_law) dL_law_1332 ?_
  refine Z_sld (M := mL_law) dL_law_1333 hL (by omega) (by omega) ?_
  refine M_call (M := mL_law) (as := [vI (iI (sx X (i + 1)))]) dL_law_1334 ca_L_185 ⟨by decide, by decide⟩ rfl (Nat.le_of_ble_eq_true rfl) rfl rfl (c_phrases R.1 sx_rg ) (fun v_ t_ hv_ => ?_)
  obtain ⟨x, rfl, e33, hgr, hx, R6⟩ := opA (c' := c + 1) R (by omega) h1 h2 (fun _ => rfl) (fun z => RR_mono (c := c) (by omega) (RR_33 z (by decide))) (rfl) hv_
  refine J_istore (M := mL_law) dL_law_1337 (by decide) ?_
  refine J_aload_n (M := mL_law) dL_law_1339 rfl rfl ?_
  refine M_call (M := mL_law) (as := []) dL_law_1340 ca_L_115 ⟨by decide, by decide⟩ rfl (Nat.le_of_ble_eq_true rfl) rfl rfl c_thrown (fun v_ t9 hv9 => ?_)
  obtain ⟨rfl, rfl⟩ := hv9
  rw [e33]
  refine J_iload (M := mL_law) dL_law_1343 rfl ?_
  refine Z_ic_eq (M := mL_law) (tgt := 1350) hgr hgr dL_law_1345 (by decide) (fun c_1345 => ?_) (fun c_1345 => ?_)
  · refine J_iload (M := mL_law) dL_law_1350 rfl ?_
    refine Z_if_ne (M := mL_law) (tgt := 1367) hgr dL_law_1352 (by decide) (fun c_1352 => ?_) (fun c_1352 => ?_)
    · refine J_goto (M := mL_law) (tgt := 1869) dL_law_1367 (by decide) ?_
      exact J_sub (kk _ _ _ R6) (And.intro rfl (And.intro rfl (And.intro rfl (And.intro rfl (And.intro rfl trivial)))))
    · refine J_aload_n (M := mL_law) dL_law_1355 rfl rfl ?_
      refine Z_iconst (M := mL_law) dL_law_1356 ?_
      refine J_lald (M := mL_law) (j := 0) dL_law_1357 HL_30 (ix_iI (by decide) (by decide) (by decide)) ?_
      rw [(hx c_1352).1]
      refine J_iload (M := mL_law) dL_law_1358 rfl ?_
      refine J_i2l (M := mL_law) dL_law_1360 ?_
      refine J_lcmp (M := mL_law) dL_law_1361 ?_
      rw [lg_self]
      refine Z_if_eq (M := mL_law) (tgt := 1367) rg0 dL_law_1362 (by decide) (fun c_1362 => ?_) (fun c_1362 => ?_)
      · refine J_goto (M := mL_law) (tgt := 1869) dL_law_1367 (by decide) ?_
        exact J_sub (kk _ _ _ R6) (And.intro rfl (And.intro rfl (And.intro rfl (And.intro rfl (And.intro rfl trivial)))))
      · exact absurd rfl c_1362
  · exact absurd rfl c_1345

set_option maxRecDepth 100000 in
set_option maxHeartbeats 4000000 in
theorem o_21 {X : GX} {f : Nat → Int64} {ρ τ : TS} {c i : Int} {k n : Nat} {Q : LO → LH → Prop} (hL : xL X ≤ 2049) (h0 : 1 ≤ i) (h3 : i + 3 < xL X) (hc : 0 ≤ c ∧ c ≤ 90000) (R : RR ρ τ c) (kk : ∀ f r u, RR r u (c + 1) → J X mL_law 1869 [some (vR (some tScr)), some (vR (some (1, 0))), some (vR (some (20, 0))), some (vR (some (30, 0))), some (vI (iI i)), none, none] [] (HL f r u) k n Q) : J X mL_law 1370 [some (vR (some tScr)), some (vR (some (1, 0))), some (vR (some (20, 0))), some (vR (some (30, 0))), some (vI (iI i)), none, none] [] (HL f ρ τ) (k + 800) (n + 6200) Q := by
  refine J_aload_n (M := mL_law) dL_law_1370 rfl rfl ?_
  refine J_aload_n (M := mL_law) dL_law_1371 rfl rfl ?_
  refine J_iload (M := mL_law) dL_law_1372 rfl ?_
  refine Z_iconst (M := mL_law) dL_law_1374 ?_
  refine Z_iadd (M := mL_law) dL_law_1375 ?_
  refine Z_sld (M := mL_law) dL_law_1376 hL (by omega) (by omega) ?_
  refine J_aload_n (M := mL_law) dL_law_1377 rfl rfl ?_
  refine J_iload (M := mL_law) dL_law_1378 rfl ?_
  refine Z_iconst (M := mL_law) dL_law_1380 ?_
  refine Z_iadd (M := mL_law) dL_law_1381 ?_
  refine Z_sld (M := mL_law) dL_law_1382 hL (by omega) (by omega) ?_
  refine J_aload_n (M := mL_law) dL_law_1383 rfl rfl ?_
  refine Z_h (M := mL_law) (show HL f ρ τ = hk (hm (ob f) τ) ρ from hm_hk) ?_
  refine J_callW (M := mL_law) (as := [vR (some (1, 0)), vI (iI (sx X (i + 1))), vI (iI (sx X (i + 2))), vR (some (30, 0))]) dL_law_1384 ca_L_186 ⟨by decide, by decide⟩ rfl (Nat.le_of_ble_eq_true rfl) (k' := k) (n' := n) (Nat.add_le_add_left (by decide) k) (Nat.add_le_add_left (by decide) n) (l_touches ob_30 (p_touches R sx_rg sx_rg)) (fun v_ h_ hv_ => ?_)
  obtain ⟨rfl, f1, r1, rfl, h1, h2⟩ := LQ_ob hv_
  refine J_istore (M := mL_law) dL_law_1387 (by decide) ?_
  refine J_aload_n (M := mL_law) dL_law_1389 rfl rfl ?_
  refine J_aload_n (M := mL_law) dL_law_1390 rfl rfl ?_
  refine J_iload (M := mL_law) dL_law_1391 rfl ?_
  refine Z_iconst (M := mL_law) dL_law_1393 ?_
  refine Z_iadd (M := mL_law) dL_law_1394 ?_
  refine Z_sld (M := mL_law) dL_law_1395 hL (by omega) (by omega) ?_
  refine J_aload_n (M := mL_law) dL_law_1396 rfl rfl ?_
  refine J_iload (M := mL_law) dL_law_1397 rfl ?_
  refine Z_iconst (M := mL_law) dL_law_1399 ?_
  refine Z_iadd (M := mL_law) dL_law_1400 ?_
  refine Z_sld (M := mL_law) dL_law_1401 hL (by omega) (by omega) ?_
  refine M_call (M := mL_law) (as := [vI (iI (sx X (i + 1))), vI (iI (sx X (i + 2)))]) dL_law_1402 ca_L_188 ⟨by decide, by decide⟩ rfl (Nat.le_of_ble_eq_true rfl) rfl rfl (c_touches R.1 sx_rg sx_rg ) (fun v_ t_ hv_ => ?_)
  obtain ⟨x, rfl, e33, hgr, hx, R6⟩ := opA (c' := c + 1) R (by omega) h1 h2 (fun _ => rfl) (fun z => RR_mono (c := c) (by omega) (RR_33 z (by decide))) (rfl) hv_
  refine J_istore (M := mL_law) dL_law_1405 (by decide) ?_
  refine J_aload_n (M := mL_law) dL_law_1407 rfl rfl ?_
  refine M_call (M := mL_law) (as := []) dL_law_1408 ca_L_115 ⟨by decide, by decide⟩ rfl (Nat.le_of_ble_eq_true rfl) rfl rfl c_thrown (fun v_ t9 hv9 => ?_)
  obtain ⟨rfl, rfl⟩ := hv9
  rw [e33]
  refine J_iload (M := mL_law) dL_law_1411 rfl ?_
  refine Z_ic_eq (M := mL_law) (tgt := 1418) hgr hgr dL_law_1413 (by decide) (fun c_1413 => ?_) (fun c_1413 => ?_)
  · refine J_iload (M := mL_law) dL_law_1418 rfl ?_
    refine Z_if_ne (M := mL_law) (tgt := 1435) hgr dL_law_1420 (by decide) (fun c_1420 => ?_) (fun c_1420 => ?_)
    · refine J_goto (M := mL_law) (tgt := 1869) dL_law_1435 (by decide) ?_
      exact J_sub (kk _ _ _ R6) (And.intro rfl (And.intro rfl (And.intro rfl (And.intro rfl (And.intro rfl trivial)))))
    · refine J_aload_n (M := mL_law) dL_law_1423 rfl rfl ?_
      refine Z_iconst (M := mL_law) dL_law_1424 ?_
      refine J_lald (M := mL_law) (j := 0) dL_law_1425 HL_30 (ix_iI (by decide) (by decide) (by decide)) ?_
      rw [(hx c_1420).1]
      refine J_iload (M := mL_law) dL_law_1426 rfl ?_
      refine J_i2l (M := mL_law) dL_law_1428 ?_
      refine J_lcmp (M := mL_law) dL_law_1429 ?_
      rw [lg_self]
      refine Z_if_eq (M := mL_law) (tgt := 1435) rg0 dL_law_1430 (by decide) (fun c_1430 => ?_) (fun c_1430 => ?_)
      · refine J_goto (M := mL_law) (tgt := 1869) dL_law_1435 (by decide) ?_
        exact J_sub (kk _ _ _ R6) (And.intro rfl (And.intro rfl (And.intro rfl (And.intro rfl (And.intro rfl trivial)))))
      · exact absurd rfl c_1430
  · exact absurd rfl c_1413

set_option maxRecDepth 100000 in
set_option maxHeartbeats 4000000 in
theorem o_22 {X : GX} {f : Nat → Int64} {ρ τ : TS} {c i : Int} {k n : Nat} {Q : LO → LH → Prop} (hL : xL X ≤ 2049) (h0 : 1 ≤ i) (h3 : i + 3 < xL X) (hc : 0 ≤ c ∧ c ≤ 90000) (R : RR ρ τ c) (kk : ∀ f r u, RR r u (c + 1) → J X mL_law 1869 [some (vR (some tScr)), some (vR (some (1, 0))), some (vR (some (20, 0))), some (vR (some (30, 0))), some (vI (iI i)), none, none] [] (HL f r u) k n Q) : J X mL_law 1438 [some (vR (some tScr)), some (vR (some (1, 0))), some (vR (some (20, 0))), some (vR (some (30, 0))), some (vI (iI i)), none, none] [] (HL f ρ τ) (k + 800) (n + 6200) Q := by
  refine J_aload_n (M := mL_law) dL_law_1438 rfl rfl ?_
  refine J_aload_n (M := mL_law) dL_law_1439 rfl rfl ?_
  refine J_iload (M := mL_law) dL_law_1440 rfl ?_
  refine Z_iconst (M := mL_law) dL_law_1442 ?_
  refine Z_iadd (M := mL_law) dL_law_1443 ?_
  refine Z_sld (M := mL_law) dL_law_1444 hL (by omega) (by omega) ?_
  refine J_aload_n (M := mL_law) dL_law_1445 rfl rfl ?_
  refine J_iload (M := mL_law) dL_law_1446 rfl ?_
  refine Z_iconst (M := mL_law) dL_law_1448 ?_
  refine Z_iadd (M := mL_law) dL_law_1449 ?_
  refine Z_sld (M := mL_law) dL_law_1450 hL (by omega) (by omega) ?_
  refine J_aload_n (M := mL_law) dL_law_1451 rfl rfl ?_
  refine Z_h (M := mL_law) (show HL f ρ τ = hk (hm (ob f) τ) ρ from hm_hk) ?_
  refine J_callW (M := mL_law) (as := [vR (some (1, 0)), vI (iI (sx X (i + 1))), vI (iI (sx X (i + 2))), vR (some (30, 0))]) dL_law_1452 ca_L_189 ⟨by decide, by decide⟩ rfl (Nat.le_of_ble_eq_true rfl) (k' := k) (n' := n) (Nat.add_le_add_left (by decide) k) (Nat.add_le_add_left (by decide) n) (l_appeals ob_30 (p_appeals R sx_rg sx_rg)) (fun v_ h_ hv_ => ?_)
  obtain ⟨rfl, f1, r1, rfl, h1, h2⟩ := LQ_ob hv_
  refine J_istore (M := mL_law) dL_law_1455 (by decide) ?_
  refine J_aload_n (M := mL_law) dL_law_1457 rfl rfl ?_
  refine J_aload_n (M := mL_law) dL_law_1458 rfl rfl ?_
  refine J_iload (M := mL_law) dL_law_1459 rfl ?_
  refine Z_iconst (M := mL_law) dL_law_1461 ?_
  refine Z_iadd (M := mL_law) dL_law_1462 ?_
  refine Z_sld (M := mL_law) dL_law_1463 hL (by omega) (by omega) ?_
  refine J_aload_n (M := mL_law) dL_law_1464 rfl rfl ?_
  refine J_iload (M := mL_law) dL_law_1465 rfl ?_
  refine Z_iconst (M := mL_law) dL_law_1467 ?_
  refine Z_iadd (M := mL_law) dL_law_1468 ?_
  refine Z_sld (M := mL_law) dL_law_1469 hL (by omega) (by omega) ?_
  refine M_call (M := mL_law) (as := [vI (iI (sx X (i + 1))), vI (iI (sx X (i + 2)))]) dL_law_1470 ca_L_191 ⟨by decide, by decide⟩ rfl (Nat.le_of_ble_eq_true rfl) rfl rfl (c_appeals R.1 sx_rg sx_rg ) (fun v_ t_ hv_ => ?_)
  obtain ⟨x, rfl, e33, hgr, hx, R6⟩ := opA (c' := c + 1) R (by omega) h1 h2 (fun _ => rfl) (fun z => RR_mono (c := c) (by omega) (RR_33 z (by decide))) (rfl) hv_
  refine J_istore (M := mL_law) dL_law_1473 (by decide) ?_
  refine J_aload_n (M := mL_law) dL_law_1475 rfl rfl ?_
  refine M_call (M := mL_law) (as := []) dL_law_1476 ca_L_115 ⟨by decide, by decide⟩ rfl (Nat.le_of_ble_eq_true rfl) rfl rfl c_thrown (fun v_ t9 hv9 => ?_)
  obtain ⟨rfl, rfl⟩ := hv9
  rw [e33]
  refine J_iload (M := mL_law) dL_law_1479 rfl ?_
  refine Z_ic_eq (M := mL_law) (tgt := 1486) hgr hgr dL_law_1481 (by decide) (fun c_1481 => ?_) (fun c_1481 => ?_)
  · refine J_iload (M := mL_law) dL_law_1486 rfl ?_
    refine Z_if_ne (M := mL_law) (tgt := 1503) hgr dL_law_1488 (by decide) (fun c_1488 => ?_) (fun c_1488 => ?_)
    · refine J_goto (M := mL_law) (tgt := 1869) dL_law_1503 (by decide) ?_
      exact J_sub (kk _ _ _ R6) (And.intro rfl (And.intro rfl (And.intro rfl (And.intro rfl (And.intro rfl trivial)))))
    · refine J_aload_n (M := mL_law) dL_law_1491 rfl rfl ?_
      refine Z_iconst (M := mL_law) dL_law_1492 ?_
      refine J_lald (M := mL_law) (j := 0) dL_law_1493 HL_30 (ix_iI (by decide) (by decide) (by decide)) ?_
      rw [(hx c_1488).1]
      refine J_iload (M := mL_law) dL_law_1494 rfl ?_
      refine J_i2l (M := mL_law) dL_law_1496 ?_
      refine J_lcmp (M := mL_law) dL_law_1497 ?_
      rw [lg_self]
      refine Z_if_eq (M := mL_law) (tgt := 1503) rg0 dL_law_1498 (by decide) (fun c_1498 => ?_) (fun c_1498 => ?_)
      · refine J_goto (M := mL_law) (tgt := 1869) dL_law_1503 (by decide) ?_
        exact J_sub (kk _ _ _ R6) (And.intro rfl (And.intro rfl (And.intro rfl (And.intro rfl (And.intro rfl trivial)))))
      · exact absurd rfl c_1498
  · exact absurd rfl c_1481

set_option maxRecDepth 100000 in
set_option maxHeartbeats 4000000 in
theorem o_23 {X : GX} {f : Nat → Int64} {ρ τ : TS} {c i : Int} {k n : Nat} {Q : LO → LH → Prop} (hL : xL X ≤ 2049) (h0 : 1 ≤ i) (h3 : i + 3 < xL X) (hc : 0 ≤ c ∧ c ≤ 90000) (R : RR ρ τ c) (kk : ∀ f r u, RR r u (c + 1) → J X mL_law 1869 [some (vR (some tScr)), some (vR (some (1, 0))), some (vR (some (20, 0))), some (vR (some (30, 0))), some (vI (iI i)), none, none] [] (HL f r u) k n Q) : J X mL_law 1506 [some (vR (some tScr)), some (vR (some (1, 0))), some (vR (some (20, 0))), some (vR (some (30, 0))), some (vI (iI i)), none, none] [] (HL f ρ τ) (k + 800) (n + 6200) Q := by
  refine J_aload_n (M := mL_law) dL_law_1506 rfl rfl ?_
  refine J_aload_n (M := mL_law) dL_law_1507 rfl rfl ?_
  refine J_iload (M := mL_law) dL_law_1508 rfl ?_
  refine Z_iconst (M := mL_law) dL_law_1510 ?_
  refine Z_iadd (M := mL_law) dL_law_1511 ?_
  refine Z_sld (M := mL_law) dL_law_1512 hL (by omega) (by omega) ?_
  refine J_aload_n (M := mL_law) dL_law_1513 rfl rfl ?_
  refine Z_h (M := mL_law) (show HL f ρ τ = hk (hm (ob f) τ) ρ from hm_hk) ?_
  refine J_callW (M := mL_law) (as := [vR (some (1, 0)), vI (iI (sx X (i + 1))), vR (some (30, 0))]) dL_law_1514 ca_L_192 ⟨by decide, by decide⟩ rfl (Nat.le_of_ble_eq_true rfl) (k' := k) (n' := n) (Nat.add_le_add_left (by decide) k) (Nat.add_le_add_left (by decide) n) (l_drawPools ob_30 (p_drawPools (RR_33 (x := 0) R (by decide)) sx_rg)) (fun v_ h_ hv_ => ?_)
  obtain ⟨rfl, f1, r1, rfl, h1, h2⟩ := LQ_ob hv_
  refine J_istore (M := mL_law) dL_law_1517 (by decide) ?_
  refine J_aload_n (M := mL_law) dL_law_1519 rfl rfl ?_
  refine J_aload_n (M := mL_law) dL_law_1520 rfl rfl ?_
  refine J_iload (M := mL_law) dL_law_1521 rfl ?_
  refine Z_iconst (M := mL_law) dL_law_1523 ?_
  refine Z_iadd (M := mL_law) dL_law_1524 ?_
  refine Z_sld (M := mL_law) dL_law_1525 hL (by omega) (by omega) ?_
  refine M_call (M := mL_law) (as := [vI (iI (sx X (i + 1)))]) dL_law_1526 ca_L_194 ⟨by decide, by decide⟩ rfl (Nat.le_of_ble_eq_true rfl) rfl rfl (c_drawPools R.1 sx_rg (z_h9 R)) (fun v_ t_ hv_ => ?_)
  obtain ⟨x, rfl, e33, hgr, hx, R6⟩ := opA (c' := c + 1) R (by omega) h1 h2 (fun _ => rfl) (fun z => RR_mono (c := c) (by omega) z) (inL_33) hv_
  refine J_istore (M := mL_law) dL_law_1529 (by decide) ?_
  refine J_aload_n (M := mL_law) dL_law_1531 rfl rfl ?_
  refine M_call (M := mL_law) (as := []) dL_law_1532 ca_L_115 ⟨by decide, by decide⟩ rfl (Nat.le_of_ble_eq_true rfl) rfl rfl c_thrown (fun v_ t9 hv9 => ?_)
  obtain ⟨rfl, rfl⟩ := hv9
  rw [e33]
  refine J_iload (M := mL_law) dL_law_1535 rfl ?_
  refine Z_ic_eq (M := mL_law) (tgt := 1542) hgr hgr dL_law_1537 (by decide) (fun c_1537 => ?_) (fun c_1537 => ?_)
  · refine J_iload (M := mL_law) dL_law_1542 rfl ?_
    refine Z_if_ne (M := mL_law) (tgt := 1559) hgr dL_law_1544 (by decide) (fun c_1544 => ?_) (fun c_1544 => ?_)
    · refine J_goto (M := mL_law) (tgt := 1869) dL_law_1559 (by decide) ?_
      exact J_sub (kk _ _ _ R6) (And.intro rfl (And.intro rfl (And.intro rfl (And.intro rfl (And.intro rfl trivial)))))
    · refine J_aload_n (M := mL_law) dL_law_1547 rfl rfl ?_
      refine Z_iconst (M := mL_law) dL_law_1548 ?_
      refine J_lald (M := mL_law) (j := 0) dL_law_1549 HL_30 (ix_iI (by decide) (by decide) (by decide)) ?_
      rw [(hx c_1544).1]
      refine J_iload (M := mL_law) dL_law_1550 rfl ?_
      refine J_i2l (M := mL_law) dL_law_1552 ?_
      refine J_lcmp (M := mL_law) dL_law_1553 ?_
      rw [lg_self]
      refine Z_if_eq (M := mL_law) (tgt := 1559) rg0 dL_law_1554 (by decide) (fun c_1554 => ?_) (fun c_1554 => ?_)
      · refine J_goto (M := mL_law) (tgt := 1869) dL_law_1559 (by decide) ?_
        exact J_sub (kk _ _ _ R6) (And.intro rfl (And.intro rfl (And.intro rfl (And.intro rfl (And.intro rfl trivial)))))
      · exact absurd rfl c_1554
  · exact absurd rfl c_1537

set_option maxRecDepth 100000 in
set_option maxHeartbeats 4000000 in
theorem o_24 {X : GX} {f : Nat → Int64} {ρ τ : TS} {c i : Int} {k n : Nat} {Q : LO → LH → Prop} (hL : xL X ≤ 2049) (h0 : 1 ≤ i) (h3 : i + 3 < xL X) (hc : 0 ≤ c ∧ c ≤ 90000) (R : RR ρ τ c) (kk : ∀ f r u, RR r u (c + 1) → J X mL_law 1869 [some (vR (some tScr)), some (vR (some (1, 0))), some (vR (some (20, 0))), some (vR (some (30, 0))), some (vI (iI i)), none, none] [] (HL f r u) k n Q) : J X mL_law 1562 [some (vR (some tScr)), some (vR (some (1, 0))), some (vR (some (20, 0))), some (vR (some (30, 0))), some (vI (iI i)), none, none] [] (HL f ρ τ) (k + 800) (n + 6200) Q := by
  refine J_aload_n (M := mL_law) dL_law_1562 rfl rfl ?_
  refine Z_h (M := mL_law) (show HL f ρ τ = hk (hm (ob f) τ) ρ from hm_hk) ?_
  refine J_callV (M := mL_law) (as := []) dL_law_1563 ca_L_195 ⟨by decide, by decide⟩ (hk_1 (show CE ρ 1 0 from rfl)) rfl (Nat.le_of_ble_eq_true rfl) (k' := k) (n' := n) (Nat.le_add_right k 800) (Nat.le_add_right n 6200) (p_poolBouts R) (fun v_ h_ hv_ => ?_)
  obtain ⟨r_, rfl, rfl, rfl⟩ := hv_
  refine Z_h (M := mL_law) hm_hk.symm ?_
  refine J_aload_n (M := mL_law) dL_law_1566 rfl rfl ?_
  refine M_call (M := mL_law) (as := []) dL_law_1567 ca_L_198 ⟨by decide, by decide⟩ rfl (Nat.le_of_ble_eq_true rfl) rfl rfl (c_poolBouts R.1) (fun v_ t_ hv_ => ?_)
  obtain ⟨rfl, rfl⟩ := hv_
  refine J_ic_eq (M := mL_law) (tgt := 1869) dL_law_1570 (by decide) (fun c_ => ?_) (fun c_ => absurd rfl c_)
  exact kk f _ _ (RR_mono (c := c) (by omega) (RR_33 R (by decide)))

set_option maxRecDepth 100000 in
set_option maxHeartbeats 4000000 in
theorem o_25 {X : GX} {f : Nat → Int64} {ρ τ : TS} {c i : Int} {k n : Nat} {Q : LO → LH → Prop} (hL : xL X ≤ 2049) (h0 : 1 ≤ i) (h3 : i + 3 < xL X) (hc : 0 ≤ c ∧ c ≤ 90000) (R : RR ρ τ c) (kk : ∀ f r u, RR r u (c + 1) → J X mL_law 1869 [some (vR (some tScr)), some (vR (some (1, 0))), some (vR (some (20, 0))), some (vR (some (30, 0))), some (vI (iI i)), none, none] [] (HL f r u) k n Q) : J X mL_law 1575 [some (vR (some tScr)), some (vR (some (1, 0))), some (vR (some (20, 0))), some (vR (some (30, 0))), some (vI (iI i)), none, none] [] (HL f ρ τ) (k + 800) (n + 6200) Q := by
  refine J_aload_n (M := mL_law) dL_law_1575 rfl rfl ?_
  refine J_aload_n (M := mL_law) dL_law_1576 rfl rfl ?_
  refine J_iload (M := mL_law) dL_law_1577 rfl ?_
  refine Z_iconst (M := mL_law) dL_law_1579 ?_
  refine Z_iadd (M := mL_law) dL_law_1580 ?_
  refine Z_sld (M := mL_law) dL_law_1581 hL (by omega) (by omega) ?_
  refine J_aload_n (M := mL_law) dL_law_1582 rfl rfl ?_
  refine Z_h (M := mL_law) (show HL f ρ τ = hk (hm (ob f) τ) ρ from hm_hk) ?_
  refine J_callW (M := mL_law) (as := [vR (some (1, 0)), vI (iI (sx X (i + 1))), vR (some (30, 0))]) dL_law_1583 ca_L_199 ⟨by decide, by decide⟩ rfl (Nat.le_of_ble_eq_true rfl) (k' := k) (n' := n) (Nat.add_le_add_left (by decide) k) (Nat.add_le_add_left (by decide) n) (l_won ob_30 (p_won R sx_rg)) (fun v_ h_ hv_ => ?_)
  obtain ⟨rfl, f1, r1, rfl, h1, h2⟩ := LQ_ob hv_
  refine J_istore (M := mL_law) dL_law_1586 (by decide) ?_
  refine J_aload_n (M := mL_law) dL_law_1588 rfl rfl ?_
  refine J_aload_n (M := mL_law) dL_law_1589 rfl rfl ?_
  refine J_iload (M := mL_law) dL_law_1590 rfl ?_
  refine Z_iconst (M := mL_law) dL_law_1592 ?_
  refine Z_iadd (M := mL_law) dL_law_1593 ?_
  refine Z_sld (M := mL_law) dL_law_1594 hL (by omega) (by omega) ?_
  refine M_call (M := mL_law) (as := [vI (iI (sx X (i + 1)))]) dL_law_1595 ca_L_201 ⟨by decide, by decide⟩ rfl (Nat.le_of_ble_eq_true rfl) rfl rfl (c_won R.1 sx_rg ) (fun v_ t_ hv_ => ?_)
  obtain ⟨x, rfl, e33, hgr, hx, R6⟩ := opQ (c' := c + 1) R (by omega) h1 h2 (fun _ => rfl) (fun z => RR_mono (c := c) (by omega) (RR_33 z (by decide))) hv_
  refine J_istore (M := mL_law) dL_law_1598 (by decide) ?_
  refine J_aload_n (M := mL_law) dL_law_1600 rfl rfl ?_
  refine M_call (M := mL_law) (as := []) dL_law_1601 ca_L_115 ⟨by decide, by decide⟩ rfl (Nat.le_of_ble_eq_true rfl) rfl rfl c_thrown (fun v_ t9 hv9 => ?_)
  obtain ⟨rfl, rfl⟩ := hv9
  rw [e33]
  refine J_iload (M := mL_law) dL_law_1604 rfl ?_
  refine Z_ic_eq (M := mL_law) (tgt := 1611) hgr hgr dL_law_1606 (by decide) (fun c_1606 => ?_) (fun c_1606 => ?_)
  · refine J_iload (M := mL_law) dL_law_1611 rfl ?_
    refine Z_if_ne (M := mL_law) (tgt := 1628) hgr dL_law_1613 (by decide) (fun c_1613 => ?_) (fun c_1613 => ?_)
    · refine J_goto (M := mL_law) (tgt := 1869) dL_law_1628 (by decide) ?_
      exact J_sub (kk _ _ _ R6) (And.intro rfl (And.intro rfl (And.intro rfl (And.intro rfl (And.intro rfl trivial)))))
    · refine J_aload_n (M := mL_law) dL_law_1616 rfl rfl ?_
      refine Z_iconst (M := mL_law) dL_law_1617 ?_
      refine J_lald (M := mL_law) (j := 0) dL_law_1618 HL_30 (ix_iI (by decide) (by decide) (by decide)) ?_
      rw [(hx c_1613).1]
      refine J_iload (M := mL_law) dL_law_1619 rfl ?_
      refine J_i2l (M := mL_law) dL_law_1621 ?_
      refine J_lcmp (M := mL_law) dL_law_1622 ?_
      rw [lg_self]
      refine Z_if_eq (M := mL_law) (tgt := 1628) rg0 dL_law_1623 (by decide) (fun c_1623 => ?_) (fun c_1623 => ?_)
      · refine J_goto (M := mL_law) (tgt := 1869) dL_law_1628 (by decide) ?_
        exact J_sub (kk _ _ _ R6) (And.intro rfl (And.intro rfl (And.intro rfl (And.intro rfl (And.intro rfl trivial)))))
      · exact absurd rfl c_1623
  · exact absurd rfl c_1606

set_option maxRecDepth 100000 in
set_option maxHeartbeats 4000000 in
theorem o_26 {X : GX} {f : Nat → Int64} {ρ τ : TS} {c i : Int} {k n : Nat} {Q : LO → LH → Prop} (hL : xL X ≤ 2049) (h0 : 1 ≤ i) (h3 : i + 3 < xL X) (hc : 0 ≤ c ∧ c ≤ 90000) (R : RR ρ τ c) (kk : ∀ f r u, RR r u (c + 1) → J X mL_law 1869 [some (vR (some tScr)), some (vR (some (1, 0))), some (vR (some (20, 0))), some (vR (some (30, 0))), some (vI (iI i)), none, none] [] (HL f r u) k n Q) : J X mL_law 1631 [some (vR (some tScr)), some (vR (some (1, 0))), some (vR (some (20, 0))), some (vR (some (30, 0))), some (vI (iI i)), none, none] [] (HL f ρ τ) (k + 800) (n + 6200) Q := by
  refine J_aload_n (M := mL_law) dL_law_1631 rfl rfl ?_
  refine J_aload_n (M := mL_law) dL_law_1632 rfl rfl ?_
  refine J_iload (M := mL_law) dL_law_1633 rfl ?_
  refine Z_iconst (M := mL_law) dL_law_1635 ?_
  refine Z_iadd (M := mL_law) dL_law_1636 ?_
  refine Z_sld (M := mL_law) dL_law_1637 hL (by omega) (by omega) ?_
  refine J_aload_n (M := mL_law) dL_law_1638 rfl rfl ?_
  refine Z_h (M := mL_law) (show HL f ρ τ = hk (hm (ob f) τ) ρ from hm_hk) ?_
  refine J_callW (M := mL_law) (as := [vR (some (1, 0)), vI (iI (sx X (i + 1))), vR (some (30, 0))]) dL_law_1639 ca_L_202 ⟨by decide, by decide⟩ rfl (Nat.le_of_ble_eq_true rfl) (k' := k) (n' := n) (Nat.add_le_add_left (by decide) k) (Nat.add_le_add_left (by decide) n) (l_index ob_30 (p_index R sx_rg)) (fun v_ h_ hv_ => ?_)
  obtain ⟨rfl, f1, r1, rfl, h1, h2⟩ := LQ_ob hv_
  refine J_istore (M := mL_law) dL_law_1642 (by decide) ?_
  refine J_aload_n (M := mL_law) dL_law_1644 rfl rfl ?_
  refine J_aload_n (M := mL_law) dL_law_1645 rfl rfl ?_
  refine J_iload (M := mL_law) dL_law_1646 rfl ?_
  refine Z_iconst (M := mL_law) dL_law_1648 ?_
  refine Z_iadd (M := mL_law) dL_law_1649 ?_
  refine Z_sld (M := mL_law) dL_law_1650 hL (by omega) (by omega) ?_
  refine M_call (M := mL_law) (as := [vI (iI (sx X (i + 1)))]) dL_law_1651 ca_L_204 ⟨by decide, by decide⟩ rfl (Nat.le_of_ble_eq_true rfl) rfl rfl (c_index R.1 sx_rg ) (fun v_ t_ hv_ => ?_)
  obtain ⟨x, rfl, e33, hgr, hx, R6⟩ := opQ (c' := c + 1) R (by omega) h1 h2 (fun _ => rfl) (fun z => RR_mono (c := c) (by omega) (RR_33 z (by decide))) hv_
  refine J_istore (M := mL_law) dL_law_1654 (by decide) ?_
  refine J_aload_n (M := mL_law) dL_law_1656 rfl rfl ?_
  refine M_call (M := mL_law) (as := []) dL_law_1657 ca_L_115 ⟨by decide, by decide⟩ rfl (Nat.le_of_ble_eq_true rfl) rfl rfl c_thrown (fun v_ t9 hv9 => ?_)
  obtain ⟨rfl, rfl⟩ := hv9
  rw [e33]
  refine J_iload (M := mL_law) dL_law_1660 rfl ?_
  refine Z_ic_eq (M := mL_law) (tgt := 1667) hgr hgr dL_law_1662 (by decide) (fun c_1662 => ?_) (fun c_1662 => ?_)
  · refine J_iload (M := mL_law) dL_law_1667 rfl ?_
    refine Z_if_ne (M := mL_law) (tgt := 1684) hgr dL_law_1669 (by decide) (fun c_1669 => ?_) (fun c_1669 => ?_)
    · refine J_goto (M := mL_law) (tgt := 1869) dL_law_1684 (by decide) ?_
      exact J_sub (kk _ _ _ R6) (And.intro rfl (And.intro rfl (And.intro rfl (And.intro rfl (And.intro rfl trivial)))))
    · refine J_aload_n (M := mL_law) dL_law_1672 rfl rfl ?_
      refine Z_iconst (M := mL_law) dL_law_1673 ?_
      refine J_lald (M := mL_law) (j := 0) dL_law_1674 HL_30 (ix_iI (by decide) (by decide) (by decide)) ?_
      rw [(hx c_1669).1]
      refine J_iload (M := mL_law) dL_law_1675 rfl ?_
      refine J_i2l (M := mL_law) dL_law_1677 ?_
      refine J_lcmp (M := mL_law) dL_law_1678 ?_
      rw [lg_self]
      refine Z_if_eq (M := mL_law) (tgt := 1684) rg0 dL_law_1679 (by decide) (fun c_1679 => ?_) (fun c_1679 => ?_)
      · refine J_goto (M := mL_law) (tgt := 1869) dL_law_1684 (by decide) ?_
        exact J_sub (kk _ _ _ R6) (And.intro rfl (And.intro rfl (And.intro rfl (And.intro rfl (And.intro rfl trivial)))))
      · exact absurd rfl c_1679
  · exact absurd rfl c_1662

set_option maxRecDepth 100000 in
set_option maxHeartbeats 4000000 in
theorem o_27 {X : GX} {f : Nat → Int64} {ρ τ : TS} {c i : Int} {k n : Nat} {Q : LO → LH → Prop} (hL : xL X ≤ 2049) (h0 : 1 ≤ i) (h3 : i + 3 < xL X) (hc : 0 ≤ c ∧ c ≤ 90000) (R : RR ρ τ c) (kk : ∀ f r u, RR r u (c + 1) → J X mL_law 1869 [some (vR (some tScr)), some (vR (some (1, 0))), some (vR (some (20, 0))), some (vR (some (30, 0))), some (vI (iI i)), none, none] [] (HL f r u) k n Q) : J X mL_law 1687 [some (vR (some tScr)), some (vR (some (1, 0))), some (vR (some (20, 0))), some (vR (some (30, 0))), some (vI (iI i)), none, none] [] (HL f ρ τ) (k + 800) (n + 6200) Q := by
  refine J_aload_n (M := mL_law) dL_law_1687 rfl rfl ?_
  refine J_aload_n (M := mL_law) dL_law_1688 rfl rfl ?_
  refine J_iload (M := mL_law) dL_law_1689 rfl ?_
  refine Z_iconst (M := mL_law) dL_law_1691 ?_
  refine Z_iadd (M := mL_law) dL_law_1692 ?_
  refine Z_sld (M := mL_law) dL_law_1693 hL (by omega) (by omega) ?_
  refine J_aload_n (M := mL_law) dL_law_1694 rfl rfl ?_
  refine Z_h (M := mL_law) (show HL f ρ τ = hk (hm (ob f) τ) ρ from hm_hk) ?_
  refine J_callW (M := mL_law) (as := [vR (some (1, 0)), vI (iI (sx X (i + 1))), vR (some (30, 0))]) dL_law_1695 ca_L_205 ⟨by decide, by decide⟩ rfl (Nat.le_of_ble_eq_true rfl) (k' := k) (n' := n) (Nat.add_le_add_left (by decide) k) (Nat.add_le_add_left (by decide) n) (l_rankedAt ob_30 (p_rankedAt (RR_33 (x := 0) R (by decide)) sx_rg)) (fun v_ h_ hv_ => ?_)
  obtain ⟨rfl, f1, r1, rfl, h1, h2⟩ := LQ_ob hv_
  refine J_istore (M := mL_law) dL_law_1698 (by decide) ?_
  refine J_aload_n (M := mL_law) dL_law_1700 rfl rfl ?_
  refine J_aload_n (M := mL_law) dL_law_1701 rfl rfl ?_
  refine J_iload (M := mL_law) dL_law_1702 rfl ?_
  refine Z_iconst (M := mL_law) dL_law_1704 ?_
  refine Z_iadd (M := mL_law) dL_law_1705 ?_
  refine Z_sld (M := mL_law) dL_law_1706 hL (by omega) (by omega) ?_
  refine M_call (M := mL_law) (as := [vI (iI (sx X (i + 1)))]) dL_law_1707 ca_L_207 ⟨by decide, by decide⟩ rfl (Nat.le_of_ble_eq_true rfl) rfl rfl (c_rankedAt R.1 sx_rg ) (fun v_ t_ hv_ => ?_)
  obtain ⟨x, rfl, e33, hgr, hx, R6⟩ := opQ (c' := c + 1) R (by omega) h1 h2 (fun _ => rfl) (fun z => RR_mono (c := c) (by omega) z) hv_
  refine J_istore (M := mL_law) dL_law_1710 (by decide) ?_
  refine J_aload_n (M := mL_law) dL_law_1712 rfl rfl ?_
  refine M_call (M := mL_law) (as := []) dL_law_1713 ca_L_115 ⟨by decide, by decide⟩ rfl (Nat.le_of_ble_eq_true rfl) rfl rfl c_thrown (fun v_ t9 hv9 => ?_)
  obtain ⟨rfl, rfl⟩ := hv9
  rw [e33]
  refine J_iload (M := mL_law) dL_law_1716 rfl ?_
  refine Z_ic_eq (M := mL_law) (tgt := 1723) hgr hgr dL_law_1718 (by decide) (fun c_1718 => ?_) (fun c_1718 => ?_)
  · refine J_iload (M := mL_law) dL_law_1723 rfl ?_
    refine Z_if_ne (M := mL_law) (tgt := 1740) hgr dL_law_1725 (by decide) (fun c_1725 => ?_) (fun c_1725 => ?_)
    · refine J_goto (M := mL_law) (tgt := 1869) dL_law_1740 (by decide) ?_
      exact J_sub (kk _ _ _ R6) (And.intro rfl (And.intro rfl (And.intro rfl (And.intro rfl (And.intro rfl trivial)))))
    · refine J_aload_n (M := mL_law) dL_law_1728 rfl rfl ?_
      refine Z_iconst (M := mL_law) dL_law_1729 ?_
      refine J_lald (M := mL_law) (j := 0) dL_law_1730 HL_30 (ix_iI (by decide) (by decide) (by decide)) ?_
      rw [(hx c_1725).1]
      refine J_iload (M := mL_law) dL_law_1731 rfl ?_
      refine J_i2l (M := mL_law) dL_law_1733 ?_
      refine J_lcmp (M := mL_law) dL_law_1734 ?_
      rw [lg_self]
      refine Z_if_eq (M := mL_law) (tgt := 1740) rg0 dL_law_1735 (by decide) (fun c_1735 => ?_) (fun c_1735 => ?_)
      · refine J_goto (M := mL_law) (tgt := 1869) dL_law_1740 (by decide) ?_
        exact J_sub (kk _ _ _ R6) (And.intro rfl (And.intro rfl (And.intro rfl (And.intro rfl (And.intro rfl trivial)))))
      · exact absurd rfl c_1735
  · exact absurd rfl c_1718

set_option maxRecDepth 100000 in
set_option maxHeartbeats 4000000 in
theorem o_28 {X : GX} {f : Nat → Int64} {ρ τ : TS} {c i : Int} {k n : Nat} {Q : LO → LH → Prop} (hL : xL X ≤ 2049) (h0 : 1 ≤ i) (h3 : i + 3 < xL X) (hc : 0 ≤ c ∧ c ≤ 90000) (R : RR ρ τ c) (kk : ∀ f r u, RR r u (c + 1) → J X mL_law 1869 [some (vR (some tScr)), some (vR (some (1, 0))), some (vR (some (20, 0))), some (vR (some (30, 0))), some (vI (iI i)), none, none] [] (HL f r u) k n Q) : J X mL_law 1743 [some (vR (some tScr)), some (vR (some (1, 0))), some (vR (some (20, 0))), some (vR (some (30, 0))), some (vI (iI i)), none, none] [] (HL f ρ τ) (k + 800) (n + 6200) Q := by
  refine J_aload_n (M := mL_law) dL_law_1743 rfl rfl ?_
  refine J_aload_n (M := mL_law) dL_law_1744 rfl rfl ?_
  refine Z_h (M := mL_law) (show HL f ρ τ = hk (hm (ob f) τ) ρ from hm_hk) ?_
  refine J_callW (M := mL_law) (as := [vR (some (1, 0)), vR (some (30, 0))]) dL_law_1745 ca_L_208 ⟨by decide, by decide⟩ rfl (Nat.le_of_ble_eq_true rfl) (k' := k) (n' := n) (Nat.add_le_add_left (by decide) k) (Nat.add_le_add_left (by decide) n) (l_drawTableau ob_30 (p_drawTableau R )) (fun v_ h_ hv_ => ?_)
  obtain ⟨rfl, f1, r1, rfl, h1, h2⟩ := LQ_ob hv_
  refine J_istore (M := mL_law) dL_law_1748 (by decide) ?_
  refine J_aload_n (M := mL_law) dL_law_1750 rfl rfl ?_
  refine M_call (M := mL_law) (as := []) dL_law_1751 ca_L_210 ⟨by decide, by decide⟩ rfl (Nat.le_of_ble_eq_true rfl) rfl rfl (c_drawTableau R.1  ) (fun v_ t_ hv_ => ?_)
  obtain ⟨x, rfl, e33, hgr, hx, R6⟩ := opX (c' := c + 1) R (by omega) h1 h2 (fun _ => rfl) (fun z w Ww Sw => RR_mono (c := c) (by omega) (z w Ww Sw)) hv_
  refine J_istore (M := mL_law) dL_law_1754 (by decide) ?_
  refine J_aload_n (M := mL_law) dL_law_1756 rfl rfl ?_
  refine M_call (M := mL_law) (as := []) dL_law_1757 ca_L_115 ⟨by decide, by decide⟩ rfl (Nat.le_of_ble_eq_true rfl) rfl rfl c_thrown (fun v_ t9 hv9 => ?_)
  obtain ⟨rfl, rfl⟩ := hv9
  rw [e33]
  refine J_iload (M := mL_law) dL_law_1760 rfl ?_
  refine Z_ic_eq (M := mL_law) (tgt := 1767) hgr hgr dL_law_1762 (by decide) (fun c_1762 => ?_) (fun c_1762 => ?_)
  · refine J_iload (M := mL_law) dL_law_1767 rfl ?_
    refine Z_if_ne (M := mL_law) (tgt := 1784) hgr dL_law_1769 (by decide) (fun c_1769 => ?_) (fun c_1769 => ?_)
    · refine J_goto (M := mL_law) (tgt := 1869) dL_law_1784 (by decide) ?_
      exact J_sub (kk _ _ _ R6) (And.intro rfl (And.intro rfl (And.intro rfl (And.intro rfl (And.intro rfl trivial)))))
    · refine J_aload_n (M := mL_law) dL_law_1772 rfl rfl ?_
      refine Z_iconst (M := mL_law) dL_law_1773 ?_
      refine J_lald (M := mL_law) (j := 0) dL_law_1774 HL_30 (ix_iI (by decide) (by decide) (by decide)) ?_
      rw [(hx c_1769).1]
      refine J_iload (M := mL_law) dL_law_1775 rfl ?_
      refine J_i2l (M := mL_law) dL_law_1777 ?_
      refine J_lcmp (M := mL_law) dL_law_1778 ?_
      rw [lg_self]
      refine Z_if_eq (M := mL_law) (tgt := 1784) rg0 dL_law_1779 (by decide) (fun c_1779 => ?_) (fun c_1779 => ?_)
      · refine J_goto (M := mL_law) (tgt := 1869) dL_law_1784 (by decide) ?_
        exact J_sub (kk _ _ _ R6) (And.intro rfl (And.intro rfl (And.intro rfl (And.intro rfl (And.intro rfl trivial)))))
      · exact absurd rfl c_1779
  · exact absurd rfl c_1762

set_option maxRecDepth 100000 in
set_option maxHeartbeats 4000000 in
theorem o_29 {X : GX} {f : Nat → Int64} {ρ τ : TS} {c i : Int} {k n : Nat} {Q : LO → LH → Prop} (hL : xL X ≤ 2049) (h0 : 1 ≤ i) (h3 : i + 3 < xL X) (hc : 0 ≤ c ∧ c ≤ 90000) (R : RR ρ τ c) (kk : ∀ f r u, RR r u (c + 1) → J X mL_law 1869 [some (vR (some tScr)), some (vR (some (1, 0))), some (vR (some (20, 0))), some (vR (some (30, 0))), some (vI (iI i)), none, none] [] (HL f r u) k n Q) : J X mL_law 1787 [some (vR (some tScr)), some (vR (some (1, 0))), some (vR (some (20, 0))), some (vR (some (30, 0))), some (vI (iI i)), none, none] [] (HL f ρ τ) (k + 800) (n + 6200) Q := by
  refine J_aload_n (M := mL_law) dL_law_1787 rfl rfl ?_
  refine Z_h (M := mL_law) (show HL f ρ τ = hk (hm (ob f) τ) ρ from hm_hk) ?_
  refine J_callV (M := mL_law) (as := []) dL_law_1788 ca_L_211 ⟨by decide, by decide⟩ (hk_1 (show CE ρ 1 0 from rfl)) rfl (Nat.le_of_ble_eq_true rfl) (k' := k) (n' := n) (Nat.le_add_right k 800) (Nat.le_add_right n 6200) (p_size R) (fun v_ h_ hv_ => ?_)
  obtain ⟨r_, rfl, rfl, rfl⟩ := hv_
  refine Z_h (M := mL_law) hm_hk.symm ?_
  refine J_aload_n (M := mL_law) dL_law_1791 rfl rfl ?_
  refine M_call (M := mL_law) (as := []) dL_law_1792 ca_L_214 ⟨by decide, by decide⟩ rfl (Nat.le_of_ble_eq_true rfl) rfl rfl (c_size R.1) (fun v_ t_ hv_ => ?_)
  obtain ⟨rfl, rfl⟩ := hv_
  refine J_ic_eq (M := mL_law) (tgt := 1869) dL_law_1795 (by decide) (fun c_ => ?_) (fun c_ => absurd rfl c_)
  exact kk f _ _ (RR_mono (c := c) (by omega) (RR_33 R (by decide)))

set_option maxRecDepth 100000 in
set_option maxHeartbeats 4000000 in
theorem o_30 {X : GX} {f : Nat → Int64} {ρ τ : TS} {c i : Int} {k n : Nat} {Q : LO → LH → Prop} (hL : xL X ≤ 2049) (h0 : 1 ≤ i) (h3 : i + 3 < xL X) (hc : 0 ≤ c ∧ c ≤ 90000) (R : RR ρ τ c) (kk : ∀ f r u, RR r u (c + 1) → J X mL_law 1869 [some (vR (some tScr)), some (vR (some (1, 0))), some (vR (some (20, 0))), some (vR (some (30, 0))), some (vI (iI i)), none, none] [] (HL f r u) k n Q) : J X mL_law 1800 [some (vR (some tScr)), some (vR (some (1, 0))), some (vR (some (20, 0))), some (vR (some (30, 0))), some (vI (iI i)), none, none] [] (HL f ρ τ) (k + 800) (n + 6200) Q := by
  refine J_aload_n (M := mL_law) dL_law_1800 rfl rfl ?_
  refine J_aload_n (M := mL_law) dL_law_1801 rfl rfl ?_
  refine J_iload (M := mL_law) dL_law_1802 rfl ?_
  refine Z_iconst (M := mL_law) dL_law_1804 ?_
  refine Z_iadd (M := mL_law) dL_law_1805 ?_
  refine Z_sld (M := mL_law) dL_law_1806 hL (by omega) (by omega) ?_
  refine J_aload_n (M := mL_law) dL_law_1807 rfl rfl ?_
  refine Z_h (M := mL_law) (show HL f ρ τ = hk (hm (ob f) τ) ρ from hm_hk) ?_
  refine J_callW (M := mL_law) (as := [vR (some (1, 0)), vI (iI (sx X (i + 1))), vR (some (30, 0))]) dL_law_1808 ca_L_215 ⟨by decide, by decide⟩ rfl (Nat.le_of_ble_eq_true rfl) (k' := k) (n' := n) (Nat.add_le_add_left (by decide) k) (Nat.add_le_add_left (by decide) n) (l_nodeWinner ob_30 (p_nodeWinner R sx_rg)) (fun v_ h_ hv_ => ?_)
  obtain ⟨rfl, f1, r1, rfl, h1, h2⟩ := LQ_ob hv_
  refine J_istore (M := mL_law) dL_law_1811 (by decide) ?_
  refine J_aload_n (M := mL_law) dL_law_1813 rfl rfl ?_
  refine J_aload_n (M := mL_law) dL_law_1814 rfl rfl ?_
  refine J_iload (M := mL_law) dL_law_1815 rfl ?_
  refine Z_iconst (M := mL_law) dL_law_1817 ?_
  refine Z_iadd (M := mL_law) dL_law_1818 ?_
  refine Z_sld (M := mL_law) dL_law_1819 hL (by omega) (by omega) ?_
  refine M_call (M := mL_law) (as := [vI (iI (sx X (i + 1)))]) dL_law_1820 ca_L_217 ⟨by decide, by decide⟩ rfl (Nat.le_of_ble_eq_true rfl) rfl rfl (c_nodeWinner R.1 sx_rg ) (fun v_ t_ hv_ => ?_)
  obtain ⟨x, rfl, e33, hgr, hx, R6⟩ := opA (c' := c + 1) R (by omega) h1 h2 (fun _ => rfl) (fun z => RR_mono (c := c) (by omega) (RR_33 z (by decide))) (rfl) hv_
  refine J_istore (M := mL_law) dL_law_1823 (by decide) ?_
  refine J_aload_n (M := mL_law) dL_law_1825 rfl rfl ?_
  refine M_call (M := mL_law) (as := []) dL_law_1826 ca_L_115 ⟨by decide, by decide⟩ rfl (Nat.le_of_ble_eq_true rfl) rfl rfl c_thrown (fun v_ t9 hv9 => ?_)
  obtain ⟨rfl, rfl⟩ := hv9
  rw [e33]
  refine J_iload (M := mL_law) dL_law_1829 rfl ?_
  refine Z_ic_eq (M := mL_law) (tgt := 1836) hgr hgr dL_law_1831 (by decide) (fun c_1831 => ?_) (fun c_1831 => ?_)
  · refine J_iload (M := mL_law) dL_law_1836 rfl ?_
    refine Z_if_ne (M := mL_law) (tgt := 1853) hgr dL_law_1838 (by decide) (fun c_1838 => ?_) (fun c_1838 => ?_)
    · refine J_goto (M := mL_law) (tgt := 1869) dL_law_1853 (by decide) ?_
      exact J_sub (kk _ _ _ R6) (And.intro rfl (And.intro rfl (And.intro rfl (And.intro rfl (And.intro rfl trivial)))))
    · refine J_aload_n (M := mL_law) dL_law_1841 rfl rfl ?_
      refine Z_iconst (M := mL_law) dL_law_1842 ?_
      refine J_lald (M := mL_law) (j := 0) dL_law_1843 HL_30 (ix_iI (by decide) (by decide) (by decide)) ?_
      rw [(hx c_1838).1]
      refine J_iload (M := mL_law) dL_law_1844 rfl ?_
      refine J_i2l (M := mL_law) dL_law_1846 ?_
      refine J_lcmp (M := mL_law) dL_law_1847 ?_
      rw [lg_self]
      refine Z_if_eq (M := mL_law) (tgt := 1853) rg0 dL_law_1848 (by decide) (fun c_1848 => ?_) (fun c_1848 => ?_)
      · refine J_goto (M := mL_law) (tgt := 1869) dL_law_1853 (by decide) ?_
        exact J_sub (kk _ _ _ R6) (And.intro rfl (And.intro rfl (And.intro rfl (And.intro rfl (And.intro rfl trivial)))))
      · exact absurd rfl c_1848
  · exact absurd rfl c_1831

set_option maxRecDepth 100000 in
set_option maxHeartbeats 4000000 in
theorem o_31 {X : GX} {f : Nat → Int64} {ρ τ : TS} {c i : Int} {k n : Nat} {Q : LO → LH → Prop} (hL : xL X ≤ 2049) (h0 : 1 ≤ i) (h3 : i + 3 < xL X) (hc : 0 ≤ c ∧ c ≤ 90000) (R : RR ρ τ c) (kk : ∀ f r u, RR r u (c + 1) → J X mL_law 1869 [some (vR (some tScr)), some (vR (some (1, 0))), some (vR (some (20, 0))), some (vR (some (30, 0))), some (vI (iI i)), none, none] [] (HL f r u) k n Q) : J X mL_law 1856 [some (vR (some tScr)), some (vR (some (1, 0))), some (vR (some (20, 0))), some (vR (some (30, 0))), some (vI (iI i)), none, none] [] (HL f ρ τ) (k + 800) (n + 6200) Q := by
  refine J_aload_n (M := mL_law) dL_law_1856 rfl rfl ?_
  refine Z_h (M := mL_law) (show HL f ρ τ = hk (hm (ob f) τ) ρ from hm_hk) ?_
  refine J_callV (M := mL_law) (as := []) dL_law_1857 ca_L_218 ⟨by decide, by decide⟩ (hk_1 (show CE ρ 1 0 from rfl)) rfl (Nat.le_of_ble_eq_true rfl) (k' := k) (n' := n) (Nat.le_add_right k 800) (Nat.le_add_right n 6200) (p_gone R) (fun v_ h_ hv_ => ?_)
  obtain ⟨r_, rfl, rfl, rfl⟩ := hv_
  refine Z_h (M := mL_law) hm_hk.symm ?_
  refine J_aload_n (M := mL_law) dL_law_1860 rfl rfl ?_
  refine M_call (M := mL_law) (as := []) dL_law_1861 ca_L_221 ⟨by decide, by decide⟩ rfl (Nat.le_of_ble_eq_true rfl) rfl rfl (c_gone R.1) (fun v_ t_ hv_ => ?_)
  obtain ⟨rfl, rfl⟩ := hv_
  refine J_ic_eq (M := mL_law) (tgt := 1869) dL_law_1864 (by decide) (fun c_ => ?_) (fun c_ => absurd rfl c_)
  exact kk f _ _ (RR_mono (c := c) (by omega) (RR_33 R (by decide)))

