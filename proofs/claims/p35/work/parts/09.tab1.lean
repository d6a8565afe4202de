/-! THE TABLES OF THIS CLAIM: by program (gentab.py) -/
theorem aw_int : Cond.arrayClass .int ∈ GW := GW_of (i := 118) (by decide +kernel) rfl
theorem aw_long : Cond.arrayClass .long ∈ GW := GW_of (i := 244) (by decide +kernel) rfl
theorem u_ws_in {C : String} {T : u_T} {N : Nat} (ps : List Nat) (h : (u_ws C T N).map some = ps.map (fun i => lw_tbl[i]?)) (hg : (u_ws C T N).all goodWord = true) : ∀ w ∈ u_ws C T N, w ∈ GW := by
  intro w hw
  have h1 : some w ∈ (u_ws C T N).map some := List.mem_map.mpr ⟨w, hw, rfl⟩
  rw [h] at h1
  obtain ⟨i, -, hi⟩ := List.mem_map.mp h1
  exact GW_of hi (List.all_eq_true.mp hg w hw)
theorem okX0 : ClsOK 0 RX0 TX0 8 tyX0 := ⟨rfl, u_ws_in [329, 331, 333, 335, 337, 339, 341, 343] (by decide +kernel) (by decide +kernel), tyX0_ok, nmX0⟩
theorem okX1 : ClsOK 1 RX1 TX1 5 tyX1 := ⟨rfl, u_ws_in [257, 259, 261, 263, 265] (by decide +kernel) (by decide +kernel), tyX1_ok, nmX1⟩
theorem okX2 : ClsOK 2 RX2 TX2 10 tyX2 := ⟨rfl, u_ws_in [582, 584, 586, 588, 590, 592, 594, 596, 598, 600] (by decide +kernel) (by decide +kernel), tyX2_ok, nmX2⟩
theorem okX3 : ClsOK 3 RX3 TX3 6 tyX3 := ⟨rfl, u_ws_in [80, 82, 84, 86, 88, 90] (by decide +kernel) (by decide +kernel), tyX3_ok, nmX3⟩
theorem okX4 : ClsOK 4 RX4 TX4 5 tyX4 := ⟨rfl, u_ws_in [107, 109, 111, 113, 115] (by decide +kernel) (by decide +kernel), tyX4_ok, nmX4⟩
theorem okX5 : ClsOK 5 RX5 TX5 3 tyX5 := ⟨rfl, u_ws_in [131, 133, 135] (by decide +kernel) (by decide +kernel), tyX5_ok, nmX5⟩
theorem okX6 : ClsOK 6 RX6 TX6 4 tyX6 := ⟨rfl, u_ws_in [459, 461, 463, 465] (by decide +kernel) (by decide +kernel), tyX6_ok, nmX6⟩
theorem okX7 : ClsOK 7 RX7 TX7 10 tyX7 := ⟨rfl, u_ws_in [148, 150, 152, 154, 156, 158, 160, 162, 164, 166] (by decide +kernel) (by decide +kernel), tyX7_ok, nmX7⟩
theorem fi_X7_11 : FI RX7 11 7 1 (.array (.object "PisteLine$Fencer")) true := ⟨RX7, TX7, 10, tyX7, okX7, GW_of (i := 139) (by decide +kernel) rfl, by decide, rfl, by decide +kernel, rfl⟩
theorem fi_X7_17 : FI RX7 17 7 3 (.array (.object "PisteLine$Weapon")) true := ⟨RX7, TX7, 10, tyX7, okX7, GW_of (i := 141) (by decide +kernel) rfl, by decide, rfl, by decide +kernel, rfl⟩
theorem fi_X7_23 : FI RX7 23 7 5 (.array (.object "PisteLine$Bout")) true := ⟨RX7, TX7, 10, tyX7, okX7, GW_of (i := 143) (by decide +kernel) rfl, by decide, rfl, by decide +kernel, rfl⟩
theorem fi_X7_30 : FI RX7 30 7 7 (.object "PisteLine$Piste") true := ⟨RX7, TX7, 10, tyX7, okX7, GW_of (i := 145) (by decide +kernel) rfl, by decide, rfl, by decide +kernel, rfl⟩
theorem fi_X7_37 : FI RX7 37 7 8 (.object "PisteLine$Tableau") true := ⟨RX7, TX7, 10, tyX7, okX7, GW_of (i := 146) (by decide +kernel) rfl, by decide, rfl, by decide +kernel, rfl⟩
theorem fi_X7_44 : FI RX7 44 7 9 (.object "PisteLine$Tally") true := ⟨RX7, TX7, 10, tyX7, okX7, GW_of (i := 147) (by decide +kernel) rfl, by decide, rfl, by decide +kernel, rfl⟩
theorem fi_X7_48 : FI RX7 48 7 0 (.boolean) true := ⟨RX7, TX7, 10, tyX7, okX7, GW_of (i := 138) (by decide +kernel) rfl, by decide, rfl, by decide +kernel, rfl⟩
theorem fi_X7_52 : FI RX7 52 7 2 (.int) false := ⟨RX7, TX7, 10, tyX7, okX7, GW_of (i := 140) (by decide +kernel) rfl, by decide, rfl, by decide +kernel, rfl⟩
theorem fi_X7_79 : FI RX7 79 7 4 (.int) false := ⟨RX7, TX7, 10, tyX7, okX7, GW_of (i := 142) (by decide +kernel) rfl, by decide, rfl, by decide +kernel, rfl⟩
theorem fi_X7_98 : FI RX7 98 6 2 (.int) false := ⟨RX6, TX6, 4, tyX6, okX6, GW_of (i := 456) (by decide +kernel) rfl, by decide, rfl, by decide +kernel, rfl⟩
theorem fi_X7_101 : FI RX7 101 3 4 (.object "PisteLine$Phrase") false := ⟨RX3, TX3, 6, tyX3, okX3, GW_of (i := 77) (by decide +kernel) rfl, by decide, rfl, by decide +kernel, rfl⟩
theorem fi_X7_111 : FI RX7 111 6 1 (.int) true := ⟨RX6, TX6, 4, tyX6, okX6, GW_of (i := 454) (by decide +kernel) rfl, by decide, rfl, by decide +kernel, rfl⟩
theorem fi_X7_125 : FI RX7 125 0 1 (.int) false := ⟨RX0, TX0, 8, tyX0, okX0, GW_of (i := 316) (by decide +kernel) rfl, by decide, rfl, by decide +kernel, rfl⟩
theorem fi_X7_132 : FI RX7 132 0 2 (.int) false := ⟨RX0, TX0, 8, tyX0, okX0, GW_of (i := 319) (by decide +kernel) rfl, by decide, rfl, by decide +kernel, rfl⟩
theorem fi_X7_141 : FI RX7 141 0 4 (.int) false := ⟨RX0, TX0, 8, tyX0, okX0, GW_of (i := 323) (by decide +kernel) rfl, by decide, rfl, by decide +kernel, rfl⟩
theorem fi_X7_149 : FI RX7 149 3 1 (.object "PisteLine$Bout") false := ⟨RX3, TX3, 6, tyX3, okX3, GW_of (i := 70) (by decide +kernel) rfl, by decide, rfl, by decide +kernel, rfl⟩
theorem fi_X7_167 : FI RX7 167 3 2 (.object "PisteLine$Weapon") false := ⟨RX3, TX3, 6, tyX3, okX3, GW_of (i := 73) (by decide +kernel) rfl, by decide, rfl, by decide +kernel, rfl⟩
theorem fi_X7_170 : FI RX7 170 3 3 (.object "PisteLine$Weapon") false := ⟨RX3, TX3, 6, tyX3, okX3, GW_of (i := 75) (by decide +kernel) rfl, by decide, rfl, by decide +kernel, rfl⟩
theorem fi_X7_195 : FI RX7 195 2 6 (.int) false := ⟨RX2, TX2, 10, tyX2, okX2, GW_of (i := 576) (by decide +kernel) rfl, by decide, rfl, by decide +kernel, rfl⟩
theorem fi_X7_209 : FI RX7 209 2 9 (.int) false := ⟨RX2, TX2, 10, tyX2, okX2, GW_of (i := 581) (by decide +kernel) rfl, by decide, rfl, by decide +kernel, rfl⟩
theorem fi_X7_216 : FI RX7 216 3 5 (.boolean) false := ⟨RX3, TX3, 6, tyX3, okX3, GW_of (i := 79) (by decide +kernel) rfl, by decide, rfl, by decide +kernel, rfl⟩
theorem fi_X7_249 : FI RX7 249 3 0 (.int) false := ⟨RX3, TX3, 6, tyX3, okX3, GW_of (i := 68) (by decide +kernel) rfl, by decide, rfl, by decide +kernel, rfl⟩
theorem fi_X7_254 : FI RX7 254 0 7 (.object "PisteLine$Tally") true := ⟨RX0, TX0, 8, tyX0, okX0, GW_of (i := 328) (by decide +kernel) rfl, by decide, rfl, by decide +kernel, rfl⟩
theorem fi_X7_266 : FI RX7 266 0 0 (.boolean) true := ⟨RX0, TX0, 8, tyX0, okX0, GW_of (i := 314) (by decide +kernel) rfl, by decide, rfl, by decide +kernel, rfl⟩
theorem fi_X7_284 : FI RX7 284 7 6 (.int) false := ⟨RX7, TX7, 10, tyX7, okX7, GW_of (i := 144) (by decide +kernel) rfl, by decide, rfl, by decide +kernel, rfl⟩
theorem fi_X7_290 : FI RX7 290 1 2 (.int) false := ⟨RX1, TX1, 5, tyX1, okX1, GW_of (i := 254) (by decide +kernel) rfl, by decide, rfl, by decide +kernel, rfl⟩
theorem fi_X7_320 : FI RX7 320 4 0 (.int) false := ⟨RX4, TX4, 5, tyX4, okX4, GW_of (i := 101) (by decide +kernel) rfl, by decide, rfl, by decide +kernel, rfl⟩
theorem fi_X7_328 : FI RX7 328 4 1 (.int) false := ⟨RX4, TX4, 5, tyX4, okX4, GW_of (i := 103) (by decide +kernel) rfl, by decide, rfl, by decide +kernel, rfl⟩
theorem fi_X7_335 : FI RX7 335 6 3 (.boolean) false := ⟨RX6, TX6, 4, tyX6, okX6, GW_of (i := 458) (by decide +kernel) rfl, by decide, rfl, by decide +kernel, rfl⟩
theorem fi_X0_11 : FI RX0 11 0 3 (.array (.object "PisteLine$Phrase")) true := ⟨RX0, TX0, 8, tyX0, okX0, GW_of (i := 321) (by decide +kernel) rfl, by decide, rfl, by decide +kernel, rfl⟩
theorem fi_X0_17 : FI RX0 17 0 5 (.int) false := ⟨RX0, TX0, 8, tyX0, okX0, GW_of (i := 325) (by decide +kernel) rfl, by decide, rfl, by decide +kernel, rfl⟩
theorem fi_X0_21 : FI RX0 21 0 6 (.int) false := ⟨RX0, TX0, 8, tyX0, okX0, GW_of (i := 326) (by decide +kernel) rfl, by decide, rfl, by decide +kernel, rfl⟩
theorem fi_X0_27 : FI RX0 27 0 7 (.object "PisteLine$Tally") true := ⟨RX0, TX0, 8, tyX0, okX0, GW_of (i := 327) (by decide +kernel) rfl, by decide, rfl, by decide +kernel, rfl⟩
theorem fi_X0_31 : FI RX0 31 0 0 (.boolean) true := ⟨RX0, TX0, 8, tyX0, okX0, GW_of (i := 313) (by decide +kernel) rfl, by decide, rfl, by decide +kernel, rfl⟩
theorem fi_X0_35 : FI RX0 35 0 1 (.int) false := ⟨RX0, TX0, 8, tyX0, okX0, GW_of (i := 315) (by decide +kernel) rfl, by decide, rfl, by decide +kernel, rfl⟩
theorem fi_X0_38 : FI RX0 38 0 2 (.int) false := ⟨RX0, TX0, 8, tyX0, okX0, GW_of (i := 318) (by decide +kernel) rfl, by decide, rfl, by decide +kernel, rfl⟩
theorem fi_X0_45 : FI RX0 45 0 4 (.int) false := ⟨RX0, TX0, 8, tyX0, okX0, GW_of (i := 322) (by decide +kernel) rfl, by decide, rfl, by decide +kernel, rfl⟩
theorem fi_X0_51 : FI RX0 51 5 0 (.int) false := ⟨RX5, TX5, 3, tyX5, okX5, GW_of (i := 126) (by decide +kernel) rfl, by decide, rfl, by decide +kernel, rfl⟩
theorem fi_X0_54 : FI RX0 54 2 9 (.int) false := ⟨RX2, TX2, 10, tyX2, okX2, GW_of (i := 580) (by decide +kernel) rfl, by decide, rfl, by decide +kernel, rfl⟩
theorem fi_X0_80 : FI RX0 80 5 2 (.int) false := ⟨RX5, TX5, 3, tyX5, okX5, GW_of (i := 130) (by decide +kernel) rfl, by decide, rfl, by decide +kernel, rfl⟩
theorem fi_X0_81 : FI RX0 81 5 1 (.int) false := ⟨RX5, TX5, 3, tyX5, okX5, GW_of (i := 128) (by decide +kernel) rfl, by decide, rfl, by decide +kernel, rfl⟩
theorem fi_X1_7 : FI RX1 7 1 0 (.int) true := ⟨RX1, TX1, 5, tyX1, okX1, GW_of (i := 251) (by decide +kernel) rfl, by decide, rfl, by decide +kernel, rfl⟩
theorem fi_X1_13 : FI RX1 13 1 1 (.int) false := ⟨RX1, TX1, 5, tyX1, okX1, GW_of (i := 252) (by decide +kernel) rfl, by decide, rfl, by decide +kernel, rfl⟩
theorem fi_X1_16 : FI RX1 16 1 2 (.int) false := ⟨RX1, TX1, 5, tyX1, okX1, GW_of (i := 253) (by decide +kernel) rfl, by decide, rfl, by decide +kernel, rfl⟩
theorem fi_X1_19 : FI RX1 19 1 3 (.int) false := ⟨RX1, TX1, 5, tyX1, okX1, GW_of (i := 255) (by decide +kernel) rfl, by decide, rfl, by decide +kernel, rfl⟩
theorem fi_X1_22 : FI RX1 22 1 4 (.int) false := ⟨RX1, TX1, 5, tyX1, okX1, GW_of (i := 256) (by decide +kernel) rfl, by decide, rfl, by decide +kernel, rfl⟩
theorem fi_X2_9 : FI RX2 9 2 3 (.array (.int)) true := ⟨RX2, TX2, 10, tyX2, okX2, GW_of (i := 572) (by decide +kernel) rfl, by decide, rfl, by decide +kernel, rfl⟩
theorem fi_X2_15 : FI RX2 15 2 4 (.array (.int)) true := ⟨RX2, TX2, 10, tyX2, okX2, GW_of (i := 573) (by decide +kernel) rfl, by decide, rfl, by decide +kernel, rfl⟩
theorem fi_X2_18 : FI RX2 18 2 5 (.array (.int)) true := ⟨RX2, TX2, 10, tyX2, okX2, GW_of (i := 574) (by decide +kernel) rfl, by decide, rfl, by decide +kernel, rfl⟩
theorem fi_X2_21 : FI RX2 21 2 8 (.int) false := ⟨RX2, TX2, 10, tyX2, okX2, GW_of (i := 578) (by decide +kernel) rfl, by decide, rfl, by decide +kernel, rfl⟩
theorem fi_X2_25 : FI RX2 25 2 0 (.boolean) true := ⟨RX2, TX2, 10, tyX2, okX2, GW_of (i := 569) (by decide +kernel) rfl, by decide, rfl, by decide +kernel, rfl⟩
theorem fi_X2_29 : FI RX2 29 2 1 (.object "PisteLine$Weapon") true := ⟨RX2, TX2, 10, tyX2, okX2, GW_of (i := 570) (by decide +kernel) rfl, by decide, rfl, by decide +kernel, rfl⟩
theorem fi_X2_33 : FI RX2 33 2 2 (.object "PisteLine$Weapon") true := ⟨RX2, TX2, 10, tyX2, okX2, GW_of (i := 571) (by decide +kernel) rfl, by decide, rfl, by decide +kernel, rfl⟩
theorem fi_X2_36 : FI RX2 36 2 6 (.int) false := ⟨RX2, TX2, 10, tyX2, okX2, GW_of (i := 575) (by decide +kernel) rfl, by decide, rfl, by decide +kernel, rfl⟩
theorem fi_X2_43 : FI RX2 43 2 7 (.boolean) false := ⟨RX2, TX2, 10, tyX2, okX2, GW_of (i := 577) (by decide +kernel) rfl, by decide, rfl, by decide +kernel, rfl⟩
theorem fi_X2_50 : FI RX2 50 2 9 (.int) false := ⟨RX2, TX2, 10, tyX2, okX2, GW_of (i := 579) (by decide +kernel) rfl, by decide, rfl, by decide +kernel, rfl⟩
theorem fi_X3_9 : FI RX3 9 3 0 (.int) false := ⟨RX3, TX3, 6, tyX3, okX3, GW_of (i := 67) (by decide +kernel) rfl, by decide, rfl, by decide +kernel, rfl⟩
theorem fi_X3_15 : FI RX3 15 3 1 (.object "PisteLine$Bout") false := ⟨RX3, TX3, 6, tyX3, okX3, GW_of (i := 69) (by decide +kernel) rfl, by decide, rfl, by decide +kernel, rfl⟩
theorem fi_X3_19 : FI RX3 19 3 2 (.object "PisteLine$Weapon") false := ⟨RX3, TX3, 6, tyX3, okX3, GW_of (i := 72) (by decide +kernel) rfl, by decide, rfl, by decide +kernel, rfl⟩
theorem fi_X3_23 : FI RX3 23 3 3 (.object "PisteLine$Weapon") false := ⟨RX3, TX3, 6, tyX3, okX3, GW_of (i := 74) (by decide +kernel) rfl, by decide, rfl, by decide +kernel, rfl⟩
theorem fi_X3_26 : FI RX3 26 3 4 (.object "PisteLine$Phrase") false := ⟨RX3, TX3, 6, tyX3, okX3, GW_of (i := 76) (by decide +kernel) rfl, by decide, rfl, by decide +kernel, rfl⟩
theorem fi_X3_30 : FI RX3 30 3 5 (.boolean) false := ⟨RX3, TX3, 6, tyX3, okX3, GW_of (i := 78) (by decide +kernel) rfl, by decide, rfl, by decide +kernel, rfl⟩
theorem fi_X3_38 : FI RX3 38 6 0 (.int) true := ⟨RX6, TX6, 4, tyX6, okX6, GW_of (i := 452) (by decide +kernel) rfl, by decide, rfl, by decide +kernel, rfl⟩
theorem fi_X4_9 : FI RX4 9 4 2 (.array (.int)) true := ⟨RX4, TX4, 5, tyX4, okX4, GW_of (i := 104) (by decide +kernel) rfl, by decide, rfl, by decide +kernel, rfl⟩
theorem fi_X4_15 : FI RX4 15 4 3 (.array (.int)) true := ⟨RX4, TX4, 5, tyX4, okX4, GW_of (i := 105) (by decide +kernel) rfl, by decide, rfl, by decide +kernel, rfl⟩
theorem fi_X4_20 : FI RX4 20 4 4 (.array (.object "PisteLine$Bout")) true := ⟨RX4, TX4, 5, tyX4, okX4, GW_of (i := 106) (by decide +kernel) rfl, by decide, rfl, by decide +kernel, rfl⟩
theorem fi_X4_24 : FI RX4 24 4 0 (.int) false := ⟨RX4, TX4, 5, tyX4, okX4, GW_of (i := 100) (by decide +kernel) rfl, by decide, rfl, by decide +kernel, rfl⟩
theorem fi_X4_49 : FI RX4 49 0 1 (.int) false := ⟨RX0, TX0, 8, tyX0, okX0, GW_of (i := 317) (by decide +kernel) rfl, by decide, rfl, by decide +kernel, rfl⟩
theorem fi_X4_52 : FI RX4 52 0 2 (.int) false := ⟨RX0, TX0, 8, tyX0, okX0, GW_of (i := 320) (by decide +kernel) rfl, by decide, rfl, by decide +kernel, rfl⟩
theorem fi_X4_67 : FI RX4 67 0 4 (.int) false := ⟨RX0, TX0, 8, tyX0, okX0, GW_of (i := 324) (by decide +kernel) rfl, by decide, rfl, by decide +kernel, rfl⟩
theorem fi_X4_70 : FI RX4 70 4 1 (.int) false := ⟨RX4, TX4, 5, tyX4, okX4, GW_of (i := 102) (by decide +kernel) rfl, by decide, rfl, by decide +kernel, rfl⟩
theorem fi_X4_76 : FI RX4 76 3 1 (.object "PisteLine$Bout") false := ⟨RX3, TX3, 6, tyX3, okX3, GW_of (i := 71) (by decide +kernel) rfl, by decide, rfl, by decide +kernel, rfl⟩
theorem fi_X5_9 : FI RX5 9 5 0 (.int) false := ⟨RX5, TX5, 3, tyX5, okX5, GW_of (i := 125) (by decide +kernel) rfl, by decide, rfl, by decide +kernel, rfl⟩
theorem fi_X5_15 : FI RX5 15 5 1 (.int) false := ⟨RX5, TX5, 3, tyX5, okX5, GW_of (i := 127) (by decide +kernel) rfl, by decide, rfl, by decide +kernel, rfl⟩
theorem fi_X5_18 : FI RX5 18 5 2 (.int) false := ⟨RX5, TX5, 3, tyX5, okX5, GW_of (i := 129) (by decide +kernel) rfl, by decide, rfl, by decide +kernel, rfl⟩
theorem fi_X6_9 : FI RX6 9 6 2 (.int) false := ⟨RX6, TX6, 4, tyX6, okX6, GW_of (i := 455) (by decide +kernel) rfl, by decide, rfl, by decide +kernel, rfl⟩
theorem fi_X6_15 : FI RX6 15 6 0 (.int) true := ⟨RX6, TX6, 4, tyX6, okX6, GW_of (i := 451) (by decide +kernel) rfl, by decide, rfl, by decide +kernel, rfl⟩
theorem fi_X6_18 : FI RX6 18 6 1 (.int) true := ⟨RX6, TX6, 4, tyX6, okX6, GW_of (i := 453) (by decide +kernel) rfl, by decide, rfl, by decide +kernel, rfl⟩
theorem fi_X6_21 : FI RX6 21 6 3 (.boolean) false := ⟨RX6, TX6, 4, tyX6, okX6, GW_of (i := 457) (by decide +kernel) rfl, by decide, rfl, by decide +kernel, rfl⟩
theorem ni_X7_9 : NI RX7 9 1 [vI 0, vI 0, vI 0, vI 0, vI 0] 5 := ⟨RX1, TX1, tyX1, okX1, GW_of (i := 55) (by decide +kernel) rfl, GW_of (i := 246) (by decide +kernel) rfl, GW_of (i := 31) (by decide +kernel) rfl, (fun ψ => lt_s (lt_s (lt_s (lt_s (lt_s (lt_0) rfl) rfl) rfl) rfl) rfl), by decide +kernel⟩
theorem cl_X7_9 : Cond.classLink RX7 9 RX1 ∈ GW := GW_of (i := 55) (by decide +kernel) rfl
theorem ni_X7_15 : NI RX7 15 6 [vI 0, vI 0, vI 0, vI 0] 4 := ⟨RX6, TX6, tyX6, okX6, GW_of (i := 57) (by decide +kernel) rfl, GW_of (i := 446) (by decide +kernel) rfl, GW_of (i := 35) (by decide +kernel) rfl, (fun ψ => lt_s (lt_s (lt_s (lt_s (lt_0) rfl) rfl) rfl) rfl), by decide +kernel⟩
theorem cl_X7_15 : Cond.classLink RX7 15 RX6 ∈ GW := GW_of (i := 57) (by decide +kernel) rfl
theorem ni_X7_21 : NI RX7 21 0 [vI 0, vI 0, vI 0, vR none, vI 0, vI 0, vI 0, vR none] 8 := ⟨RX0, TX0, tyX0, okX0, GW_of (i := 59) (by decide +kernel) rfl, GW_of (i := 300) (by decide +kernel) rfl, GW_of (i := 33) (by decide +kernel) rfl, (fun ψ => lt_s (lt_s (lt_s (lt_s (lt_s (lt_s (lt_s (lt_s (lt_0) rfl) rfl) rfl) rfl) rfl) rfl) rfl) rfl), by decide +kernel⟩
theorem cl_X7_21 : Cond.classLink RX7 21 RX0 ∈ GW := GW_of (i := 59) (by decide +kernel) rfl
theorem ni_X7_27 : NI RX7 27 3 [vI 0, vR none, vR none, vR none, vR none, vI 0] 6 := ⟨RX3, TX3, tyX3, okX3, GW_of (i := 61) (by decide +kernel) rfl, GW_of (i := 62) (by decide +kernel) rfl, GW_of (i := 24) (by decide +kernel) rfl, (fun ψ => lt_s (lt_s (lt_s (lt_s (lt_s (lt_s (lt_0) rfl) rfl) rfl) rfl) rfl) rfl), by decide +kernel⟩
theorem cl_X7_27 : Cond.classLink RX7 27 RX3 ∈ GW := GW_of (i := 61) (by decide +kernel) rfl
theorem ni_X7_34 : NI RX7 34 4 [vI 0, vI 0, vR none, vR none, vR none] 5 := ⟨RX4, TX4, tyX4, okX4, GW_of (i := 93) (by decide +kernel) rfl, GW_of (i := 94) (by decide +kernel) rfl, GW_of (i := 25) (by decide +kernel) rfl, (fun ψ => lt_s (lt_s (lt_s (lt_s (lt_s (lt_0) rfl) rfl) rfl) rfl) rfl), by decide +kernel⟩
theorem cl_X7_34 : Cond.classLink RX7 34 RX4 ∈ GW := GW_of (i := 93) (by decide +kernel) rfl
theorem ni_X7_41 : NI RX7 41 5 [vI 0, vI 0, vI 0] 3 := ⟨RX5, TX5, tyX5, okX5, GW_of (i := 119) (by decide +kernel) rfl, GW_of (i := 120) (by decide +kernel) rfl, GW_of (i := 26) (by decide +kernel) rfl, (fun ψ => lt_s (lt_s (lt_s (lt_0) rfl) rfl) rfl), by decide +kernel⟩
theorem cl_X7_41 : Cond.classLink RX7 41 RX5 ∈ GW := GW_of (i := 119) (by decide +kernel) rfl
theorem cl_X7_60 : Cond.classLink RX7 60 "java/lang/IllegalStateException" ∈ GW := GW_of (i := 177) (by decide +kernel) rfl
theorem cl_X7_74 : Cond.classLink RX7 74 "java/lang/IndexOutOfBoundsException" ∈ GW := GW_of (i := 365) (by decide +kernel) rfl
theorem cl_X7_93 : Cond.classLink RX7 93 "java/lang/IllegalArgumentException" ∈ GW := GW_of (i := 272) (by decide +kernel) rfl
theorem ni_X7_174 : NI RX7 174 2 [vI 0, vR none, vR none, vR none, vR none, vR none, vI 0, vI 0, vI 0, vI 0] 10 := ⟨RX2, TX2, tyX2, okX2, GW_of (i := 563) (by decide +kernel) rfl, GW_of (i := 564) (by decide +kernel) rfl, GW_of (i := 36) (by decide +kernel) rfl, (fun ψ => lt_s (lt_s (lt_s (lt_s (lt_s (lt_s (lt_s (lt_s (lt_s (lt_s (lt_0) rfl) rfl) rfl) rfl) rfl) rfl) rfl) rfl) rfl) rfl), by decide +kernel⟩
theorem cl_X7_174 : Cond.classLink RX7 174 RX2 ∈ GW := GW_of (i := 563) (by decide +kernel) rfl
theorem ni_X0_9 : NI RX0 9 2 [vI 0, vR none, vR none, vR none, vR none, vR none, vI 0, vI 0, vI 0, vI 0] 10 := ⟨RX2, TX2, tyX2, okX2, GW_of (i := 305) (by decide +kernel) rfl, GW_of (i := 564) (by decide +kernel) rfl, GW_of (i := 36) (by decide +kernel) rfl, (fun ψ => lt_s (lt_s (lt_s (lt_s (lt_s (lt_s (lt_s (lt_s (lt_s (lt_s (lt_0) rfl) rfl) rfl) rfl) rfl) rfl) rfl) rfl) rfl) rfl), by decide +kernel⟩
theorem cl_X0_9 : Cond.classLink RX0 9 RX2 ∈ GW := GW_of (i := 305) (by decide +kernel) rfl
theorem ni_X0_24 : NI RX0 24 5 [vI 0, vI 0, vI 0] 3 := ⟨RX5, TX5, tyX5, okX5, GW_of (i := 307) (by decide +kernel) rfl, GW_of (i := 120) (by decide +kernel) rfl, GW_of (i := 26) (by decide +kernel) rfl, (fun ψ => lt_s (lt_s (lt_s (lt_0) rfl) rfl) rfl), by decide +kernel⟩
theorem cl_X0_24 : Cond.classLink RX0 24 RX5 ∈ GW := GW_of (i := 307) (by decide +kernel) rfl
theorem ni_X4_18 : NI RX4 18 0 [vI 0, vI 0, vI 0, vR none, vI 0, vI 0, vI 0, vR none] 8 := ⟨RX0, TX0, tyX0, okX0, GW_of (i := 99) (by decide +kernel) rfl, GW_of (i := 300) (by decide +kernel) rfl, GW_of (i := 33) (by decide +kernel) rfl, (fun ψ => lt_s (lt_s (lt_s (lt_s (lt_s (lt_s (lt_s (lt_s (lt_0) rfl) rfl) rfl) rfl) rfl) rfl) rfl) rfl), by decide +kernel⟩
theorem cl_X4_18 : Cond.classLink RX4 18 RX0 ∈ GW := GW_of (i := 99) (by decide +kernel) rfl
theorem ni_L_44 : NI RL 44 7 [vI 0, vR none, vI 0, vR none, vI 0, vR none, vI 0, vR none, vR none, vR none] 10 := ⟨RX7, TX7, tyX7, okX7, GW_of (i := 47) (by decide +kernel) rfl, GW_of (i := 48) (by decide +kernel) rfl, GW_of (i := 23) (by decide +kernel) rfl, (fun ψ => lt_s (lt_s (lt_s (lt_s (lt_s (lt_s (lt_s (lt_s (lt_s (lt_s (lt_0) rfl) rfl) rfl) rfl) rfl) rfl) rfl) rfl) rfl) rfl), by decide +kernel⟩
theorem cl_L_44 : Cond.classLink RL 44 RX7 ∈ GW := GW_of (i := 47) (by decide +kernel) rfl
theorem cl_L_111 : Cond.classLink RL 111 "java/lang/IndexOutOfBoundsException" ∈ GW := GW_of (i := 41) (by decide +kernel) rfl
theorem cl_L_113 : Cond.classLink RL 113 "java/lang/IllegalStateException" ∈ GW := GW_of (i := 43) (by decide +kernel) rfl
theorem cl_L_234 : Cond.classLink RL 234 "java/lang/IllegalArgumentException" ∈ GW := GW_of (i := 42) (by decide +kernel) rfl
