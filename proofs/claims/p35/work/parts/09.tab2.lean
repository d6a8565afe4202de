/-! METHODS AND CALLS: by program (gentab.py) -/
def mX0_appealsLeft : MI := (yX0_appealsLeft, cX0_appealsLeft, 2, (some FieldType.int), [], { frames := 0, cells := 0, slots := 0, locals := 0 })
theorem kiX0_appealsLeft : KI mX0_appealsLeft 1 := ⟨rfl, GW_of (i := 719) (by decide +kernel) rfl, GW_of (i := 33) (by decide +kernel) rfl, ⟨by decide +kernel, by decide +kernel⟩, by decide +kernel⟩
def mX0_canBeFenced : MI := (yX0_canBeFenced, cX0_canBeFenced, 1, (some FieldType.boolean), [], { frames := 2, cells := 0, slots := 0, locals := 40 })
theorem kiX0_canBeFenced : KI mX0_canBeFenced 0 := ⟨rfl, GW_of (i := 384) (by decide +kernel) rfl, GW_of (i := 33) (by decide +kernel) rfl, ⟨by decide +kernel, by decide +kernel⟩, by decide +kernel⟩
def mX0_countAnew : MI := (yX0_countAnew, cX0_countAnew, 4, none, [], { frames := 3, cells := 0, slots := 0, locals := 68 })
theorem kiX0_countAnew : KI mX0_countAnew 1 := ⟨rfl, GW_of (i := 861) (by decide +kernel) rfl, GW_of (i := 33) (by decide +kernel) rfl, ⟨by decide +kernel, by decide +kernel⟩, by decide +kernel⟩
def mX0_fencerAt : MI := (yX0_fencerAt, cX0_fencerAt, 2, (some FieldType.int), [], { frames := 0, cells := 0, slots := 0, locals := 0 })
theorem kiX0_fencerAt : KI mX0_fencerAt 1 := ⟨rfl, GW_of (i := 537) (by decide +kernel) rfl, GW_of (i := 33) (by decide +kernel) rfl, ⟨by decide +kernel, by decide +kernel⟩, by decide +kernel⟩
def mX0_forget : MI := (yX0_forget, cX0_forget, 2, none, [], { frames := 1, cells := 0, slots := 0, locals := 21 })
theorem kiX0_forget : KI mX0_forget 0 := ⟨rfl, GW_of (i := 545) (by decide +kernel) rfl, GW_of (i := 33) (by decide +kernel) rfl, ⟨by decide +kernel, by decide +kernel⟩, by decide +kernel⟩
def mX0_init : MI := (yX0_init, cX0_init, 4, none, [], { frames := 2, cells := 2, slots := 15, locals := 32 })
theorem kiX0_init : KI mX0_init 3 := ⟨rfl, GW_of (i := 303) (by decide +kernel) rfl, GW_of (i := 33) (by decide +kernel) rfl, ⟨by decide +kernel, by decide +kernel⟩, by decide +kernel⟩
def mX0_keep : MI := (yX0_keep, cX0_keep, 2, none, [], { frames := 4, cells := 0, slots := 0, locals := 87 })
theorem kiX0_keep : KI mX0_keep 1 := ⟨rfl, GW_of (i := 638) (by decide +kernel) rfl, GW_of (i := 33) (by decide +kernel) rfl, ⟨by decide +kernel, by decide +kernel⟩, by decide +kernel⟩
def mX0_phraseAt : MI := (yX0_phraseAt, cX0_phraseAt, 2, (some (FieldType.object "PisteLine$Phrase")), [], { frames := 0, cells := 0, slots := 0, locals := 0 })
theorem kiX0_phraseAt : KI mX0_phraseAt 1 := ⟨rfl, GW_of (i := 490) (by decide +kernel) rfl, GW_of (i := 33) (by decide +kernel) rfl, ⟨by decide +kernel, by decide +kernel⟩, by decide +kernel⟩
def mX0_recount : MI := (yX0_recount, cX0_recount, 3, none, [], { frames := 3, cells := 0, slots := 0, locals := 65 })
theorem kiX0_recount : KI mX0_recount 0 := ⟨rfl, GW_of (i := 486) (by decide +kernel) rfl, GW_of (i := 33) (by decide +kernel) rfl, ⟨by decide +kernel, by decide +kernel⟩, by decide +kernel⟩
def mX0_touchesLeft : MI := (yX0_touchesLeft, cX0_touchesLeft, 2, (some FieldType.int), [], { frames := 2, cells := 0, slots := 0, locals := 44 })
theorem kiX0_touchesLeft : KI mX0_touchesLeft 1 := ⟨rfl, GW_of (i := 494) (by decide +kernel) rfl, GW_of (i := 33) (by decide +kernel) rfl, ⟨by decide +kernel, by decide +kernel⟩, by decide +kernel⟩
def mX0_useAppeal : MI := (yX0_useAppeal, cX0_useAppeal, 2, none, [], { frames := 0, cells := 0, slots := 0, locals := 0 })
theorem kiX0_useAppeal : KI mX0_useAppeal 1 := ⟨rfl, GW_of (i := 729) (by decide +kernel) rfl, GW_of (i := 33) (by decide +kernel) rfl, ⟨by decide +kernel, by decide +kernel⟩, by decide +kernel⟩
def mX0_winningFencer : MI := (yX0_winningFencer, cX0_winningFencer, 2, (some FieldType.int), [], { frames := 2, cells := 0, slots := 0, locals := 40 })
theorem kiX0_winningFencer : KI mX0_winningFencer 0 := ⟨rfl, GW_of (i := 533) (by decide +kernel) rfl, GW_of (i := 33) (by decide +kernel) rfl, ⟨by decide +kernel, by decide +kernel⟩, by decide +kernel⟩
def mX0_winningSide : MI := (yX0_winningSide, cX0_winningSide, 1, (some FieldType.int), [], { frames := 1, cells := 0, slots := 0, locals := 20 })
theorem kiX0_winningSide : KI mX0_winningSide 0 := ⟨rfl, GW_of (i := 388) (by decide +kernel) rfl, GW_of (i := 33) (by decide +kernel) rfl, ⟨by decide +kernel, by decide +kernel⟩, by decide +kernel⟩
def mX1_add : MI := (yX1_add, cX1_add, 4, none, [], { frames := 0, cells := 0, slots := 0, locals := 0 })
theorem kiX1_add : KI mX1_add 3 := ⟨rfl, GW_of (i := 801) (by decide +kernel) rfl, GW_of (i := 31) (by decide +kernel) rfl, ⟨by decide +kernel, by decide +kernel⟩, by decide +kernel⟩
def mX1_clear : MI := (yX1_clear, cX1_clear, 1, none, [], { frames := 0, cells := 0, slots := 0, locals := 0 })
theorem kiX1_clear : KI mX1_clear 0 := ⟨rfl, GW_of (i := 789) (by decide +kernel) rfl, GW_of (i := 31) (by decide +kernel) rfl, ⟨by decide +kernel, by decide +kernel⟩, by decide +kernel⟩
def mX1_difference : MI := (yX1_difference, cX1_difference, 1, (some FieldType.int), [], { frames := 0, cells := 0, slots := 0, locals := 0 })
theorem kiX1_difference : KI mX1_difference 0 := ⟨rfl, GW_of (i := 820) (by decide +kernel) rfl, GW_of (i := 31) (by decide +kernel) rfl, ⟨by decide +kernel, by decide +kernel⟩, by decide +kernel⟩
def mX1_init : MI := (yX1_init, cX1_init, 2, none, [], { frames := 1, cells := 0, slots := 0, locals := 12 })
theorem kiX1_init : KI mX1_init 1 := ⟨rfl, GW_of (i := 249) (by decide +kernel) rfl, GW_of (i := 31) (by decide +kernel) rfl, ⟨by decide +kernel, by decide +kernel⟩, by decide +kernel⟩
def mX1_isAheadOf : MI := (yX1_isAheadOf, cX1_isAheadOf, 4, (some FieldType.boolean), [], { frames := 1, cells := 0, slots := 0, locals := 21 })
theorem kiX1_isAheadOf : KI mX1_isAheadOf 1 := ⟨rfl, GW_of (i := 813) (by decide +kernel) rfl, GW_of (i := 31) (by decide +kernel) rfl, ⟨by decide +kernel, by decide +kernel⟩, by decide +kernel⟩
def mX2_firstLight : MI := (yX2_firstLight, cX2_firstLight, 2, (some FieldType.int), [], { frames := 1, cells := 0, slots := 0, locals := 21 })
theorem kiX2_firstLight : KI mX2_firstLight 0 := ⟨rfl, GW_of (i := 618) (by decide +kernel) rfl, GW_of (i := 36) (by decide +kernel) rfl, ⟨by decide +kernel, by decide +kernel⟩, by decide +kernel⟩
def mX2_hear : MI := (yX2_hear, cX2_hear, 4, none, [], { frames := 1, cells := 0, slots := 0, locals := 20 })
theorem kiX2_hear : KI mX2_hear 3 := ⟨rfl, GW_of (i := 671) (by decide +kernel) rfl, GW_of (i := 36) (by decide +kernel) rfl, ⟨by decide +kernel, by decide +kernel⟩, by decide +kernel⟩
def mX2_init : MI := (yX2_init, cX2_init, 4, none, [], { frames := 1, cells := 3, slots := 24, locals := 12 })
theorem kiX2_init : KI mX2_init 3 := ⟨rfl, GW_of (i := 567) (by decide +kernel) rfl, GW_of (i := 36) (by decide +kernel) rfl, ⟨by decide +kernel, by decide +kernel⟩, by decide +kernel⟩
def mX2_isALight : MI := (yX2_isALight, cX2_isALight, 2, (some FieldType.boolean), [], { frames := 0, cells := 0, slots := 0, locals := 0 })
theorem kiX2_isALight : KI mX2_isALight 1 := ⟨rfl, GW_of (i := 622) (by decide +kernel) rfl, GW_of (i := 36) (by decide +kernel) rfl, ⟨by decide +kernel, by decide +kernel⟩, by decide +kernel⟩
def mX2_isFull : MI := (yX2_isFull, cX2_isFull, 1, (some FieldType.boolean), [], { frames := 0, cells := 0, slots := 0, locals := 0 })
theorem kiX2_isFull : KI mX2_isFull 0 := ⟨rfl, GW_of (i := 666) (by decide +kernel) rfl, GW_of (i := 36) (by decide +kernel) rfl, ⟨by decide +kernel, by decide +kernel⟩, by decide +kernel⟩
def mX2_judge : MI := (yX2_judge, cX2_judge, 4, (some FieldType.int), [], { frames := 2, cells := 0, slots := 0, locals := 45 })
theorem kiX2_judge : KI mX2_judge 0 := ⟨rfl, GW_of (i := 614) (by decide +kernel) rfl, GW_of (i := 36) (by decide +kernel) rfl, ⟨by decide +kernel, by decide +kernel⟩, by decide +kernel⟩
def mX2_latestTime : MI := (yX2_latestTime, cX2_latestTime, 1, (some FieldType.int), [], { frames := 0, cells := 0, slots := 0, locals := 0 })
theorem kiX2_latestTime : KI mX2_latestTime 0 := ⟨rfl, GW_of (i := 661) (by decide +kernel) rfl, GW_of (i := 36) (by decide +kernel) rfl, ⟨by decide +kernel, by decide +kernel⟩, by decide +kernel⟩
def mX2_otherLight : MI := (yX2_otherLight, cX2_otherLight, 5, (some FieldType.int), [], { frames := 1, cells := 0, slots := 0, locals := 21 })
theorem kiX2_otherLight : KI mX2_otherLight 1 := ⟨rfl, GW_of (i := 626) (by decide +kernel) rfl, GW_of (i := 36) (by decide +kernel) rfl, ⟨by decide +kernel, by decide +kernel⟩, by decide +kernel⟩
def mX2_rightAt : MI := (yX2_rightAt, cX2_rightAt, 4, (some FieldType.int), [], { frames := 0, cells := 0, slots := 0, locals := 0 })
theorem kiX2_rightAt : KI mX2_rightAt 1 := ⟨rfl, GW_of (i := 634) (by decide +kernel) rfl, GW_of (i := 36) (by decide +kernel) rfl, ⟨by decide +kernel, by decide +kernel⟩, by decide +kernel⟩
def mX2_tellRight : MI := (yX2_tellRight, cX2_tellRight, 2, none, [], { frames := 3, cells := 0, slots := 0, locals := 68 })
theorem kiX2_tellRight : KI mX2_tellRight 1 := ⟨rfl, GW_of (i := 724) (by decide +kernel) rfl, GW_of (i := 36) (by decide +kernel) rfl, ⟨by decide +kernel, by decide +kernel⟩, by decide +kernel⟩
def mX2_touchOf : MI := (yX2_touchOf, cX2_touchOf, 2, (some FieldType.int), [], { frames := 0, cells := 0, slots := 0, locals := 0 })
theorem kiX2_touchOf : KI mX2_touchOf 1 := ⟨rfl, GW_of (i := 630) (by decide +kernel) rfl, GW_of (i := 36) (by decide +kernel) rfl, ⟨by decide +kernel, by decide +kernel⟩, by decide +kernel⟩
def mX2_withoutStruck : MI := (yX2_withoutStruck, cX2_withoutStruck, 4, (some FieldType.int), [], { frames := 1, cells := 0, slots := 0, locals := 21 })
theorem kiX2_withoutStruck : KI mX2_withoutStruck 2 := ⟨rfl, GW_of (i := 498) (by decide +kernel) rfl, GW_of (i := 36) (by decide +kernel) rfl, ⟨by decide +kernel, by decide +kernel⟩, by decide +kernel⟩
def mX3_arm : MI := (yX3_arm, cX3_arm, 3, none, [], { frames := 0, cells := 0, slots := 0, locals := 0 })
theorem kiX3_arm : KI mX3_arm 2 := ⟨rfl, GW_of (i := 748) (by decide +kernel) rfl, GW_of (i := 24) (by decide +kernel) rfl, ⟨by decide +kernel, by decide +kernel⟩, by decide +kernel⟩
def mX3_empty : MI := (yX3_empty, cX3_empty, 1, none, [], { frames := 1, cells := 0, slots := 0, locals := 24 })
theorem kiX3_empty : KI mX3_empty 0 := ⟨rfl, GW_of (i := 549) (by decide +kernel) rfl, GW_of (i := 24) (by decide +kernel) rfl, ⟨by decide +kernel, by decide +kernel⟩, by decide +kernel⟩
def mX3_init : MI := (yX3_init, cX3_init, 1, none, [], { frames := 1, cells := 0, slots := 0, locals := 12 })
theorem kiX3_init : KI mX3_init 0 := ⟨rfl, GW_of (i := 65) (by decide +kernel) rfl, GW_of (i := 24) (by decide +kernel) rfl, ⟨by decide +kernel, by decide +kernel⟩, by decide +kernel⟩
def mX3_take : MI := (yX3_take, cX3_take, 5, none, [], { frames := 0, cells := 0, slots := 0, locals := 0 })
theorem kiX3_take : KI mX3_take 4 := ⟨rfl, GW_of (i := 402) (by decide +kernel) rfl, GW_of (i := 24) (by decide +kernel) rfl, ⟨by decide +kernel, by decide +kernel⟩, by decide +kernel⟩
def mX3_weaponNumber : MI := (yX3_weaponNumber, cX3_weaponNumber, 3, (some FieldType.int), [], { frames := 0, cells := 0, slots := 0, locals := 0 })
theorem kiX3_weaponNumber : KI mX3_weaponNumber 1 := ⟨rfl, GW_of (i := 744) (by decide +kernel) rfl, GW_of (i := 24) (by decide +kernel) rfl, ⟨by decide +kernel, by decide +kernel⟩, by decide +kernel⟩
def mX4_boutAt : MI := (yX4_boutAt, cX4_boutAt, 2, (some (FieldType.object "PisteLine$Bout")), [], { frames := 0, cells := 0, slots := 0, locals := 0 })
theorem kiX4_boutAt : KI mX4_boutAt 1 := ⟨rfl, GW_of (i := 360) (by decide +kernel) rfl, GW_of (i := 25) (by decide +kernel) rfl, ⟨by decide +kernel, by decide +kernel⟩, by decide +kernel⟩
def mX4_drop : MI := (yX4_drop, cX4_drop, 3, none, [], { frames := 2, cells := 0, slots := 0, locals := 44 })
theorem kiX4_drop : KI mX4_drop 2 := ⟨rfl, GW_of (i := 541) (by decide +kernel) rfl, GW_of (i := 25) (by decide +kernel) rfl, ⟨by decide +kernel, by decide +kernel⟩, by decide +kernel⟩
def mX4_hasNode : MI := (yX4_hasNode, cX4_hasNode, 2, (some FieldType.boolean), [], { frames := 0, cells := 0, slots := 0, locals := 0 })
theorem kiX4_hasNode : KI mX4_hasNode 1 := ⟨rfl, GW_of (i := 521) (by decide +kernel) rfl, GW_of (i := 25) (by decide +kernel) rfl, ⟨by decide +kernel, by decide +kernel⟩, by decide +kernel⟩
def mX4_init : MI := (yX4_init, cX4_init, 1, none, [], { frames := 1, cells := 3, slots := 64, locals := 12 })
theorem kiX4_init : KI mX4_init 0 := ⟨rfl, GW_of (i := 97) (by decide +kernel) rfl, GW_of (i := 25) (by decide +kernel) rfl, ⟨by decide +kernel, by decide +kernel⟩, by decide +kernel⟩
def mX4_isDrawn : MI := (yX4_isDrawn, cX4_isDrawn, 1, (some FieldType.boolean), [], { frames := 0, cells := 0, slots := 0, locals := 0 })
theorem kiX4_isDrawn : KI mX4_isDrawn 0 := ⟨rfl, GW_of (i := 482) (by decide +kernel) rfl, GW_of (i := 25) (by decide +kernel) rfl, ⟨by decide +kernel, by decide +kernel⟩, by decide +kernel⟩
def mX4_lay : MI := (yX4_lay, cX4_lay, 4, none, [], { frames := 3, cells := 45, slots := 345, locals := 55 })
theorem kiX4_lay : KI mX4_lay 1 := ⟨rfl, GW_of (i := 776) (by decide +kernel) rfl, GW_of (i := 25) (by decide +kernel) rfl, ⟨by decide +kernel, by decide +kernel⟩, by decide +kernel⟩
def mX4_laySeeds : MI := (yX4_laySeeds, cX4_laySeeds, 4, none, [], { frames := 0, cells := 0, slots := 0, locals := 0 })
theorem kiX4_laySeeds : KI mX4_laySeeds 0 := ⟨rfl, GW_of (i := 781) (by decide +kernel) rfl, GW_of (i := 25) (by decide +kernel) rfl, ⟨by decide +kernel, by decide +kernel⟩, by decide +kernel⟩
def mX4_recount : MI := (yX4_recount, cX4_recount, 3, none, [], { frames := 4, cells := 0, slots := 0, locals := 87 })
theorem kiX4_recount : KI mX4_recount 0 := ⟨rfl, GW_of (i := 511) (by decide +kernel) rfl, GW_of (i := 25) (by decide +kernel) rfl, ⟨by decide +kernel, by decide +kernel⟩, by decide +kernel⟩
def mX4_seat : MI := (yX4_seat, cX4_seat, 4, none, [], { frames := 0, cells := 0, slots := 0, locals := 0 })
theorem kiX4_seat : KI mX4_seat 2 := ⟨rfl, GW_of (i := 824) (by decide +kernel) rfl, GW_of (i := 25) (by decide +kernel) rfl, ⟨by decide +kernel, by decide +kernel⟩, by decide +kernel⟩
def mX4_settle : MI := (yX4_settle, cX4_settle, 5, none, [], { frames := 4, cells := 0, slots := 0, locals := 84 })
theorem kiX4_settle : KI mX4_settle 1 := ⟨rfl, GW_of (i := 517) (by decide +kernel) rfl, GW_of (i := 25) (by decide +kernel) rfl, ⟨by decide +kernel, by decide +kernel⟩, by decide +kernel⟩
def mX4_winnerAt : MI := (yX4_winnerAt, cX4_winnerAt, 2, (some FieldType.int), [], { frames := 1, cells := 0, slots := 0, locals := 21 })
theorem kiX4_winnerAt : KI mX4_winnerAt 1 := ⟨rfl, GW_of (i := 525) (by decide +kernel) rfl, GW_of (i := 25) (by decide +kernel) rfl, ⟨by decide +kernel, by decide +kernel⟩, by decide +kernel⟩
def mX4_winnerNow : MI := (yX4_winnerNow, cX4_winnerNow, 4, (some FieldType.int), [], { frames := 3, cells := 0, slots := 0, locals := 61 })
theorem kiX4_winnerNow : KI mX4_winnerNow 2 := ⟨rfl, GW_of (i := 529) (by decide +kernel) rfl, GW_of (i := 25) (by decide +kernel) rfl, ⟨by decide +kernel, by decide +kernel⟩, by decide +kernel⟩
def mX5_add : MI := (yX5_add, cX5_add, 4, none, [], { frames := 1, cells := 0, slots := 0, locals := 20 })
theorem kiX5_add : KI mX5_add 1 := ⟨rfl, GW_of (i := 506) (by decide +kernel) rfl, GW_of (i := 26) (by decide +kernel) rfl, ⟨by decide +kernel, by decide +kernel⟩, by decide +kernel⟩
def mX5_init : MI := (yX5_init, cX5_init, 1, none, [], { frames := 1, cells := 0, slots := 0, locals := 12 })
theorem kiX5_init : KI mX5_init 0 := ⟨rfl, GW_of (i := 123) (by decide +kernel) rfl, GW_of (i := 26) (by decide +kernel) rfl, ⟨by decide +kernel, by decide +kernel⟩, by decide +kernel⟩
def mX5_isAtGoal : MI := (yX5_isAtGoal, cX5_isAtGoal, 1, (some FieldType.boolean), [], { frames := 0, cells := 0, slots := 0, locals := 0 })
theorem kiX5_isAtGoal : KI mX5_isAtGoal 0 := ⟨rfl, GW_of (i := 392) (by decide +kernel) rfl, GW_of (i := 26) (by decide +kernel) rfl, ⟨by decide +kernel, by decide +kernel⟩, by decide +kernel⟩
def mX5_of : MI := (yX5_of, cX5_of, 2, (some FieldType.int), [], { frames := 0, cells := 0, slots := 0, locals := 0 })
theorem kiX5_of : KI mX5_of 1 := ⟨rfl, GW_of (i := 797) (by decide +kernel) rfl, GW_of (i := 26) (by decide +kernel) rfl, ⟨by decide +kernel, by decide +kernel⟩, by decide +kernel⟩
def mX5_restart : MI := (yX5_restart, cX5_restart, 2, none, [], { frames := 0, cells := 0, slots := 0, locals := 0 })
theorem kiX5_restart : KI mX5_restart 1 := ⟨rfl, GW_of (i := 312) (by decide +kernel) rfl, GW_of (i := 26) (by decide +kernel) rfl, ⟨by decide +kernel, by decide +kernel⟩, by decide +kernel⟩
def mX6_init : MI := (yX6_init, cX6_init, 3, none, [], { frames := 1, cells := 0, slots := 0, locals := 12 })
theorem kiX6_init : KI mX6_init 2 := ⟨rfl, GW_of (i := 449) (by decide +kernel) rfl, GW_of (i := 35) (by decide +kernel) rfl, ⟨by decide +kernel, by decide +kernel⟩, by decide +kernel⟩
def mX6_isFalse : MI := (yX6_isFalse, cX6_isFalse, 2, (some FieldType.boolean), [], { frames := 0, cells := 0, slots := 0, locals := 0 })
theorem kiX6_isFalse : KI mX6_isFalse 1 := ⟨rfl, GW_of (i := 502) (by decide +kernel) rfl, GW_of (i := 35) (by decide +kernel) rfl, ⟨by decide +kernel, by decide +kernel⟩, by decide +kernel⟩
def mX6_isMarkedFor : MI := (yX6_isMarkedFor, cX6_isMarkedFor, 2, (some FieldType.boolean), [], { frames := 0, cells := 0, slots := 0, locals := 0 })
theorem kiX6_isMarkedFor : KI mX6_isMarkedFor 1 := ⟨rfl, GW_of (i := 397) (by decide +kernel) rfl, GW_of (i := 35) (by decide +kernel) rfl, ⟨by decide +kernel, by decide +kernel⟩, by decide +kernel⟩
def mX7_addPoolBout : MI := (yX7_addPoolBout, cX7_addPoolBout, 3, none, [], { frames := 3, cells := 3, slots := 23, locals := 55 })
theorem kiX7_addPoolBout : KI mX7_addPoolBout 2 := ⟨rfl, GW_of (i := 299) (by decide +kernel) rfl, GW_of (i := 23) (by decide +kernel) rfl, ⟨by decide +kernel, by decide +kernel⟩, by decide +kernel⟩
def mX7_allez : MI := (yX7_allez, cX7_allez, 4, (some FieldType.int), [], { frames := 6, cells := 4, slots := 34, locals := 82 })
theorem kiX7_allez : KI mX7_allez 0 := ⟨rfl, GW_of (i := 560) (by decide +kernel) rfl, GW_of (i := 23) (by decide +kernel) rfl, ⟨by decide +kernel, by decide +kernel⟩, by decide +kernel⟩
def mX7_appeal : MI := (yX7_appeal, cX7_appeal, 7, (some FieldType.int), [], { frames := 6, cells := 1, slots := 6, locals := 108 })
theorem kiX7_appeal : KI mX7_appeal 2 := ⟨rfl, GW_of (i := 712) (by decide +kernel) rfl, GW_of (i := 23) (by decide +kernel) rfl, ⟨by decide +kernel, by decide +kernel⟩, by decide +kernel⟩
def mX7_appeals : MI := (yX7_appeals, cX7_appeals, 4, (some FieldType.int), [], { frames := 6, cells := 1, slots := 6, locals := 82 })
theorem kiX7_appeals : KI mX7_appeals 2 := ⟨rfl, GW_of (i := 866) (by decide +kernel) rfl, GW_of (i := 23) (by decide +kernel) rfl, ⟨by decide +kernel, by decide +kernel⟩, by decide +kernel⟩
def mX7_arePoolsDrawn : MI := (yX7_arePoolsDrawn, cX7_arePoolsDrawn, 1, (some FieldType.boolean), [], { frames := 0, cells := 0, slots := 0, locals := 0 })
theorem kiX7_arePoolsDrawn : KI mX7_arePoolsDrawn 0 := ⟨rfl, GW_of (i := 176) (by decide +kernel) rfl, GW_of (i := 23) (by decide +kernel) rfl, ⟨by decide +kernel, by decide +kernel⟩, by decide +kernel⟩
def mX7_begin : MI := (yX7_begin, cX7_begin, 7, (some FieldType.int), [], { frames := 6, cells := 1, slots := 6, locals := 82 })
theorem kiX7_begin : KI mX7_begin 3 := ⟨rfl, GW_of (i := 352) (by decide +kernel) rfl, GW_of (i := 23) (by decide +kernel) rfl, ⟨by decide +kernel, by decide +kernel⟩, by decide +kernel⟩
def mX7_boutAt : MI := (yX7_boutAt, cX7_boutAt, 2, (some (FieldType.object "PisteLine$Bout")), [], { frames := 1, cells := 0, slots := 0, locals := 21 })
theorem kiX7_boutAt : KI mX7_boutAt 1 := ⟨rfl, GW_of (i := 356) (by decide +kernel) rfl, GW_of (i := 23) (by decide +kernel) rfl, ⟨by decide +kernel, by decide +kernel⟩, by decide +kernel⟩
def mX7_change : MI := (yX7_change, cX7_change, 6, (some FieldType.int), [], { frames := 6, cells := 1, slots := 6, locals := 82 })
theorem kiX7_change : KI mX7_change 2 := ⟨rfl, GW_of (i := 737) (by decide +kernel) rfl, GW_of (i := 23) (by decide +kernel) rfl, ⟨by decide +kernel, by decide +kernel⟩, by decide +kernel⟩
def mX7_contact : MI := (yX7_contact, cX7_contact, 5, (some FieldType.int), [], { frames := 6, cells := 1, slots := 6, locals := 82 })
theorem kiX7_contact : KI mX7_contact 3 := ⟨rfl, GW_of (i := 676) (by decide +kernel) rfl, GW_of (i := 23) (by decide +kernel) rfl, ⟨by decide +kernel, by decide +kernel⟩, by decide +kernel⟩
def mX7_countPools : MI := (yX7_countPools, cX7_countPools, 3, none, [], { frames := 3, cells := 0, slots := 0, locals := 63 })
theorem kiX7_countPools : KI mX7_countPools 0 := ⟨rfl, GW_of (i := 785) (by decide +kernel) rfl, GW_of (i := 23) (by decide +kernel) rfl, ⟨by decide +kernel, by decide +kernel⟩, by decide +kernel⟩
def mX7_countSide : MI := (yX7_countSide, cX7_countSide, 4, none, [], { frames := 2, cells := 0, slots := 0, locals := 40 })
theorem kiX7_countSide : KI mX7_countSide 2 := ⟨rfl, GW_of (i := 793) (by decide +kernel) rfl, GW_of (i := 23) (by decide +kernel) rfl, ⟨by decide +kernel, by decide +kernel⟩, by decide +kernel⟩
def mX7_drawPool : MI := (yX7_drawPool, cX7_drawPool, 5, none, [], { frames := 4, cells := 198, slots := 1518, locals := 77 })
theorem kiX7_drawPool : KI mX7_drawPool 2 := ⟨rfl, GW_of (i := 292) (by decide +kernel) rfl, GW_of (i := 23) (by decide +kernel) rfl, ⟨by decide +kernel, by decide +kernel⟩, by decide +kernel⟩
def mX7_drawPools : MI := (yX7_drawPools, cX7_drawPools, 3, (some FieldType.int), [], { frames := 6, cells := 792, slots := 6072, locals := 101 })
theorem kiX7_drawPools : KI mX7_drawPools 1 := ⟨rfl, GW_of (i := 271) (by decide +kernel) rfl, GW_of (i := 23) (by decide +kernel) rfl, ⟨by decide +kernel, by decide +kernel⟩, by decide +kernel⟩
def mX7_drawTableau : MI := (yX7_drawTableau, cX7_drawTableau, 2, (some FieldType.int), [], { frames := 6, cells := 45, slots := 345, locals := 108 })
theorem kiX7_drawTableau : KI mX7_drawTableau 0 := ⟨rfl, GW_of (i := 764) (by decide +kernel) rfl, GW_of (i := 23) (by decide +kernel) rfl, ⟨by decide +kernel, by decide +kernel⟩, by decide +kernel⟩
def mX7_fail : MI := (yX7_fail, cX7_fail, 4, none, [], { frames := 5, cells := 0, slots := 0, locals := 109 })
theorem kiX7_fail : KI mX7_fail 1 := ⟨rfl, GW_of (i := 478) (by decide +kernel) rfl, GW_of (i := 23) (by decide +kernel) rfl, ⟨by decide +kernel, by decide +kernel⟩, by decide +kernel⟩
def mX7_fencer : MI := (yX7_fencer, cX7_fencer, 2, (some FieldType.int), [], { frames := 6, cells := 1, slots := 6, locals := 82 })
theorem kiX7_fencer : KI mX7_fencer 0 := ⟨rfl, GW_of (i := 172) (by decide +kernel) rfl, GW_of (i := 23) (by decide +kernel) rfl, ⟨by decide +kernel, by decide +kernel⟩, by decide +kernel⟩
def mX7_fencerAt : MI := (yX7_fencerAt, cX7_fencerAt, 2, (some (FieldType.object "PisteLine$Fencer")), [], { frames := 0, cells := 0, slots := 0, locals := 0 })
theorem kiX7_fencerAt : KI mX7_fencerAt 1 := ⟨rfl, GW_of (i := 443) (by decide +kernel) rfl, GW_of (i := 23) (by decide +kernel) rfl, ⟨by decide +kernel, by decide +kernel⟩, by decide +kernel⟩
def mX7_fencerInPlace : MI := (yX7_fencerInPlace, cX7_fencerInPlace, 4, (some FieldType.int), [], { frames := 3, cells := 0, slots := 0, locals := 68 })
theorem kiX7_fencerInPlace : KI mX7_fencerInPlace 1 := ⟨rfl, GW_of (i := 805) (by decide +kernel) rfl, GW_of (i := 23) (by decide +kernel) rfl, ⟨by decide +kernel, by decide +kernel⟩, by decide +kernel⟩
def mX7_fencerOf : MI := (yX7_fencerOf, cX7_fencerOf, 4, (some FieldType.int), [], { frames := 6, cells := 1, slots := 6, locals := 82 })
theorem kiX7_fencerOf : KI mX7_fencerOf 2 := ⟨rfl, GW_of (i := 870) (by decide +kernel) rfl, GW_of (i := 23) (by decide +kernel) rfl, ⟨by decide +kernel, by decide +kernel⟩, by decide +kernel⟩
def mX7_fencersAhead : MI := (yX7_fencersAhead, cX7_fencersAhead, 5, (some FieldType.int), [], { frames := 2, cells := 0, slots := 0, locals := 44 })
theorem kiX7_fencersAhead : KI mX7_fencersAhead 1 := ⟨rfl, GW_of (i := 809) (by decide +kernel) rfl, GW_of (i := 23) (by decide +kernel) rfl, ⟨by decide +kernel, by decide +kernel⟩, by decide +kernel⟩
def mX7_gone : MI := (yX7_gone, cX7_gone, 1, (some FieldType.int), [], { frames := 0, cells := 0, slots := 0, locals := 0 })
theorem kiX7_gone : KI mX7_gone 0 := ⟨rfl, GW_of (i := 843) (by decide +kernel) rfl, GW_of (i := 23) (by decide +kernel) rfl, ⟨by decide +kernel, by decide +kernel⟩, by decide +kernel⟩
def mX7_halt : MI := (yX7_halt, cX7_halt, 3, (some FieldType.int), [], { frames := 6, cells := 1, slots := 6, locals := 108 })
theorem kiX7_halt : KI mX7_halt 0 := ⟨rfl, GW_of (i := 609) (by decide +kernel) rfl, GW_of (i := 23) (by decide +kernel) rfl, ⟨by decide +kernel, by decide +kernel⟩, by decide +kernel⟩
def mX7_index : MI := (yX7_index, cX7_index, 3, (some FieldType.int), [], { frames := 6, cells := 1, slots := 6, locals := 85 })
theorem kiX7_index : KI mX7_index 1 := ⟨rfl, GW_of (i := 903) (by decide +kernel) rfl, GW_of (i := 23) (by decide +kernel) rfl, ⟨by decide +kernel, by decide +kernel⟩, by decide +kernel⟩
def mX7_init : MI := (yX7_init, cX7_init, 2, none, [], { frames := 2, cells := 9, slots := 180, locals := 32 })
theorem kiX7_init : KI mX7_init 1 := ⟨rfl, GW_of (i := 51) (by decide +kernel) rfl, GW_of (i := 23) (by decide +kernel) rfl, ⟨by decide +kernel, by decide +kernel⟩, by decide +kernel⟩
def mX7_isAPoolBoutOpen : MI := (yX7_isAPoolBoutOpen, cX7_isAPoolBoutOpen, 3, (some FieldType.boolean), [], { frames := 2, cells := 0, slots := 0, locals := 40 })
theorem kiX7_isAPoolBoutOpen : KI mX7_isAPoolBoutOpen 0 := ⟨rfl, GW_of (i := 768) (by decide +kernel) rfl, GW_of (i := 23) (by decide +kernel) rfl, ⟨by decide +kernel, by decide +kernel⟩, by decide +kernel⟩
def mX7_isFencing : MI := (yX7_isFencing, cX7_isFencing, 1, (some FieldType.boolean), [], { frames := 0, cells := 0, slots := 0, locals := 0 })
theorem kiX7_isFencing : KI mX7_isFencing 0 := ⟨rfl, GW_of (i := 683) (by decide +kernel) rfl, GW_of (i := 23) (by decide +kernel) rfl, ⟨by decide +kernel, by decide +kernel⟩, by decide +kernel⟩
def mX7_isSide : MI := (yX7_isSide, cX7_isSide, 1, (some FieldType.boolean), [], { frames := 0, cells := 0, slots := 0, locals := 0 })
theorem kiX7_isSide : KI mX7_isSide 1 := ⟨rfl, GW_of (i := 653) (by decide +kernel) rfl, GW_of (i := 23) (by decide +kernel) rfl, ⟨by decide +kernel, by decide +kernel⟩, by decide +kernel⟩
def mX7_isSideOrNone : MI := (yX7_isSideOrNone, cX7_isSideOrNone, 1, (some FieldType.boolean), [], { frames := 1, cells := 0, slots := 0, locals := 20 })
theorem kiX7_isSideOrNone : KI mX7_isSideOrNone 1 := ⟨rfl, GW_of (i := 650) (by decide +kernel) rfl, GW_of (i := 23) (by decide +kernel) rfl, ⟨by decide +kernel, by decide +kernel⟩, by decide +kernel⟩
def mX7_isTooEarly : MI := (yX7_isTooEarly, cX7_isTooEarly, 3, (some FieldType.boolean), [], { frames := 1, cells := 0, slots := 0, locals := 20 })
theorem kiX7_isTooEarly : KI mX7_isTooEarly 1 := ⟨rfl, GW_of (i := 657) (by decide +kernel) rfl, GW_of (i := 23) (by decide +kernel) rfl, ⟨by decide +kernel, by decide +kernel⟩, by decide +kernel⟩
def mX7_mark : MI := (yX7_mark, cX7_mark, 3, (some FieldType.int), [], { frames := 6, cells := 1, slots := 6, locals := 82 })
theorem kiX7_mark : KI mX7_mark 1 := ⟨rfl, GW_of (i := 895) (by decide +kernel) rfl, GW_of (i := 23) (by decide +kernel) rfl, ⟨by decide +kernel, by decide +kernel⟩, by decide +kernel⟩
def mX7_nodeWinner : MI := (yX7_nodeWinner, cX7_nodeWinner, 2, (some FieldType.int), [], { frames := 6, cells := 1, slots := 6, locals := 82 })
theorem kiX7_nodeWinner : KI mX7_nodeWinner 1 := ⟨rfl, GW_of (i := 885) (by decide +kernel) rfl, GW_of (i := 23) (by decide +kernel) rfl, ⟨by decide +kernel, by decide +kernel⟩, by decide +kernel⟩
def mX7_owner : MI := (yX7_owner, cX7_owner, 3, (some FieldType.int), [], { frames := 6, cells := 1, slots := 6, locals := 82 })
theorem kiX7_owner : KI mX7_owner 1 := ⟨rfl, GW_of (i := 891) (by decide +kernel) rfl, GW_of (i := 23) (by decide +kernel) rfl, ⟨by decide +kernel, by decide +kernel⟩, by decide +kernel⟩
def mX7_phrases : MI := (yX7_phrases, cX7_phrases, 3, (some FieldType.int), [], { frames := 6, cells := 1, slots := 6, locals := 82 })
theorem kiX7_phrases : KI mX7_phrases 1 := ⟨rfl, GW_of (i := 847) (by decide +kernel) rfl, GW_of (i := 23) (by decide +kernel) rfl, ⟨by decide +kernel, by decide +kernel⟩, by decide +kernel⟩
def mX7_piste : MI := (yX7_piste, cX7_piste, 1, (some FieldType.int), [], { frames := 0, cells := 0, slots := 0, locals := 0 })
theorem kiX7_piste : KI mX7_piste 0 := ⟨rfl, GW_of (i := 831) (by decide +kernel) rfl, GW_of (i := 23) (by decide +kernel) rfl, ⟨by decide +kernel, by decide +kernel⟩, by decide +kernel⟩
def mX7_poolOf : MI := (yX7_poolOf, cX7_poolOf, 2, (some FieldType.int), [], { frames := 0, cells := 0, slots := 0, locals := 0 })
theorem kiX7_poolOf : KI mX7_poolOf 2 := ⟨rfl, GW_of (i := 295) (by decide +kernel) rfl, GW_of (i := 23) (by decide +kernel) rfl, ⟨by decide +kernel, by decide +kernel⟩, by decide +kernel⟩
def mX7_rankedAt : MI := (yX7_rankedAt, cX7_rankedAt, 2, (some FieldType.int), [], { frames := 6, cells := 1, slots := 6, locals := 91 })
theorem kiX7_rankedAt : KI mX7_rankedAt 1 := ⟨rfl, GW_of (i := 908) (by decide +kernel) rfl, GW_of (i := 23) (by decide +kernel) rfl, ⟨by decide +kernel, by decide +kernel⟩, by decide +kernel⟩
def mX7_right : MI := (yX7_right, cX7_right, 4, (some FieldType.int), [], { frames := 6, cells := 1, slots := 6, locals := 82 })
theorem kiX7_right : KI mX7_right 2 := ⟨rfl, GW_of (i := 647) (by decide +kernel) rfl, GW_of (i := 23) (by decide +kernel) rfl, ⟨by decide +kernel, by decide +kernel⟩, by decide +kernel⟩
def mX7_score : MI := (yX7_score, cX7_score, 4, (some FieldType.int), [], { frames := 6, cells := 1, slots := 6, locals := 82 })
theorem kiX7_score : KI mX7_score 2 := ⟨rfl, GW_of (i := 852) (by decide +kernel) rfl, GW_of (i := 23) (by decide +kernel) rfl, ⟨by decide +kernel, by decide +kernel⟩, by decide +kernel⟩
def mX7_scoreAnew : MI := (yX7_scoreAnew, cX7_scoreAnew, 4, (some FieldType.int), [], { frames := 6, cells := 1, slots := 6, locals := 91 })
theorem kiX7_scoreAnew : KI mX7_scoreAnew 2 := ⟨rfl, GW_of (i := 857) (by decide +kernel) rfl, GW_of (i := 23) (by decide +kernel) rfl, ⟨by decide +kernel, by decide +kernel⟩, by decide +kernel⟩
def mX7_size : MI := (yX7_size, cX7_size, 1, (some FieldType.int), [], { frames := 0, cells := 0, slots := 0, locals := 0 })
theorem kiX7_size : KI mX7_size 0 := ⟨rfl, GW_of (i := 839) (by decide +kernel) rfl, GW_of (i := 23) (by decide +kernel) rfl, ⟨by decide +kernel, by decide +kernel⟩, by decide +kernel⟩
def mX7_test : MI := (yX7_test, cX7_test, 6, (some FieldType.boolean), [], { frames := 6, cells := 1, slots := 6, locals := 132 })
theorem kiX7_test : KI mX7_test 3 := ⟨rfl, GW_of (i := 471) (by decide +kernel) rfl, GW_of (i := 23) (by decide +kernel) rfl, ⟨by decide +kernel, by decide +kernel⟩, by decide +kernel⟩
def mX7_touches : MI := (yX7_touches, cX7_touches, 5, (some FieldType.int), [], { frames := 6, cells := 1, slots := 6, locals := 82 })
theorem kiX7_touches : KI mX7_touches 2 := ⟨rfl, GW_of (i := 880) (by decide +kernel) rfl, GW_of (i := 23) (by decide +kernel) rfl, ⟨by decide +kernel, by decide +kernel⟩, by decide +kernel⟩
def mX7_weapon : MI := (yX7_weapon, cX7_weapon, 3, (some FieldType.int), [], { frames := 6, cells := 1, slots := 6, locals := 82 })
theorem kiX7_weapon : KI mX7_weapon 1 := ⟨rfl, GW_of (i := 439) (by decide +kernel) rfl, GW_of (i := 23) (by decide +kernel) rfl, ⟨by decide +kernel, by decide +kernel⟩, by decide +kernel⟩
def mX7_weaponAt : MI := (yX7_weaponAt, cX7_weaponAt, 2, (some (FieldType.object "PisteLine$Weapon")), [], { frames := 0, cells := 0, slots := 0, locals := 0 })
theorem kiX7_weaponAt : KI mX7_weaponAt 1 := ⟨rfl, GW_of (i := 364) (by decide +kernel) rfl, GW_of (i := 23) (by decide +kernel) rfl, ⟨by decide +kernel, by decide +kernel⟩, by decide +kernel⟩
def mX7_weaponOf : MI := (yX7_weaponOf, cX7_weaponOf, 2, (some FieldType.int), [], { frames := 6, cells := 1, slots := 6, locals := 82 })
theorem kiX7_weaponOf : KI mX7_weaponOf 1 := ⟨rfl, GW_of (i := 835) (by decide +kernel) rfl, GW_of (i := 23) (by decide +kernel) rfl, ⟨by decide +kernel, by decide +kernel⟩, by decide +kernel⟩
def mX7_winner : MI := (yX7_winner, cX7_winner, 3, (some FieldType.int), [], { frames := 6, cells := 1, slots := 6, locals := 82 })
theorem kiX7_winner : KI mX7_winner 1 := ⟨rfl, GW_of (i := 874) (by decide +kernel) rfl, GW_of (i := 23) (by decide +kernel) rfl, ⟨by decide +kernel, by decide +kernel⟩, by decide +kernel⟩
def mX7_won : MI := (yX7_won, cX7_won, 3, (some FieldType.int), [], { frames := 6, cells := 1, slots := 6, locals := 85 })
theorem kiX7_won : KI mX7_won 1 := ⟨rfl, GW_of (i := 899) (by decide +kernel) rfl, GW_of (i := 23) (by decide +kernel) rfl, ⟨by decide +kernel, by decide +kernel⟩, by decide +kernel⟩
theorem ca_X0_82 : VI RX0 82 mX0_winningSide 0 0 := ⟨kiX0_winningSide, GW_of (i := 385) (by decide +kernel) rfl, GW_of (i := 386) (by decide +kernel) rfl, GW_of (i := 387) (by decide +kernel) rfl, TX0, 8, rfl⟩
theorem ca_X0_41 : VI RX0 41 mX5_restart 1 5 := ⟨kiX5_restart, GW_of (i := 309) (by decide +kernel) rfl, GW_of (i := 310) (by decide +kernel) rfl, GW_of (i := 311) (by decide +kernel) rfl, TX5, 3, rfl⟩
theorem ca_X0_61 : VI RX0 61 mX0_phraseAt 1 0 := ⟨kiX0_phraseAt, GW_of (i := 487) (by decide +kernel) rfl, GW_of (i := 488) (by decide +kernel) rfl, GW_of (i := 489) (by decide +kernel) rfl, TX0, 8, rfl⟩
theorem ca_X0_72 : VI RX0 72 mX2_judge 0 2 := ⟨kiX2_judge, GW_of (i := 862) (by decide +kernel) rfl, GW_of (i := 612) (by decide +kernel) rfl, GW_of (i := 613) (by decide +kernel) rfl, TX2, 10, rfl⟩
theorem ca_X0_57 : VI RX0 57 mX2_withoutStruck 2 2 := ⟨kiX2_withoutStruck, GW_of (i := 495) (by decide +kernel) rfl, GW_of (i := 496) (by decide +kernel) rfl, GW_of (i := 497) (by decide +kernel) rfl, TX2, 10, rfl⟩
theorem ca_X0_69 : VI RX0 69 mX5_add 1 5 := ⟨kiX5_add, GW_of (i := 503) (by decide +kernel) rfl, GW_of (i := 504) (by decide +kernel) rfl, GW_of (i := 505) (by decide +kernel) rfl, TX5, 3, rfl⟩
theorem ca_X0_26 : IN RX0 26 mX5_init 0 "PisteLine" := ⟨kiX5_init, EW_of (i := 308) (by decide +kernel) rfl, GW_of (i := 122) (by decide +kernel) rfl, rfl⟩
theorem ca_X0_48 : VI RX0 48 mX0_recount 0 0 := ⟨kiX0_recount, GW_of (i := 639) (by decide +kernel) rfl, GW_of (i := 484) (by decide +kernel) rfl, GW_of (i := 485) (by decide +kernel) rfl, TX0, 8, rfl⟩
theorem ca_X0_65 : VI RX0 65 mX0_touchesLeft 1 0 := ⟨kiX0_touchesLeft, GW_of (i := 491) (by decide +kernel) rfl, GW_of (i := 492) (by decide +kernel) rfl, GW_of (i := 493) (by decide +kernel) rfl, TX0, 8, rfl⟩
theorem ca_X0_85 : VI RX0 85 mX0_fencerAt 1 0 := ⟨kiX0_fencerAt, GW_of (i := 534) (by decide +kernel) rfl, GW_of (i := 535) (by decide +kernel) rfl, GW_of (i := 536) (by decide +kernel) rfl, TX0, 8, rfl⟩
theorem ca_X0_76 : VI RX0 76 mX5_isAtGoal 0 5 := ⟨kiX5_isAtGoal, GW_of (i := 389) (by decide +kernel) rfl, GW_of (i := 390) (by decide +kernel) rfl, GW_of (i := 391) (by decide +kernel) rfl, TX5, 3, rfl⟩
theorem ca_X1_31 : VI RX1 31 mX1_difference 0 1 := ⟨kiX1_difference, GW_of (i := 817) (by decide +kernel) rfl, GW_of (i := 818) (by decide +kernel) rfl, GW_of (i := 819) (by decide +kernel) rfl, TX1, 5, rfl⟩
theorem ca_X2_72 : VI RX2 72 mX2_isALight 1 2 := ⟨kiX2_isALight, GW_of (i := 619) (by decide +kernel) rfl, GW_of (i := 621) (by decide +kernel) rfl, GW_of (i := 11) (by decide +kernel) rfl, TX2, 10, rfl⟩
theorem ca_X2_39 : VI RX2 39 mX2_isFull 0 2 := ⟨kiX2_isFull, GW_of (i := 672) (by decide +kernel) rfl, GW_of (i := 664) (by decide +kernel) rfl, GW_of (i := 665) (by decide +kernel) rfl, TX2, 10, rfl⟩
theorem ca_X2_53 : VI RX2 53 mX2_firstLight 0 2 := ⟨kiX2_firstLight, GW_of (i := 615) (by decide +kernel) rfl, GW_of (i := 617) (by decide +kernel) rfl, GW_of (i := 10) (by decide +kernel) rfl, TX2, 10, rfl⟩
theorem ca_X2_56 : VI RX2 56 mX2_otherLight 1 2 := ⟨kiX2_otherLight, GW_of (i := 623) (by decide +kernel) rfl, GW_of (i := 625) (by decide +kernel) rfl, GW_of (i := 12) (by decide +kernel) rfl, TX2, 10, rfl⟩
theorem ca_X2_60 : VI RX2 60 mX2_touchOf 1 2 := ⟨kiX2_touchOf, GW_of (i := 627) (by decide +kernel) rfl, GW_of (i := 629) (by decide +kernel) rfl, GW_of (i := 13) (by decide +kernel) rfl, TX2, 10, rfl⟩
theorem ca_X2_63 : VI RX2 63 mX2_rightAt 1 2 := ⟨kiX2_rightAt, GW_of (i := 631) (by decide +kernel) rfl, GW_of (i := 633) (by decide +kernel) rfl, GW_of (i := 14) (by decide +kernel) rfl, TX2, 10, rfl⟩
theorem ca_X2_46 : VI RX2 46 mX2_judge 0 2 := ⟨kiX2_judge, GW_of (i := 725) (by decide +kernel) rfl, GW_of (i := 612) (by decide +kernel) rfl, GW_of (i := 613) (by decide +kernel) rfl, TX2, 10, rfl⟩
theorem ca_X2_66 : VI RX2 66 mX6_isFalse 1 6 := ⟨kiX6_isFalse, GW_of (i := 499) (by decide +kernel) rfl, GW_of (i := 500) (by decide +kernel) rfl, GW_of (i := 501) (by decide +kernel) rfl, TX6, 4, rfl⟩
theorem ca_X3_34 : VI RX3 34 mX3_take 4 3 := ⟨kiX3_take, GW_of (i := 550) (by decide +kernel) rfl, GW_of (i := 400) (by decide +kernel) rfl, GW_of (i := 401) (by decide +kernel) rfl, TX3, 6, rfl⟩
theorem ca_X4_73 : VI RX4 73 mX0_forget 0 0 := ⟨kiX0_forget, GW_of (i := 542) (by decide +kernel) rfl, GW_of (i := 543) (by decide +kernel) rfl, GW_of (i := 544) (by decide +kernel) rfl, TX0, 8, rfl⟩
theorem ca_X4_82 : VI RX4 82 mX3_empty 0 3 := ⟨kiX3_empty, GW_of (i := 546) (by decide +kernel) rfl, GW_of (i := 547) (by decide +kernel) rfl, GW_of (i := 548) (by decide +kernel) rfl, TX3, 6, rfl⟩
theorem ca_X4_32 : II RX4 32 mX0_init 3 := ⟨kiX0_init, GW_of (i := 777) (by decide +kernel) rfl, GW_of (i := 302) (by decide +kernel) rfl, rfl⟩
theorem ca_X4_35 : VI RX4 35 mX4_laySeeds 0 4 := ⟨kiX4_laySeeds, GW_of (i := 778) (by decide +kernel) rfl, GW_of (i := 780) (by decide +kernel) rfl, GW_of (i := 17) (by decide +kernel) rfl, TX4, 5, rfl⟩
theorem ca_X4_38 : VI RX4 38 mX4_boutAt 1 4 := ⟨kiX4_boutAt, GW_of (i := 512) (by decide +kernel) rfl, GW_of (i := 358) (by decide +kernel) rfl, GW_of (i := 359) (by decide +kernel) rfl, TX4, 5, rfl⟩
theorem ca_X4_42 : VI RX4 42 mX0_recount 0 0 := ⟨kiX0_recount, GW_of (i := 513) (by decide +kernel) rfl, GW_of (i := 484) (by decide +kernel) rfl, GW_of (i := 485) (by decide +kernel) rfl, TX0, 8, rfl⟩
theorem ca_X4_28 : VI RX4 28 mX4_hasNode 1 4 := ⟨kiX4_hasNode, GW_of (i := 518) (by decide +kernel) rfl, GW_of (i := 519) (by decide +kernel) rfl, GW_of (i := 520) (by decide +kernel) rfl, TX4, 5, rfl⟩
theorem ca_X4_45 : VI RX4 45 mX4_winnerAt 1 4 := ⟨kiX4_winnerAt, GW_of (i := 522) (by decide +kernel) rfl, GW_of (i := 523) (by decide +kernel) rfl, GW_of (i := 524) (by decide +kernel) rfl, TX4, 5, rfl⟩
theorem ca_X4_55 : VI RX4 55 mX4_winnerNow 2 4 := ⟨kiX4_winnerNow, GW_of (i := 526) (by decide +kernel) rfl, GW_of (i := 528) (by decide +kernel) rfl, GW_of (i := 8) (by decide +kernel) rfl, TX4, 5, rfl⟩
theorem ca_X4_59 : VI RX4 59 mX4_drop 2 4 := ⟨kiX4_drop, GW_of (i := 538) (by decide +kernel) rfl, GW_of (i := 540) (by decide +kernel) rfl, GW_of (i := 9) (by decide +kernel) rfl, TX4, 5, rfl⟩
theorem ca_X4_63 : VI RX4 63 mX0_winningFencer 0 0 := ⟨kiX0_winningFencer, GW_of (i := 530) (by decide +kernel) rfl, GW_of (i := 531) (by decide +kernel) rfl, GW_of (i := 532) (by decide +kernel) rfl, TX0, 8, rfl⟩
theorem ca_X5_21 : VI RX5 21 mX5_isAtGoal 0 5 := ⟨kiX5_isAtGoal, GW_of (i := 507) (by decide +kernel) rfl, GW_of (i := 390) (by decide +kernel) rfl, GW_of (i := 391) (by decide +kernel) rfl, TX5, 3, rfl⟩
theorem ca_X7_346 : II RX7 346 mX0_init 3 := ⟨kiX0_init, GW_of (i := 301) (by decide +kernel) rfl, GW_of (i := 302) (by decide +kernel) rfl, rfl⟩
theorem ca_X7_120 : VI RX7 120 mX0_canBeFenced 0 0 := ⟨kiX0_canBeFenced, GW_of (i := 381) (by decide +kernel) rfl, GW_of (i := 382) (by decide +kernel) rfl, GW_of (i := 383) (by decide +kernel) rfl, TX0, 8, rfl⟩
theorem ca_X7_176 : II RX7 176 mX2_init 3 := ⟨kiX2_init, GW_of (i := 565) (by decide +kernel) rfl, GW_of (i := 566) (by decide +kernel) rfl, rfl⟩
theorem ca_X7_144 : SI RX7 144 mX7_isSide 1 := ⟨kiX7_isSide, GW_of (i := 651) (by decide +kernel) rfl, GW_of (i := 652) (by decide +kernel) rfl⟩
theorem ca_X7_198 : SI RX7 198 mX7_isSideOrNone 1 := ⟨kiX7_isSideOrNone, GW_of (i := 648) (by decide +kernel) rfl, GW_of (i := 649) (by decide +kernel) rfl⟩
theorem ca_X7_231 : VI RX7 231 mX0_phraseAt 1 0 := ⟨kiX0_phraseAt, GW_of (i := 715) (by decide +kernel) rfl, GW_of (i := 488) (by decide +kernel) rfl, GW_of (i := 489) (by decide +kernel) rfl, TX0, 8, rfl⟩
theorem ca_X7_235 : VI RX7 235 mX0_appealsLeft 1 0 := ⟨kiX0_appealsLeft, GW_of (i := 716) (by decide +kernel) rfl, GW_of (i := 717) (by decide +kernel) rfl, GW_of (i := 718) (by decide +kernel) rfl, TX0, 8, rfl⟩
theorem ca_X7_223 : VI RX7 223 mX0_touchesLeft 1 0 := ⟨kiX0_touchesLeft, GW_of (i := 640) (by decide +kernel) rfl, GW_of (i := 492) (by decide +kernel) rfl, GW_of (i := 493) (by decide +kernel) rfl, TX0, 8, rfl⟩
theorem ca_X7_240 : VI RX7 240 mX2_tellRight 1 2 := ⟨kiX2_tellRight, GW_of (i := 721) (by decide +kernel) rfl, GW_of (i := 722) (by decide +kernel) rfl, GW_of (i := 723) (by decide +kernel) rfl, TX2, 10, rfl⟩
theorem ca_X7_243 : VI RX7 243 mX0_useAppeal 1 0 := ⟨kiX0_useAppeal, GW_of (i := 726) (by decide +kernel) rfl, GW_of (i := 727) (by decide +kernel) rfl, GW_of (i := 728) (by decide +kernel) rfl, TX0, 8, rfl⟩
theorem ca_X7_246 : VI RX7 246 mX0_recount 0 0 := ⟨kiX0_recount, GW_of (i := 483) (by decide +kernel) rfl, GW_of (i := 484) (by decide +kernel) rfl, GW_of (i := 485) (by decide +kernel) rfl, TX0, 8, rfl⟩
theorem ca_X7_219 : VI RX7 219 mX4_settle 1 4 := ⟨kiX4_settle, GW_of (i := 514) (by decide +kernel) rfl, GW_of (i := 515) (by decide +kernel) rfl, GW_of (i := 516) (by decide +kernel) rfl, TX4, 5, rfl⟩
theorem ca_X7_114 : VI RX7 114 mX7_boutAt 1 7 := ⟨kiX7_boutAt, GW_of (i := 353) (by decide +kernel) rfl, GW_of (i := 355) (by decide +kernel) rfl, GW_of (i := 4) (by decide +kernel) rfl, TX7, 10, rfl⟩
theorem ca_X7_87 : VI RX7 87 mX7_weaponAt 1 7 := ⟨kiX7_weaponAt, GW_of (i := 361) (by decide +kernel) rfl, GW_of (i := 363) (by decide +kernel) rfl, GW_of (i := 5) (by decide +kernel) rfl, TX7, 10, rfl⟩
theorem ca_X7_128 : VI RX7 128 mX6_isMarkedFor 1 6 := ⟨kiX6_isMarkedFor, GW_of (i := 394) (by decide +kernel) rfl, GW_of (i := 395) (by decide +kernel) rfl, GW_of (i := 396) (by decide +kernel) rfl, TX6, 4, rfl⟩
theorem ca_X7_137 : VI RX7 137 mX3_take 4 3 := ⟨kiX3_take, GW_of (i := 399) (by decide +kernel) rfl, GW_of (i := 400) (by decide +kernel) rfl, GW_of (i := 401) (by decide +kernel) rfl, TX3, 6, rfl⟩
theorem ca_X7_334 : VI RX7 334 mX4_boutAt 1 4 := ⟨kiX4_boutAt, GW_of (i := 357) (by decide +kernel) rfl, GW_of (i := 358) (by decide +kernel) rfl, GW_of (i := 359) (by decide +kernel) rfl, TX4, 5, rfl⟩
theorem ca_X7_155 : VI RX7 155 mX0_fencerAt 1 0 := ⟨kiX0_fencerAt, GW_of (i := 739) (by decide +kernel) rfl, GW_of (i := 535) (by decide +kernel) rfl, GW_of (i := 536) (by decide +kernel) rfl, TX0, 8, rfl⟩
theorem ca_X7_160 : VI RX7 160 mX3_weaponNumber 1 3 := ⟨kiX3_weaponNumber, GW_of (i := 741) (by decide +kernel) rfl, GW_of (i := 742) (by decide +kernel) rfl, GW_of (i := 743) (by decide +kernel) rfl, TX3, 6, rfl⟩
theorem ca_X7_163 : VI RX7 163 mX3_arm 2 3 := ⟨kiX3_arm, GW_of (i := 745) (by decide +kernel) rfl, GW_of (i := 746) (by decide +kernel) rfl, GW_of (i := 747) (by decide +kernel) rfl, TX3, 6, rfl⟩
theorem ca_X7_181 : VI RX7 181 mX7_isTooEarly 1 7 := ⟨kiX7_isTooEarly, GW_of (i := 654) (by decide +kernel) rfl, GW_of (i := 656) (by decide +kernel) rfl, GW_of (i := 15) (by decide +kernel) rfl, TX7, 10, rfl⟩
theorem ca_X7_186 : VI RX7 186 mX2_isFull 0 2 := ⟨kiX2_isFull, GW_of (i := 663) (by decide +kernel) rfl, GW_of (i := 664) (by decide +kernel) rfl, GW_of (i := 665) (by decide +kernel) rfl, TX2, 10, rfl⟩
theorem ca_X7_191 : VI RX7 191 mX2_hear 3 2 := ⟨kiX2_hear, GW_of (i := 668) (by decide +kernel) rfl, GW_of (i := 669) (by decide +kernel) rfl, GW_of (i := 670) (by decide +kernel) rfl, TX2, 10, rfl⟩
theorem ca_X7_70 : VI RX7 70 mX7_fencerAt 1 7 := ⟨kiX7_fencerAt, GW_of (i := 440) (by decide +kernel) rfl, GW_of (i := 442) (by decide +kernel) rfl, GW_of (i := 6) (by decide +kernel) rfl, TX7, 10, rfl⟩
theorem ca_X7_352 : VI RX7 352 mX1_clear 0 1 := ⟨kiX1_clear, GW_of (i := 786) (by decide +kernel) rfl, GW_of (i := 787) (by decide +kernel) rfl, GW_of (i := 788) (by decide +kernel) rfl, TX1, 5, rfl⟩
theorem ca_X7_349 : VI RX7 349 mX0_winningSide 0 0 := ⟨kiX0_winningSide, GW_of (i := 769) (by decide +kernel) rfl, GW_of (i := 386) (by decide +kernel) rfl, GW_of (i := 387) (by decide +kernel) rfl, TX0, 8, rfl⟩
theorem ca_X7_355 : VI RX7 355 mX7_countSide 2 7 := ⟨kiX7_countSide, GW_of (i := 790) (by decide +kernel) rfl, GW_of (i := 792) (by decide +kernel) rfl, GW_of (i := 19) (by decide +kernel) rfl, TX7, 10, rfl⟩
theorem ca_X7_257 : VI RX7 257 mX5_of 1 5 := ⟨kiX5_of, GW_of (i := 794) (by decide +kernel) rfl, GW_of (i := 795) (by decide +kernel) rfl, GW_of (i := 796) (by decide +kernel) rfl, TX5, 3, rfl⟩
theorem ca_X7_359 : VI RX7 359 mX1_add 3 1 := ⟨kiX1_add, GW_of (i := 798) (by decide +kernel) rfl, GW_of (i := 799) (by decide +kernel) rfl, GW_of (i := 800) (by decide +kernel) rfl, TX1, 5, rfl⟩
theorem ca_X7_339 : SI RX7 339 mX7_poolOf 2 := ⟨kiX7_poolOf, GW_of (i := 293) (by decide +kernel) rfl, GW_of (i := 294) (by decide +kernel) rfl⟩
theorem ca_X7_343 : VI RX7 343 mX7_addPoolBout 2 7 := ⟨kiX7_addPoolBout, GW_of (i := 296) (by decide +kernel) rfl, GW_of (i := 298) (by decide +kernel) rfl, GW_of (i := 3) (by decide +kernel) rfl, TX7, 10, rfl⟩
theorem ca_X7_56 : VI RX7 56 mX7_arePoolsDrawn 0 7 := ⟨kiX7_arePoolsDrawn, GW_of (i := 173) (by decide +kernel) rfl, GW_of (i := 175) (by decide +kernel) rfl, GW_of (i := 0) (by decide +kernel) rfl, TX7, 10, rfl⟩
theorem ca_X7_281 : VI RX7 281 mX7_drawPool 2 7 := ⟨kiX7_drawPool, GW_of (i := 289) (by decide +kernel) rfl, GW_of (i := 291) (by decide +kernel) rfl, GW_of (i := 2) (by decide +kernel) rfl, TX7, 10, rfl⟩
theorem ca_X7_301 : VI RX7 301 mX7_isAPoolBoutOpen 0 7 := ⟨kiX7_isAPoolBoutOpen, GW_of (i := 765) (by decide +kernel) rfl, GW_of (i := 767) (by decide +kernel) rfl, GW_of (i := 16) (by decide +kernel) rfl, TX7, 10, rfl⟩
theorem ca_X7_306 : VI RX7 306 mX4_isDrawn 0 4 := ⟨kiX4_isDrawn, GW_of (i := 479) (by decide +kernel) rfl, GW_of (i := 480) (by decide +kernel) rfl, GW_of (i := 481) (by decide +kernel) rfl, TX4, 5, rfl⟩
theorem ca_X7_311 : VI RX7 311 mX3_empty 0 3 := ⟨kiX3_empty, GW_of (i := 772) (by decide +kernel) rfl, GW_of (i := 547) (by decide +kernel) rfl, GW_of (i := 548) (by decide +kernel) rfl, TX3, 6, rfl⟩
theorem ca_X7_314 : VI RX7 314 mX4_lay 1 4 := ⟨kiX4_lay, GW_of (i := 773) (by decide +kernel) rfl, GW_of (i := 774) (by decide +kernel) rfl, GW_of (i := 775) (by decide +kernel) rfl, TX4, 5, rfl⟩
theorem ca_X7_287 : VI RX7 287 mX7_countPools 0 7 := ⟨kiX7_countPools, GW_of (i := 782) (by decide +kernel) rfl, GW_of (i := 784) (by decide +kernel) rfl, GW_of (i := 18) (by decide +kernel) rfl, TX7, 10, rfl⟩
theorem ca_X7_298 : VI RX7 298 mX7_fencerInPlace 1 7 := ⟨kiX7_fencerInPlace, GW_of (i := 802) (by decide +kernel) rfl, GW_of (i := 804) (by decide +kernel) rfl, GW_of (i := 20) (by decide +kernel) rfl, TX7, 10, rfl⟩
theorem ca_X7_317 : VI RX7 317 mX4_seat 2 4 := ⟨kiX4_seat, GW_of (i := 821) (by decide +kernel) rfl, GW_of (i := 822) (by decide +kernel) rfl, GW_of (i := 823) (by decide +kernel) rfl, TX4, 5, rfl⟩
theorem ca_X7_338 : VI RX7 338 mX4_recount 0 4 := ⟨kiX4_recount, GW_of (i := 508) (by decide +kernel) rfl, GW_of (i := 509) (by decide +kernel) rfl, GW_of (i := 510) (by decide +kernel) rfl, TX4, 5, rfl⟩
theorem ca_X7_67 : II RX7 67 mX1_init 1 := ⟨kiX1_init, GW_of (i := 247) (by decide +kernel) rfl, GW_of (i := 248) (by decide +kernel) rfl, rfl⟩
theorem ca_X7_363 : VI RX7 363 mX7_fencersAhead 1 7 := ⟨kiX7_fencersAhead, GW_of (i := 806) (by decide +kernel) rfl, GW_of (i := 808) (by decide +kernel) rfl, GW_of (i := 21) (by decide +kernel) rfl, TX7, 10, rfl⟩
theorem ca_X7_367 : VI RX7 367 mX1_isAheadOf 1 1 := ⟨kiX1_isAheadOf, GW_of (i := 810) (by decide +kernel) rfl, GW_of (i := 811) (by decide +kernel) rfl, GW_of (i := 812) (by decide +kernel) rfl, TX1, 5, rfl⟩
theorem ca_X7_205 : VI RX7 205 mX2_judge 0 2 := ⟨kiX2_judge, GW_of (i := 611) (by decide +kernel) rfl, GW_of (i := 612) (by decide +kernel) rfl, GW_of (i := 613) (by decide +kernel) rfl, TX2, 10, rfl⟩
theorem ca_X7_212 : VI RX7 212 mX0_keep 1 0 := ⟨kiX0_keep, GW_of (i := 635) (by decide +kernel) rfl, GW_of (i := 636) (by decide +kernel) rfl, GW_of (i := 637) (by decide +kernel) rfl, TX0, 8, rfl⟩
theorem ca_X7_293 : VI RX7 293 mX1_difference 0 1 := ⟨kiX1_difference, GW_of (i := 904) (by decide +kernel) rfl, GW_of (i := 818) (by decide +kernel) rfl, GW_of (i := 819) (by decide +kernel) rfl, TX1, 5, rfl⟩
theorem ca_X7_29 : IN RX7 29 mX3_init 0 "PisteLine" := ⟨kiX3_init, EW_of (i := 63) (by decide +kernel) rfl, GW_of (i := 64) (by decide +kernel) rfl, rfl⟩
theorem ca_X7_36 : IN RX7 36 mX4_init 0 "PisteLine" := ⟨kiX4_init, EW_of (i := 95) (by decide +kernel) rfl, GW_of (i := 96) (by decide +kernel) rfl, rfl⟩
theorem ca_X7_43 : IN RX7 43 mX5_init 0 "PisteLine" := ⟨kiX5_init, EW_of (i := 121) (by decide +kernel) rfl, GW_of (i := 122) (by decide +kernel) rfl, rfl⟩
theorem ca_X7_331 : VI RX7 331 mX2_latestTime 0 2 := ⟨kiX2_latestTime, GW_of (i := 658) (by decide +kernel) rfl, GW_of (i := 659) (by decide +kernel) rfl, GW_of (i := 660) (by decide +kernel) rfl, TX2, 10, rfl⟩
theorem ca_X7_323 : VI RX7 323 mX4_hasNode 1 4 := ⟨kiX4_hasNode, GW_of (i := 886) (by decide +kernel) rfl, GW_of (i := 519) (by decide +kernel) rfl, GW_of (i := 520) (by decide +kernel) rfl, TX4, 5, rfl⟩
theorem ca_X7_272 : VI RX7 272 mX4_winnerAt 1 4 := ⟨kiX4_winnerAt, GW_of (i := 876) (by decide +kernel) rfl, GW_of (i := 523) (by decide +kernel) rfl, GW_of (i := 524) (by decide +kernel) rfl, TX4, 5, rfl⟩
theorem ca_X7_260 : VI RX7 260 mX0_countAnew 1 0 := ⟨kiX0_countAnew, GW_of (i := 858) (by decide +kernel) rfl, GW_of (i := 859) (by decide +kernel) rfl, GW_of (i := 860) (by decide +kernel) rfl, TX0, 8, rfl⟩
theorem ca_X7_107 : VI RX7 107 mX7_fail 1 7 := ⟨kiX7_fail, GW_of (i := 475) (by decide +kernel) rfl, GW_of (i := 477) (by decide +kernel) rfl, GW_of (i := 7) (by decide +kernel) rfl, TX7, 10, rfl⟩
theorem ca_X7_84 : II RX7 84 mX6_init 2 := ⟨kiX6_init, GW_of (i := 447) (by decide +kernel) rfl, GW_of (i := 448) (by decide +kernel) rfl, rfl⟩
theorem ca_X7_269 : VI RX7 269 mX0_winningFencer 0 0 := ⟨kiX0_winningFencer, GW_of (i := 875) (by decide +kernel) rfl, GW_of (i := 531) (by decide +kernel) rfl, GW_of (i := 532) (by decide +kernel) rfl, TX0, 8, rfl⟩
theorem ob_X0_3 : Cond.methodLink RX0 3 Lib.objectInit ∈ GW := GW_of (i := 304) (by decide +kernel) rfl
theorem ob_X1_1 : Cond.methodLink RX1 1 Lib.objectInit ∈ GW := GW_of (i := 250) (by decide +kernel) rfl
theorem ob_X2_3 : Cond.methodLink RX2 3 Lib.objectInit ∈ GW := GW_of (i := 568) (by decide +kernel) rfl
theorem ob_X3_3 : Cond.methodLink RX3 3 Lib.objectInit ∈ GW := GW_of (i := 66) (by decide +kernel) rfl
theorem ob_X4_3 : Cond.methodLink RX4 3 Lib.objectInit ∈ GW := GW_of (i := 98) (by decide +kernel) rfl
theorem ob_X5_3 : Cond.methodLink RX5 3 Lib.objectInit ∈ GW := GW_of (i := 124) (by decide +kernel) rfl
theorem ob_X6_3 : Cond.methodLink RX6 3 Lib.objectInit ∈ GW := GW_of (i := 450) (by decide +kernel) rfl
theorem ob_X7_3 : Cond.methodLink RX7 3 Lib.objectInit ∈ GW := GW_of (i := 52) (by decide +kernel) rfl
theorem ob_i : Cond.instanceMethod Lib.objectInit ∈ GW := GW_of (i := 53) (by decide +kernel) rfl
theorem ob_c : Cond.code Lib.objectInit ⟨#[0xb1]⟩ 1 none ∈ GW := GW_of (i := 54) (by decide +kernel) rfl
theorem th_0_64 : (vx_atS RX7 64 (exN 0) exS).all (fun w => goodWord w || mvWord w) = true ∧ (vx_atS RX7 64 (exN 0) exS).all (fun w => decide (w ∈ lw_tbl)) = true := ⟨by decide +kernel, by decide +kernel⟩
theorem ti_60_153_64 : TI 60 153 64 0 := ⟨⟨_, List.mem_of_getElem? (i := 10) rfl⟩, cl_X7_60, GW_of (i := 30) (by decide +kernel) rfl, by decide +kernel, th_0_64.1, fun w hw => of_decide_eq_true (List.all_eq_true.mp th_0_64.2 w hw)⟩
theorem ti_60_172_64 : TI 60 172 64 0 := ⟨⟨_, List.mem_of_getElem? (i := 12) rfl⟩, cl_X7_60, GW_of (i := 30) (by decide +kernel) rfl, by decide +kernel, th_0_64.1, fun w hw => of_decide_eq_true (List.all_eq_true.mp th_0_64.2 w hw)⟩
theorem th_2_78 : (vx_atS RX7 78 (exN 2) exS).all (fun w => goodWord w || mvWord w) = true ∧ (vx_atS RX7 78 (exN 2) exS).all (fun w => decide (w ∈ lw_tbl)) = true := ⟨by decide +kernel, by decide +kernel⟩
theorem ti_74_179_78 : TI 74 179 78 2 := ⟨⟨_, List.mem_of_getElem? (i := 13) rfl⟩, cl_X7_74, GW_of (i := 34) (by decide +kernel) rfl, by decide +kernel, th_2_78.1, fun w hw => of_decide_eq_true (List.all_eq_true.mp th_2_78.2 w hw)⟩
theorem th_1_97 : (vx_atS RX7 97 (exN 1) exS).all (fun w => goodWord w || mvWord w) = true ∧ (vx_atS RX7 97 (exN 1) exS).all (fun w => decide (w ∈ lw_tbl)) = true := ⟨by decide +kernel, by decide +kernel⟩
theorem ti_93_227_97 : TI 93 227 97 1 := ⟨⟨_, List.mem_of_getElem? (i := 18) rfl⟩, cl_X7_93, GW_of (i := 32) (by decide +kernel) rfl, by decide +kernel, th_1_97.1, fun w hw => of_decide_eq_true (List.all_eq_true.mp th_1_97.2 w hw)⟩
theorem ti_60_229_64 : TI 60 229 64 0 := ⟨⟨_, List.mem_of_getElem? (i := 19) rfl⟩, cl_X7_60, GW_of (i := 30) (by decide +kernel) rfl, by decide +kernel, th_0_64.1, fun w hw => of_decide_eq_true (List.all_eq_true.mp th_0_64.2 w hw)⟩
theorem ti_60_238_64 : TI 60 238 64 0 := ⟨⟨_, List.mem_of_getElem? (i := 20) rfl⟩, cl_X7_60, GW_of (i := 30) (by decide +kernel) rfl, by decide +kernel, th_0_64.1, fun w hw => of_decide_eq_true (List.all_eq_true.mp th_0_64.2 w hw)⟩
theorem ti_74_252_78 : TI 74 252 78 2 := ⟨⟨_, List.mem_of_getElem? (i := 21) rfl⟩, cl_X7_74, GW_of (i := 34) (by decide +kernel) rfl, by decide +kernel, th_2_78.1, fun w hw => of_decide_eq_true (List.all_eq_true.mp th_2_78.2 w hw)⟩
theorem ti_74_118_78 : TI 74 118 78 2 := ⟨⟨_, List.mem_of_getElem? (i := 6) rfl⟩, cl_X7_74, GW_of (i := 34) (by decide +kernel) rfl, by decide +kernel, th_2_78.1, fun w hw => of_decide_eq_true (List.all_eq_true.mp th_2_78.2 w hw)⟩
theorem ti_60_123_64 : TI 60 123 64 0 := ⟨⟨_, List.mem_of_getElem? (i := 7) rfl⟩, cl_X7_60, GW_of (i := 30) (by decide +kernel) rfl, by decide +kernel, th_0_64.1, fun w hw => of_decide_eq_true (List.all_eq_true.mp th_0_64.2 w hw)⟩
theorem ti_60_135_64 : TI 60 135 64 0 := ⟨⟨_, List.mem_of_getElem? (i := 8) rfl⟩, cl_X7_60, GW_of (i := 30) (by decide +kernel) rfl, by decide +kernel, th_0_64.1, fun w hw => of_decide_eq_true (List.all_eq_true.mp th_0_64.2 w hw)⟩
theorem ti_74_147_78 : TI 74 147 78 2 := ⟨⟨_, List.mem_of_getElem? (i := 9) rfl⟩, cl_X7_74, GW_of (i := 34) (by decide +kernel) rfl, by decide +kernel, th_2_78.1, fun w hw => of_decide_eq_true (List.all_eq_true.mp th_2_78.2 w hw)⟩
theorem ti_60_158_64 : TI 60 158 64 0 := ⟨⟨_, List.mem_of_getElem? (i := 11) rfl⟩, cl_X7_60, GW_of (i := 30) (by decide +kernel) rfl, by decide +kernel, th_0_64.1, fun w hw => of_decide_eq_true (List.all_eq_true.mp th_0_64.2 w hw)⟩
theorem ti_93_184_97 : TI 93 184 97 1 := ⟨⟨_, List.mem_of_getElem? (i := 14) rfl⟩, cl_X7_93, GW_of (i := 32) (by decide +kernel) rfl, by decide +kernel, th_1_97.1, fun w hw => of_decide_eq_true (List.all_eq_true.mp th_1_97.2 w hw)⟩
theorem ti_60_189_64 : TI 60 189 64 0 := ⟨⟨_, List.mem_of_getElem? (i := 15) rfl⟩, cl_X7_60, GW_of (i := 30) (by decide +kernel) rfl, by decide +kernel, th_0_64.1, fun w hw => of_decide_eq_true (List.all_eq_true.mp th_0_64.2 w hw)⟩
theorem ti_93_277_97 : TI 93 277 97 1 := ⟨⟨_, List.mem_of_getElem? (i := 24) rfl⟩, cl_X7_93, GW_of (i := 32) (by decide +kernel) rfl, by decide +kernel, th_1_97.1, fun w hw => of_decide_eq_true (List.all_eq_true.mp th_1_97.2 w hw)⟩
theorem ti_60_279_64 : TI 60 279 64 0 := ⟨⟨_, List.mem_of_getElem? (i := 25) rfl⟩, cl_X7_60, GW_of (i := 30) (by decide +kernel) rfl, by decide +kernel, th_0_64.1, fun w hw => of_decide_eq_true (List.all_eq_true.mp th_0_64.2 w hw)⟩
theorem ti_60_304_64 : TI 60 304 64 0 := ⟨⟨_, List.mem_of_getElem? (i := 27) rfl⟩, cl_X7_60, GW_of (i := 30) (by decide +kernel) rfl, by decide +kernel, th_0_64.1, fun w hw => of_decide_eq_true (List.all_eq_true.mp th_0_64.2 w hw)⟩
theorem ti_60_309_64 : TI 60 309 64 0 := ⟨⟨_, List.mem_of_getElem? (i := 28) rfl⟩, cl_X7_60, GW_of (i := 30) (by decide +kernel) rfl, by decide +kernel, th_0_64.1, fun w hw => of_decide_eq_true (List.all_eq_true.mp th_0_64.2 w hw)⟩
theorem ti_60_62_64 : TI 60 62 64 0 := ⟨⟨_, List.mem_of_getElem? (i := 0) rfl⟩, cl_X7_60, GW_of (i := 30) (by decide +kernel) rfl, by decide +kernel, th_0_64.1, fun w hw => of_decide_eq_true (List.all_eq_true.mp th_0_64.2 w hw)⟩
theorem ti_60_203_64 : TI 60 203 64 0 := ⟨⟨_, List.mem_of_getElem? (i := 17) rfl⟩, cl_X7_60, GW_of (i := 30) (by decide +kernel) rfl, by decide +kernel, th_0_64.1, fun w hw => of_decide_eq_true (List.all_eq_true.mp th_0_64.2 w hw)⟩
theorem ti_74_76_78 : TI 74 76 78 2 := ⟨⟨_, List.mem_of_getElem? (i := 1) rfl⟩, cl_X7_74, GW_of (i := 34) (by decide +kernel) rfl, by decide +kernel, th_2_78.1, fun w hw => of_decide_eq_true (List.all_eq_true.mp th_2_78.2 w hw)⟩
theorem ti_74_91_78 : TI 74 91 78 2 := ⟨⟨_, List.mem_of_getElem? (i := 3) rfl⟩, cl_X7_74, GW_of (i := 34) (by decide +kernel) rfl, by decide +kernel, th_2_78.1, fun w hw => of_decide_eq_true (List.all_eq_true.mp th_2_78.2 w hw)⟩
theorem ti_74_326_78 : TI 74 326 78 2 := ⟨⟨_, List.mem_of_getElem? (i := 29) rfl⟩, cl_X7_74, GW_of (i := 34) (by decide +kernel) rfl, by decide +kernel, th_2_78.1, fun w hw => of_decide_eq_true (List.all_eq_true.mp th_2_78.2 w hw)⟩
theorem ti_74_264_78 : TI 74 264 78 2 := ⟨⟨_, List.mem_of_getElem? (i := 22) rfl⟩, cl_X7_74, GW_of (i := 34) (by decide +kernel) rfl, by decide +kernel, th_2_78.1, fun w hw => of_decide_eq_true (List.all_eq_true.mp th_2_78.2 w hw)⟩
theorem ti_74_296_78 : TI 74 296 78 2 := ⟨⟨_, List.mem_of_getElem? (i := 26) rfl⟩, cl_X7_74, GW_of (i := 34) (by decide +kernel) rfl, by decide +kernel, th_2_78.1, fun w hw => of_decide_eq_true (List.all_eq_true.mp th_2_78.2 w hw)⟩
theorem ti_93_201_97 : TI 93 201 97 1 := ⟨⟨_, List.mem_of_getElem? (i := 16) rfl⟩, cl_X7_93, GW_of (i := 32) (by decide +kernel) rfl, by decide +kernel, th_1_97.1, fun w hw => of_decide_eq_true (List.all_eq_true.mp th_1_97.2 w hw)⟩
theorem ti_93_95_97 : TI 93 95 97 1 := ⟨⟨_, List.mem_of_getElem? (i := 4) rfl⟩, cl_X7_93, GW_of (i := 32) (by decide +kernel) rfl, by decide +kernel, th_1_97.1, fun w hw => of_decide_eq_true (List.all_eq_true.mp th_1_97.2 w hw)⟩
theorem ti_60_105_64 : TI 60 105 64 0 := ⟨⟨_, List.mem_of_getElem? (i := 5) rfl⟩, cl_X7_60, GW_of (i := 30) (by decide +kernel) rfl, by decide +kernel, th_0_64.1, fun w hw => of_decide_eq_true (List.all_eq_true.mp th_0_64.2 w hw)⟩
theorem ti_74_275_78 : TI 74 275 78 2 := ⟨⟨_, List.mem_of_getElem? (i := 23) rfl⟩, cl_X7_74, GW_of (i := 34) (by decide +kernel) rfl, by decide +kernel, th_2_78.1, fun w hw => of_decide_eq_true (List.all_eq_true.mp th_2_78.2 w hw)⟩
theorem ti_60_82_64 : TI 60 82 64 0 := ⟨⟨_, List.mem_of_getElem? (i := 2) rfl⟩, cl_X7_60, GW_of (i := 30) (by decide +kernel) rfl, by decide +kernel, th_0_64.1, fun w hw => of_decide_eq_true (List.all_eq_true.mp th_0_64.2 w hw)⟩
