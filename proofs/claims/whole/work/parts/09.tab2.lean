/-! METHODS AND CALLS: by program (gentab.py) -/
def mL_allez : MI := (yL_allez, cL_allez, 3, (some FieldType.int), [(0, 8, 11, 13)], { frames := 7, cells := 4, slots := 34, locals := 105 })
def mL_appeal : MI := (yL_appeal, cL_appeal, 5, (some FieldType.int), [(0, 10, 13, 19), (0, 10, 17, 25), (0, 10, 21, 13)], { frames := 7, cells := 1, slots := 6, locals := 134 })
def mL_appeals : MI := (yL_appeals, cL_appeals, 5, (some FieldType.int), [(0, 10, 13, 19)], { frames := 7, cells := 1, slots := 6, locals := 105 })
def mL_begin : MI := (yL_begin, cL_begin, 6, (some FieldType.int), [(0, 12, 15, 19), (0, 12, 19, 13)], { frames := 7, cells := 1, slots := 6, locals := 108 })
def mL_cell : MI := (yL_cell, cL_cell, 2, (some FieldType.int), [], { frames := 0, cells := 0, slots := 0, locals := 0 })
theorem kiL_cell : KI mL_cell 2 := ⟨rfl, GW_of (i := 209) (by decide +kernel) rfl, GW_of (i := 44) (by decide +kernel) rfl, ⟨by decide +kernel, by decide +kernel⟩, by decide +kernel⟩
def mL_change : MI := (yL_change, cL_change, 5, (some FieldType.int), [(0, 10, 13, 19), (0, 10, 17, 13)], { frames := 7, cells := 1, slots := 6, locals := 107 })
def mL_contact : MI := (yL_contact, cL_contact, 6, (some FieldType.int), [(0, 12, 15, 19), (0, 12, 19, 25), (0, 12, 23, 13)], { frames := 7, cells := 1, slots := 6, locals := 106 })
def mL_drawPools : MI := (yL_drawPools, cL_drawPools, 4, (some FieldType.int), [(0, 9, 12, 25), (0, 9, 15, 13)], { frames := 7, cells := 792, slots := 6072, locals := 123 })
def mL_drawTableau : MI := (yL_drawTableau, cL_drawTableau, 3, (some FieldType.int), [(0, 8, 11, 13)], { frames := 7, cells := 45, slots := 345, locals := 129 })
def mL_fencer : MI := (yL_fencer, cL_fencer, 3, (some FieldType.int), [(0, 8, 11, 13)], { frames := 7, cells := 1, slots := 6, locals := 103 })
def mL_fencerOf : MI := (yL_fencerOf, cL_fencerOf, 5, (some FieldType.int), [(0, 10, 13, 19)], { frames := 7, cells := 1, slots := 6, locals := 105 })
def mL_halt : MI := (yL_halt, cL_halt, 3, (some FieldType.int), [(0, 8, 11, 13)], { frames := 7, cells := 1, slots := 6, locals := 130 })
def mL_index : MI := (yL_index, cL_index, 4, (some FieldType.int), [(0, 9, 12, 19)], { frames := 7, cells := 1, slots := 6, locals := 107 })
def mL_law : MI := (yL_law, cL_law, 7, ret, [], room_1)
def mL_mark : MI := (yL_mark, cL_mark, 4, (some FieldType.int), [(0, 9, 12, 19)], { frames := 7, cells := 1, slots := 6, locals := 104 })
def mL_nodeWinner : MI := (yL_nodeWinner, cL_nodeWinner, 4, (some FieldType.int), [(0, 9, 12, 19)], { frames := 7, cells := 1, slots := 6, locals := 103 })
def mL_owner : MI := (yL_owner, cL_owner, 4, (some FieldType.int), [(0, 9, 12, 19)], { frames := 7, cells := 1, slots := 6, locals := 104 })
def mL_phrases : MI := (yL_phrases, cL_phrases, 4, (some FieldType.int), [(0, 9, 12, 19)], { frames := 7, cells := 1, slots := 6, locals := 104 })
def mL_rankedAt : MI := (yL_rankedAt, cL_rankedAt, 4, (some FieldType.int), [(0, 9, 12, 19)], { frames := 7, cells := 1, slots := 6, locals := 112 })
def mL_right : MI := (yL_right, cL_right, 5, (some FieldType.int), [(0, 10, 13, 25), (0, 10, 17, 13)], { frames := 7, cells := 1, slots := 6, locals := 105 })
def mL_score : MI := (yL_score, cL_score, 5, (some FieldType.int), [(0, 10, 13, 19)], { frames := 7, cells := 1, slots := 6, locals := 105 })
def mL_scoreAnew : MI := (yL_scoreAnew, cL_scoreAnew, 5, (some FieldType.int), [(0, 10, 13, 19)], { frames := 7, cells := 1, slots := 6, locals := 114 })
def mL_test : MI := (yL_test, cL_test, 6, (some FieldType.int), [(0, 19, 22, 19), (0, 19, 26, 25), (0, 19, 30, 13)], { frames := 7, cells := 1, slots := 6, locals := 157 })
def mL_touches : MI := (yL_touches, cL_touches, 5, (some FieldType.int), [(0, 10, 13, 19)], { frames := 7, cells := 1, slots := 6, locals := 106 })
def mL_weapon : MI := (yL_weapon, cL_weapon, 4, (some FieldType.int), [(0, 9, 12, 19), (0, 9, 15, 13)], { frames := 7, cells := 1, slots := 6, locals := 104 })
def mL_weaponOf : MI := (yL_weaponOf, cL_weaponOf, 4, (some FieldType.int), [(0, 9, 12, 19)], { frames := 7, cells := 1, slots := 6, locals := 103 })
def mL_winner : MI := (yL_winner, cL_winner, 4, (some FieldType.int), [(0, 9, 12, 19)], { frames := 7, cells := 1, slots := 6, locals := 104 })
def mL_won : MI := (yL_won, cL_won, 4, (some FieldType.int), [(0, 9, 12, 19)], { frames := 7, cells := 1, slots := 6, locals := 107 })
def mX0_appealsLeft : MI := (yX0_appealsLeft, cX0_appealsLeft, 2, (some FieldType.int), [], { frames := 0, cells := 0, slots := 0, locals := 0 })
theorem kiX0_appealsLeft : KI mX0_appealsLeft 1 := ⟨rfl, GW_of (i := 684) (by decide +kernel) rfl, GW_of (i := 59) (by decide +kernel) rfl, ⟨by decide +kernel, by decide +kernel⟩, by decide +kernel⟩
def mX0_canBeFenced : MI := (yX0_canBeFenced, cX0_canBeFenced, 1, (some FieldType.boolean), [], { frames := 2, cells := 0, slots := 0, locals := 40 })
theorem kiX0_canBeFenced : KI mX0_canBeFenced 0 := ⟨rfl, GW_of (i := 517) (by decide +kernel) rfl, GW_of (i := 59) (by decide +kernel) rfl, ⟨by decide +kernel, by decide +kernel⟩, by decide +kernel⟩
def mX0_countAnew : MI := (yX0_countAnew, cX0_countAnew, 4, none, [], { frames := 3, cells := 0, slots := 0, locals := 68 })
theorem kiX0_countAnew : KI mX0_countAnew 1 := ⟨rfl, GW_of (i := 731) (by decide +kernel) rfl, GW_of (i := 59) (by decide +kernel) rfl, ⟨by decide +kernel, by decide +kernel⟩, by decide +kernel⟩
def mX0_fencerAt : MI := (yX0_fencerAt, cX0_fencerAt, 2, (some FieldType.int), [], { frames := 0, cells := 0, slots := 0, locals := 0 })
theorem kiX0_fencerAt : KI mX0_fencerAt 1 := ⟨rfl, GW_of (i := 470) (by decide +kernel) rfl, GW_of (i := 59) (by decide +kernel) rfl, ⟨by decide +kernel, by decide +kernel⟩, by decide +kernel⟩
def mX0_forget : MI := (yX0_forget, cX0_forget, 2, none, [], { frames := 1, cells := 0, slots := 0, locals := 21 })
theorem kiX0_forget : KI mX0_forget 0 := ⟨rfl, GW_of (i := 478) (by decide +kernel) rfl, GW_of (i := 59) (by decide +kernel) rfl, ⟨by decide +kernel, by decide +kernel⟩, by decide +kernel⟩
def mX0_init : MI := (yX0_init, cX0_init, 4, none, [], { frames := 2, cells := 2, slots := 15, locals := 32 })
theorem kiX0_init : KI mX0_init 3 := ⟨rfl, GW_of (i := 788) (by decide +kernel) rfl, GW_of (i := 59) (by decide +kernel) rfl, ⟨by decide +kernel, by decide +kernel⟩, by decide +kernel⟩
def mX0_keep : MI := (yX0_keep, cX0_keep, 2, none, [], { frames := 4, cells := 0, slots := 0, locals := 87 })
theorem kiX0_keep : KI mX0_keep 1 := ⟨rfl, GW_of (i := 668) (by decide +kernel) rfl, GW_of (i := 59) (by decide +kernel) rfl, ⟨by decide +kernel, by decide +kernel⟩, by decide +kernel⟩
def mX0_phraseAt : MI := (yX0_phraseAt, cX0_phraseAt, 2, (some (FieldType.object "PisteLine$Phrase")), [], { frames := 0, cells := 0, slots := 0, locals := 0 })
theorem kiX0_phraseAt : KI mX0_phraseAt 1 := ⟨rfl, GW_of (i := 412) (by decide +kernel) rfl, GW_of (i := 59) (by decide +kernel) rfl, ⟨by decide +kernel, by decide +kernel⟩, by decide +kernel⟩
def mX0_recount : MI := (yX0_recount, cX0_recount, 3, none, [], { frames := 3, cells := 0, slots := 0, locals := 65 })
theorem kiX0_recount : KI mX0_recount 0 := ⟨rfl, GW_of (i := 404) (by decide +kernel) rfl, GW_of (i := 59) (by decide +kernel) rfl, ⟨by decide +kernel, by decide +kernel⟩, by decide +kernel⟩
def mX0_touchesLeft : MI := (yX0_touchesLeft, cX0_touchesLeft, 2, (some FieldType.int), [], { frames := 2, cells := 0, slots := 0, locals := 44 })
theorem kiX0_touchesLeft : KI mX0_touchesLeft 1 := ⟨rfl, GW_of (i := 416) (by decide +kernel) rfl, GW_of (i := 59) (by decide +kernel) rfl, ⟨by decide +kernel, by decide +kernel⟩, by decide +kernel⟩
def mX0_useAppeal : MI := (yX0_useAppeal, cX0_useAppeal, 2, none, [], { frames := 0, cells := 0, slots := 0, locals := 0 })
theorem kiX0_useAppeal : KI mX0_useAppeal 1 := ⟨rfl, GW_of (i := 694) (by decide +kernel) rfl, GW_of (i := 59) (by decide +kernel) rfl, ⟨by decide +kernel, by decide +kernel⟩, by decide +kernel⟩
def mX0_winningFencer : MI := (yX0_winningFencer, cX0_winningFencer, 2, (some FieldType.int), [], { frames := 2, cells := 0, slots := 0, locals := 40 })
theorem kiX0_winningFencer : KI mX0_winningFencer 0 := ⟨rfl, GW_of (i := 461) (by decide +kernel) rfl, GW_of (i := 59) (by decide +kernel) rfl, ⟨by decide +kernel, by decide +kernel⟩, by decide +kernel⟩
def mX0_winningSide : MI := (yX0_winningSide, cX0_winningSide, 1, (some FieldType.int), [], { frames := 1, cells := 0, slots := 0, locals := 20 })
theorem kiX0_winningSide : KI mX0_winningSide 0 := ⟨rfl, GW_of (i := 465) (by decide +kernel) rfl, GW_of (i := 59) (by decide +kernel) rfl, ⟨by decide +kernel, by decide +kernel⟩, by decide +kernel⟩
def mX1_add : MI := (yX1_add, cX1_add, 4, none, [], { frames := 0, cells := 0, slots := 0, locals := 0 })
theorem kiX1_add : KI mX1_add 3 := ⟨rfl, GW_of (i := 850) (by decide +kernel) rfl, GW_of (i := 54) (by decide +kernel) rfl, ⟨by decide +kernel, by decide +kernel⟩, by decide +kernel⟩
def mX1_clear : MI := (yX1_clear, cX1_clear, 1, none, [], { frames := 0, cells := 0, slots := 0, locals := 0 })
theorem kiX1_clear : KI mX1_clear 0 := ⟨rfl, GW_of (i := 841) (by decide +kernel) rfl, GW_of (i := 54) (by decide +kernel) rfl, ⟨by decide +kernel, by decide +kernel⟩, by decide +kernel⟩
def mX1_difference : MI := (yX1_difference, cX1_difference, 1, (some FieldType.int), [], { frames := 0, cells := 0, slots := 0, locals := 0 })
theorem kiX1_difference : KI mX1_difference 0 := ⟨rfl, GW_of (i := 861) (by decide +kernel) rfl, GW_of (i := 54) (by decide +kernel) rfl, ⟨by decide +kernel, by decide +kernel⟩, by decide +kernel⟩
def mX1_init : MI := (yX1_init, cX1_init, 2, none, [], { frames := 1, cells := 0, slots := 0, locals := 12 })
theorem kiX1_init : KI mX1_init 1 := ⟨rfl, GW_of (i := 293) (by decide +kernel) rfl, GW_of (i := 54) (by decide +kernel) rfl, ⟨by decide +kernel, by decide +kernel⟩, by decide +kernel⟩
def mX1_isAheadOf : MI := (yX1_isAheadOf, cX1_isAheadOf, 4, (some FieldType.boolean), [], { frames := 1, cells := 0, slots := 0, locals := 21 })
theorem kiX1_isAheadOf : KI mX1_isAheadOf 1 := ⟨rfl, GW_of (i := 881) (by decide +kernel) rfl, GW_of (i := 54) (by decide +kernel) rfl, ⟨by decide +kernel, by decide +kernel⟩, by decide +kernel⟩
def mX2_firstLight : MI := (yX2_firstLight, cX2_firstLight, 2, (some FieldType.int), [], { frames := 1, cells := 0, slots := 0, locals := 21 })
theorem kiX2_firstLight : KI mX2_firstLight 0 := ⟨rfl, GW_of (i := 648) (by decide +kernel) rfl, GW_of (i := 58) (by decide +kernel) rfl, ⟨by decide +kernel, by decide +kernel⟩, by decide +kernel⟩
def mX2_hear : MI := (yX2_hear, cX2_hear, 4, none, [], { frames := 1, cells := 0, slots := 0, locals := 20 })
theorem kiX2_hear : KI mX2_hear 3 := ⟨rfl, GW_of (i := 620) (by decide +kernel) rfl, GW_of (i := 58) (by decide +kernel) rfl, ⟨by decide +kernel, by decide +kernel⟩, by decide +kernel⟩
def mX2_init : MI := (yX2_init, cX2_init, 4, none, [], { frames := 1, cells := 3, slots := 24, locals := 12 })
theorem kiX2_init : KI mX2_init 3 := ⟨rfl, GW_of (i := 559) (by decide +kernel) rfl, GW_of (i := 58) (by decide +kernel) rfl, ⟨by decide +kernel, by decide +kernel⟩, by decide +kernel⟩
def mX2_isALight : MI := (yX2_isALight, cX2_isALight, 2, (some FieldType.boolean), [], { frames := 0, cells := 0, slots := 0, locals := 0 })
theorem kiX2_isALight : KI mX2_isALight 1 := ⟨rfl, GW_of (i := 652) (by decide +kernel) rfl, GW_of (i := 58) (by decide +kernel) rfl, ⟨by decide +kernel, by decide +kernel⟩, by decide +kernel⟩
def mX2_isFull : MI := (yX2_isFull, cX2_isFull, 1, (some FieldType.boolean), [], { frames := 0, cells := 0, slots := 0, locals := 0 })
theorem kiX2_isFull : KI mX2_isFull 0 := ⟨rfl, GW_of (i := 615) (by decide +kernel) rfl, GW_of (i := 58) (by decide +kernel) rfl, ⟨by decide +kernel, by decide +kernel⟩, by decide +kernel⟩
def mX2_judge : MI := (yX2_judge, cX2_judge, 4, (some FieldType.int), [], { frames := 2, cells := 0, slots := 0, locals := 45 })
theorem kiX2_judge : KI mX2_judge 0 := ⟨rfl, GW_of (i := 644) (by decide +kernel) rfl, GW_of (i := 58) (by decide +kernel) rfl, ⟨by decide +kernel, by decide +kernel⟩, by decide +kernel⟩
def mX2_latestTime : MI := (yX2_latestTime, cX2_latestTime, 1, (some FieldType.int), [], { frames := 0, cells := 0, slots := 0, locals := 0 })
theorem kiX2_latestTime : KI mX2_latestTime 0 := ⟨rfl, GW_of (i := 610) (by decide +kernel) rfl, GW_of (i := 58) (by decide +kernel) rfl, ⟨by decide +kernel, by decide +kernel⟩, by decide +kernel⟩
def mX2_otherLight : MI := (yX2_otherLight, cX2_otherLight, 5, (some FieldType.int), [], { frames := 1, cells := 0, slots := 0, locals := 21 })
theorem kiX2_otherLight : KI mX2_otherLight 1 := ⟨rfl, GW_of (i := 656) (by decide +kernel) rfl, GW_of (i := 58) (by decide +kernel) rfl, ⟨by decide +kernel, by decide +kernel⟩, by decide +kernel⟩
def mX2_rightAt : MI := (yX2_rightAt, cX2_rightAt, 4, (some FieldType.int), [], { frames := 0, cells := 0, slots := 0, locals := 0 })
theorem kiX2_rightAt : KI mX2_rightAt 1 := ⟨rfl, GW_of (i := 664) (by decide +kernel) rfl, GW_of (i := 58) (by decide +kernel) rfl, ⟨by decide +kernel, by decide +kernel⟩, by decide +kernel⟩
def mX2_tellRight : MI := (yX2_tellRight, cX2_tellRight, 2, none, [], { frames := 3, cells := 0, slots := 0, locals := 68 })
theorem kiX2_tellRight : KI mX2_tellRight 1 := ⟨rfl, GW_of (i := 689) (by decide +kernel) rfl, GW_of (i := 58) (by decide +kernel) rfl, ⟨by decide +kernel, by decide +kernel⟩, by decide +kernel⟩
def mX2_touchOf : MI := (yX2_touchOf, cX2_touchOf, 2, (some FieldType.int), [], { frames := 0, cells := 0, slots := 0, locals := 0 })
theorem kiX2_touchOf : KI mX2_touchOf 1 := ⟨rfl, GW_of (i := 660) (by decide +kernel) rfl, GW_of (i := 58) (by decide +kernel) rfl, ⟨by decide +kernel, by decide +kernel⟩, by decide +kernel⟩
def mX2_withoutStruck : MI := (yX2_withoutStruck, cX2_withoutStruck, 4, (some FieldType.int), [], { frames := 1, cells := 0, slots := 0, locals := 21 })
theorem kiX2_withoutStruck : KI mX2_withoutStruck 2 := ⟨rfl, GW_of (i := 420) (by decide +kernel) rfl, GW_of (i := 58) (by decide +kernel) rfl, ⟨by decide +kernel, by decide +kernel⟩, by decide +kernel⟩
def mX3_arm : MI := (yX3_arm, cX3_arm, 3, none, [], { frames := 0, cells := 0, slots := 0, locals := 0 })
theorem kiX3_arm : KI mX3_arm 2 := ⟨rfl, GW_of (i := 546) (by decide +kernel) rfl, GW_of (i := 46) (by decide +kernel) rfl, ⟨by decide +kernel, by decide +kernel⟩, by decide +kernel⟩
def mX3_empty : MI := (yX3_empty, cX3_empty, 1, none, [], { frames := 1, cells := 0, slots := 0, locals := 24 })
theorem kiX3_empty : KI mX3_empty 0 := ⟨rfl, GW_of (i := 482) (by decide +kernel) rfl, GW_of (i := 46) (by decide +kernel) rfl, ⟨by decide +kernel, by decide +kernel⟩, by decide +kernel⟩
def mX3_init : MI := (yX3_init, cX3_init, 1, none, [], { frames := 1, cells := 0, slots := 0, locals := 12 })
theorem kiX3_init : KI mX3_init 0 := ⟨rfl, GW_of (i := 79) (by decide +kernel) rfl, GW_of (i := 46) (by decide +kernel) rfl, ⟨by decide +kernel, by decide +kernel⟩, by decide +kernel⟩
def mX3_take : MI := (yX3_take, cX3_take, 5, none, [], { frames := 0, cells := 0, slots := 0, locals := 0 })
theorem kiX3_take : KI mX3_take 4 := ⟨rfl, GW_of (i := 486) (by decide +kernel) rfl, GW_of (i := 46) (by decide +kernel) rfl, ⟨by decide +kernel, by decide +kernel⟩, by decide +kernel⟩
def mX3_weaponNumber : MI := (yX3_weaponNumber, cX3_weaponNumber, 3, (some FieldType.int), [], { frames := 0, cells := 0, slots := 0, locals := 0 })
theorem kiX3_weaponNumber : KI mX3_weaponNumber 1 := ⟨rfl, GW_of (i := 542) (by decide +kernel) rfl, GW_of (i := 46) (by decide +kernel) rfl, ⟨by decide +kernel, by decide +kernel⟩, by decide +kernel⟩
def mX4_boutAt : MI := (yX4_boutAt, cX4_boutAt, 2, (some (FieldType.object "PisteLine$Bout")), [], { frames := 0, cells := 0, slots := 0, locals := 0 })
theorem kiX4_boutAt : KI mX4_boutAt 1 := ⟨rfl, GW_of (i := 440) (by decide +kernel) rfl, GW_of (i := 47) (by decide +kernel) rfl, ⟨by decide +kernel, by decide +kernel⟩, by decide +kernel⟩
def mX4_drop : MI := (yX4_drop, cX4_drop, 3, none, [], { frames := 2, cells := 0, slots := 0, locals := 44 })
theorem kiX4_drop : KI mX4_drop 2 := ⟨rfl, GW_of (i := 474) (by decide +kernel) rfl, GW_of (i := 47) (by decide +kernel) rfl, ⟨by decide +kernel, by decide +kernel⟩, by decide +kernel⟩
def mX4_hasNode : MI := (yX4_hasNode, cX4_hasNode, 2, (some FieldType.boolean), [], { frames := 0, cells := 0, slots := 0, locals := 0 })
theorem kiX4_hasNode : KI mX4_hasNode 1 := ⟨rfl, GW_of (i := 449) (by decide +kernel) rfl, GW_of (i := 47) (by decide +kernel) rfl, ⟨by decide +kernel, by decide +kernel⟩, by decide +kernel⟩
def mX4_init : MI := (yX4_init, cX4_init, 1, none, [], { frames := 1, cells := 3, slots := 64, locals := 12 })
theorem kiX4_init : KI mX4_init 0 := ⟨rfl, GW_of (i := 111) (by decide +kernel) rfl, GW_of (i := 47) (by decide +kernel) rfl, ⟨by decide +kernel, by decide +kernel⟩, by decide +kernel⟩
def mX4_isDrawn : MI := (yX4_isDrawn, cX4_isDrawn, 1, (some FieldType.boolean), [], { frames := 0, cells := 0, slots := 0, locals := 0 })
theorem kiX4_isDrawn : KI mX4_isDrawn 0 := ⟨rfl, GW_of (i := 400) (by decide +kernel) rfl, GW_of (i := 47) (by decide +kernel) rfl, ⟨by decide +kernel, by decide +kernel⟩, by decide +kernel⟩
def mX4_lay : MI := (yX4_lay, cX4_lay, 4, none, [], { frames := 3, cells := 45, slots := 345, locals := 55 })
theorem kiX4_lay : KI mX4_lay 1 := ⟨rfl, GW_of (i := 903) (by decide +kernel) rfl, GW_of (i := 47) (by decide +kernel) rfl, ⟨by decide +kernel, by decide +kernel⟩, by decide +kernel⟩
def mX4_laySeeds : MI := (yX4_laySeeds, cX4_laySeeds, 4, none, [], { frames := 0, cells := 0, slots := 0, locals := 0 })
theorem kiX4_laySeeds : KI mX4_laySeeds 0 := ⟨rfl, GW_of (i := 908) (by decide +kernel) rfl, GW_of (i := 47) (by decide +kernel) rfl, ⟨by decide +kernel, by decide +kernel⟩, by decide +kernel⟩
def mX4_recount : MI := (yX4_recount, cX4_recount, 3, none, [], { frames := 4, cells := 0, slots := 0, locals := 87 })
theorem kiX4_recount : KI mX4_recount 0 := ⟨rfl, GW_of (i := 436) (by decide +kernel) rfl, GW_of (i := 47) (by decide +kernel) rfl, ⟨by decide +kernel, by decide +kernel⟩, by decide +kernel⟩
def mX4_seat : MI := (yX4_seat, cX4_seat, 4, none, [], { frames := 0, cells := 0, slots := 0, locals := 0 })
theorem kiX4_seat : KI mX4_seat 2 := ⟨rfl, GW_of (i := 912) (by decide +kernel) rfl, GW_of (i := 47) (by decide +kernel) rfl, ⟨by decide +kernel, by decide +kernel⟩, by decide +kernel⟩
def mX4_settle : MI := (yX4_settle, cX4_settle, 5, none, [], { frames := 4, cells := 0, slots := 0, locals := 84 })
theorem kiX4_settle : KI mX4_settle 1 := ⟨rfl, GW_of (i := 445) (by decide +kernel) rfl, GW_of (i := 47) (by decide +kernel) rfl, ⟨by decide +kernel, by decide +kernel⟩, by decide +kernel⟩
def mX4_winnerAt : MI := (yX4_winnerAt, cX4_winnerAt, 2, (some FieldType.int), [], { frames := 1, cells := 0, slots := 0, locals := 21 })
theorem kiX4_winnerAt : KI mX4_winnerAt 1 := ⟨rfl, GW_of (i := 453) (by decide +kernel) rfl, GW_of (i := 47) (by decide +kernel) rfl, ⟨by decide +kernel, by decide +kernel⟩, by decide +kernel⟩
def mX4_winnerNow : MI := (yX4_winnerNow, cX4_winnerNow, 4, (some FieldType.int), [], { frames := 3, cells := 0, slots := 0, locals := 61 })
theorem kiX4_winnerNow : KI mX4_winnerNow 2 := ⟨rfl, GW_of (i := 457) (by decide +kernel) rfl, GW_of (i := 47) (by decide +kernel) rfl, ⟨by decide +kernel, by decide +kernel⟩, by decide +kernel⟩
def mX5_add : MI := (yX5_add, cX5_add, 4, none, [], { frames := 1, cells := 0, slots := 0, locals := 20 })
theorem kiX5_add : KI mX5_add 1 := ⟨rfl, GW_of (i := 428) (by decide +kernel) rfl, GW_of (i := 48) (by decide +kernel) rfl, ⟨by decide +kernel, by decide +kernel⟩, by decide +kernel⟩
def mX5_init : MI := (yX5_init, cX5_init, 1, none, [], { frames := 1, cells := 0, slots := 0, locals := 12 })
theorem kiX5_init : KI mX5_init 0 := ⟨rfl, GW_of (i := 137) (by decide +kernel) rfl, GW_of (i := 48) (by decide +kernel) rfl, ⟨by decide +kernel, by decide +kernel⟩, by decide +kernel⟩
def mX5_isAtGoal : MI := (yX5_isAtGoal, cX5_isAtGoal, 1, (some FieldType.boolean), [], { frames := 0, cells := 0, slots := 0, locals := 0 })
theorem kiX5_isAtGoal : KI mX5_isAtGoal 0 := ⟨rfl, GW_of (i := 432) (by decide +kernel) rfl, GW_of (i := 48) (by decide +kernel) rfl, ⟨by decide +kernel, by decide +kernel⟩, by decide +kernel⟩
def mX5_of : MI := (yX5_of, cX5_of, 2, (some FieldType.int), [], { frames := 0, cells := 0, slots := 0, locals := 0 })
theorem kiX5_of : KI mX5_of 1 := ⟨rfl, GW_of (i := 720) (by decide +kernel) rfl, GW_of (i := 48) (by decide +kernel) rfl, ⟨by decide +kernel, by decide +kernel⟩, by decide +kernel⟩
def mX5_restart : MI := (yX5_restart, cX5_restart, 2, none, [], { frames := 0, cells := 0, slots := 0, locals := 0 })
theorem kiX5_restart : KI mX5_restart 1 := ⟨rfl, GW_of (i := 408) (by decide +kernel) rfl, GW_of (i := 48) (by decide +kernel) rfl, ⟨by decide +kernel, by decide +kernel⟩, by decide +kernel⟩
def mX6_init : MI := (yX6_init, cX6_init, 3, none, [], { frames := 1, cells := 0, slots := 0, locals := 12 })
theorem kiX6_init : KI mX6_init 2 := ⟨rfl, GW_of (i := 344) (by decide +kernel) rfl, GW_of (i := 56) (by decide +kernel) rfl, ⟨by decide +kernel, by decide +kernel⟩, by decide +kernel⟩
def mX6_isFalse : MI := (yX6_isFalse, cX6_isFalse, 2, (some FieldType.boolean), [], { frames := 0, cells := 0, slots := 0, locals := 0 })
theorem kiX6_isFalse : KI mX6_isFalse 1 := ⟨rfl, GW_of (i := 424) (by decide +kernel) rfl, GW_of (i := 56) (by decide +kernel) rfl, ⟨by decide +kernel, by decide +kernel⟩, by decide +kernel⟩
def mX6_isMarkedFor : MI := (yX6_isMarkedFor, cX6_isMarkedFor, 2, (some FieldType.boolean), [], { frames := 0, cells := 0, slots := 0, locals := 0 })
theorem kiX6_isMarkedFor : KI mX6_isMarkedFor 1 := ⟨rfl, GW_of (i := 522) (by decide +kernel) rfl, GW_of (i := 56) (by decide +kernel) rfl, ⟨by decide +kernel, by decide +kernel⟩, by decide +kernel⟩
def mX7_addPoolBout : MI := (yX7_addPoolBout, cX7_addPoolBout, 3, none, [], { frames := 3, cells := 3, slots := 23, locals := 55 })
theorem kiX7_addPoolBout : KI mX7_addPoolBout 2 := ⟨rfl, GW_of (i := 784) (by decide +kernel) rfl, GW_of (i := 45) (by decide +kernel) rfl, ⟨by decide +kernel, by decide +kernel⟩, by decide +kernel⟩
def mX7_allez : MI := (yX7_allez, cX7_allez, 4, (some FieldType.int), [], { frames := 6, cells := 4, slots := 34, locals := 82 })
theorem kiX7_allez : KI mX7_allez 0 := ⟨rfl, GW_of (i := 553) (by decide +kernel) rfl, GW_of (i := 45) (by decide +kernel) rfl, ⟨by decide +kernel, by decide +kernel⟩, by decide +kernel⟩
def mX7_appeal : MI := (yX7_appeal, cX7_appeal, 7, (some FieldType.int), [], { frames := 6, cells := 1, slots := 6, locals := 108 })
theorem kiX7_appeal : KI mX7_appeal 2 := ⟨rfl, GW_of (i := 677) (by decide +kernel) rfl, GW_of (i := 45) (by decide +kernel) rfl, ⟨by decide +kernel, by decide +kernel⟩, by decide +kernel⟩
def mX7_appeals : MI := (yX7_appeals, cX7_appeals, 4, (some FieldType.int), [], { frames := 6, cells := 1, slots := 6, locals := 82 })
theorem kiX7_appeals : KI mX7_appeals 2 := ⟨rfl, GW_of (i := 764) (by decide +kernel) rfl, GW_of (i := 45) (by decide +kernel) rfl, ⟨by decide +kernel, by decide +kernel⟩, by decide +kernel⟩
def mX7_arePoolsDrawn : MI := (yX7_arePoolsDrawn, cX7_arePoolsDrawn, 1, (some FieldType.boolean), [], { frames := 0, cells := 0, slots := 0, locals := 0 })
theorem kiX7_arePoolsDrawn : KI mX7_arePoolsDrawn 0 := ⟨rfl, GW_of (i := 221) (by decide +kernel) rfl, GW_of (i := 45) (by decide +kernel) rfl, ⟨by decide +kernel, by decide +kernel⟩, by decide +kernel⟩
def mX7_begin : MI := (yX7_begin, cX7_begin, 7, (some FieldType.int), [], { frames := 6, cells := 1, slots := 6, locals := 82 })
theorem kiX7_begin : KI mX7_begin 3 := ⟨rfl, GW_of (i := 507) (by decide +kernel) rfl, GW_of (i := 45) (by decide +kernel) rfl, ⟨by decide +kernel, by decide +kernel⟩, by decide +kernel⟩
def mX7_boutAt : MI := (yX7_boutAt, cX7_boutAt, 2, (some (FieldType.object "PisteLine$Bout")), [], { frames := 1, cells := 0, slots := 0, locals := 21 })
theorem kiX7_boutAt : KI mX7_boutAt 1 := ⟨rfl, GW_of (i := 511) (by decide +kernel) rfl, GW_of (i := 45) (by decide +kernel) rfl, ⟨by decide +kernel, by decide +kernel⟩, by decide +kernel⟩
def mX7_change : MI := (yX7_change, cX7_change, 6, (some FieldType.int), [], { frames := 6, cells := 1, slots := 6, locals := 82 })
theorem kiX7_change : KI mX7_change 2 := ⟨rfl, GW_of (i := 531) (by decide +kernel) rfl, GW_of (i := 45) (by decide +kernel) rfl, ⟨by decide +kernel, by decide +kernel⟩, by decide +kernel⟩
def mX7_contact : MI := (yX7_contact, cX7_contact, 5, (some FieldType.int), [], { frames := 6, cells := 1, slots := 6, locals := 82 })
theorem kiX7_contact : KI mX7_contact 3 := ⟨rfl, GW_of (i := 601) (by decide +kernel) rfl, GW_of (i := 45) (by decide +kernel) rfl, ⟨by decide +kernel, by decide +kernel⟩, by decide +kernel⟩
def mX7_countPools : MI := (yX7_countPools, cX7_countPools, 3, none, [], { frames := 3, cells := 0, slots := 0, locals := 63 })
theorem kiX7_countPools : KI mX7_countPools 0 := ⟨rfl, GW_of (i := 837) (by decide +kernel) rfl, GW_of (i := 45) (by decide +kernel) rfl, ⟨by decide +kernel, by decide +kernel⟩, by decide +kernel⟩
def mX7_countSide : MI := (yX7_countSide, cX7_countSide, 4, none, [], { frames := 2, cells := 0, slots := 0, locals := 40 })
theorem kiX7_countSide : KI mX7_countSide 2 := ⟨rfl, GW_of (i := 846) (by decide +kernel) rfl, GW_of (i := 45) (by decide +kernel) rfl, ⟨by decide +kernel, by decide +kernel⟩, by decide +kernel⟩
def mX7_drawPool : MI := (yX7_drawPool, cX7_drawPool, 5, none, [], { frames := 4, cells := 198, slots := 1518, locals := 77 })
theorem kiX7_drawPool : KI mX7_drawPool 2 := ⟨rfl, GW_of (i := 777) (by decide +kernel) rfl, GW_of (i := 45) (by decide +kernel) rfl, ⟨by decide +kernel, by decide +kernel⟩, by decide +kernel⟩
def mX7_drawPools : MI := (yX7_drawPools, cX7_drawPools, 3, (some FieldType.int), [], { frames := 6, cells := 792, slots := 6072, locals := 101 })
theorem kiX7_drawPools : KI mX7_drawPools 1 := ⟨rfl, GW_of (i := 771) (by decide +kernel) rfl, GW_of (i := 45) (by decide +kernel) rfl, ⟨by decide +kernel, by decide +kernel⟩, by decide +kernel⟩
def mX7_drawTableau : MI := (yX7_drawTableau, cX7_drawTableau, 2, (some FieldType.int), [], { frames := 6, cells := 45, slots := 345, locals := 108 })
theorem kiX7_drawTableau : KI mX7_drawTableau 0 := ⟨rfl, GW_of (i := 892) (by decide +kernel) rfl, GW_of (i := 45) (by decide +kernel) rfl, ⟨by decide +kernel, by decide +kernel⟩, by decide +kernel⟩
def mX7_fail : MI := (yX7_fail, cX7_fail, 4, none, [], { frames := 5, cells := 0, slots := 0, locals := 109 })
theorem kiX7_fail : KI mX7_fail 1 := ⟨rfl, GW_of (i := 396) (by decide +kernel) rfl, GW_of (i := 45) (by decide +kernel) rfl, ⟨by decide +kernel, by decide +kernel⟩, by decide +kernel⟩
def mX7_fencer : MI := (yX7_fencer, cX7_fencer, 2, (some FieldType.int), [], { frames := 6, cells := 1, slots := 6, locals := 82 })
theorem kiX7_fencer : KI mX7_fencer 0 := ⟨rfl, GW_of (i := 217) (by decide +kernel) rfl, GW_of (i := 45) (by decide +kernel) rfl, ⟨by decide +kernel, by decide +kernel⟩, by decide +kernel⟩
def mX7_fencerAt : MI := (yX7_fencerAt, cX7_fencerAt, 2, (some (FieldType.object "PisteLine$Fencer")), [], { frames := 0, cells := 0, slots := 0, locals := 0 })
theorem kiX7_fencerAt : KI mX7_fencerAt 1 := ⟨rfl, GW_of (i := 323) (by decide +kernel) rfl, GW_of (i := 45) (by decide +kernel) rfl, ⟨by decide +kernel, by decide +kernel⟩, by decide +kernel⟩
def mX7_fencerInPlace : MI := (yX7_fencerInPlace, cX7_fencerInPlace, 4, (some FieldType.int), [], { frames := 3, cells := 0, slots := 0, locals := 68 })
theorem kiX7_fencerInPlace : KI mX7_fencerInPlace 1 := ⟨rfl, GW_of (i := 873) (by decide +kernel) rfl, GW_of (i := 45) (by decide +kernel) rfl, ⟨by decide +kernel, by decide +kernel⟩, by decide +kernel⟩
def mX7_fencerOf : MI := (yX7_fencerOf, cX7_fencerOf, 4, (some FieldType.int), [], { frames := 6, cells := 1, slots := 6, locals := 82 })
theorem kiX7_fencerOf : KI mX7_fencerOf 2 := ⟨rfl, GW_of (i := 708) (by decide +kernel) rfl, GW_of (i := 45) (by decide +kernel) rfl, ⟨by decide +kernel, by decide +kernel⟩, by decide +kernel⟩
def mX7_fencers : MI := (yX7_fencers, cX7_fencers, 1, (some FieldType.int), [], { frames := 0, cells := 0, slots := 0, locals := 0 })
theorem kiX7_fencers : KI mX7_fencers 0 := ⟨rfl, GW_of (i := 186) (by decide +kernel) rfl, GW_of (i := 45) (by decide +kernel) rfl, ⟨by decide +kernel, by decide +kernel⟩, by decide +kernel⟩
def mX7_fencersAhead : MI := (yX7_fencersAhead, cX7_fencersAhead, 5, (some FieldType.int), [], { frames := 2, cells := 0, slots := 0, locals := 44 })
theorem kiX7_fencersAhead : KI mX7_fencersAhead 1 := ⟨rfl, GW_of (i := 877) (by decide +kernel) rfl, GW_of (i := 45) (by decide +kernel) rfl, ⟨by decide +kernel, by decide +kernel⟩, by decide +kernel⟩
def mX7_gone : MI := (yX7_gone, cX7_gone, 1, (some FieldType.int), [], { frames := 0, cells := 0, slots := 0, locals := 0 })
theorem kiX7_gone : KI mX7_gone 0 := ⟨rfl, GW_of (i := 206) (by decide +kernel) rfl, GW_of (i := 45) (by decide +kernel) rfl, ⟨by decide +kernel, by decide +kernel⟩, by decide +kernel⟩
def mX7_halt : MI := (yX7_halt, cX7_halt, 3, (some FieldType.int), [], { frames := 6, cells := 1, slots := 6, locals := 108 })
theorem kiX7_halt : KI mX7_halt 0 := ⟨rfl, GW_of (i := 639) (by decide +kernel) rfl, GW_of (i := 45) (by decide +kernel) rfl, ⟨by decide +kernel, by decide +kernel⟩, by decide +kernel⟩
def mX7_index : MI := (yX7_index, cX7_index, 3, (some FieldType.int), [], { frames := 6, cells := 1, slots := 6, locals := 85 })
theorem kiX7_index : KI mX7_index 1 := ⟨rfl, GW_of (i := 857) (by decide +kernel) rfl, GW_of (i := 45) (by decide +kernel) rfl, ⟨by decide +kernel, by decide +kernel⟩, by decide +kernel⟩
def mX7_init : MI := (yX7_init, cX7_init, 2, none, [], { frames := 2, cells := 9, slots := 180, locals := 32 })
theorem kiX7_init : KI mX7_init 1 := ⟨rfl, GW_of (i := 65) (by decide +kernel) rfl, GW_of (i := 45) (by decide +kernel) rfl, ⟨by decide +kernel, by decide +kernel⟩, by decide +kernel⟩
def mX7_isAPoolBoutOpen : MI := (yX7_isAPoolBoutOpen, cX7_isAPoolBoutOpen, 3, (some FieldType.boolean), [], { frames := 2, cells := 0, slots := 0, locals := 40 })
theorem kiX7_isAPoolBoutOpen : KI mX7_isAPoolBoutOpen 0 := ⟨rfl, GW_of (i := 896) (by decide +kernel) rfl, GW_of (i := 45) (by decide +kernel) rfl, ⟨by decide +kernel, by decide +kernel⟩, by decide +kernel⟩
def mX7_isFencing : MI := (yX7_isFencing, cX7_isFencing, 1, (some FieldType.boolean), [], { frames := 0, cells := 0, slots := 0, locals := 0 })
theorem kiX7_isFencing : KI mX7_isFencing 0 := ⟨rfl, GW_of (i := 194) (by decide +kernel) rfl, GW_of (i := 45) (by decide +kernel) rfl, ⟨by decide +kernel, by decide +kernel⟩, by decide +kernel⟩
def mX7_isSide : MI := (yX7_isSide, cX7_isSide, 1, (some FieldType.boolean), [], { frames := 0, cells := 0, slots := 0, locals := 0 })
theorem kiX7_isSide : KI mX7_isSide 1 := ⟨rfl, GW_of (i := 534) (by decide +kernel) rfl, GW_of (i := 45) (by decide +kernel) rfl, ⟨by decide +kernel, by decide +kernel⟩, by decide +kernel⟩
def mX7_isSideOrNone : MI := (yX7_isSideOrNone, cX7_isSideOrNone, 1, (some FieldType.boolean), [], { frames := 1, cells := 0, slots := 0, locals := 20 })
theorem kiX7_isSideOrNone : KI mX7_isSideOrNone 1 := ⟨rfl, GW_of (i := 631) (by decide +kernel) rfl, GW_of (i := 45) (by decide +kernel) rfl, ⟨by decide +kernel, by decide +kernel⟩, by decide +kernel⟩
def mX7_isTooEarly : MI := (yX7_isTooEarly, cX7_isTooEarly, 3, (some FieldType.boolean), [], { frames := 1, cells := 0, slots := 0, locals := 20 })
theorem kiX7_isTooEarly : KI mX7_isTooEarly 1 := ⟨rfl, GW_of (i := 606) (by decide +kernel) rfl, GW_of (i := 45) (by decide +kernel) rfl, ⟨by decide +kernel, by decide +kernel⟩, by decide +kernel⟩
def mX7_mark : MI := (yX7_mark, cX7_mark, 3, (some FieldType.int), [], { frames := 6, cells := 1, slots := 6, locals := 82 })
theorem kiX7_mark : KI mX7_mark 1 := ⟨rfl, GW_of (i := 493) (by decide +kernel) rfl, GW_of (i := 45) (by decide +kernel) rfl, ⟨by decide +kernel, by decide +kernel⟩, by decide +kernel⟩
def mX7_nodeWinner : MI := (yX7_nodeWinner, cX7_nodeWinner, 2, (some FieldType.int), [], { frames := 6, cells := 1, slots := 6, locals := 82 })
theorem kiX7_nodeWinner : KI mX7_nodeWinner 1 := ⟨rfl, GW_of (i := 919) (by decide +kernel) rfl, GW_of (i := 45) (by decide +kernel) rfl, ⟨by decide +kernel, by decide +kernel⟩, by decide +kernel⟩
def mX7_owner : MI := (yX7_owner, cX7_owner, 3, (some FieldType.int), [], { frames := 6, cells := 1, slots := 6, locals := 82 })
theorem kiX7_owner : KI mX7_owner 1 := ⟨rfl, GW_of (i := 500) (by decide +kernel) rfl, GW_of (i := 45) (by decide +kernel) rfl, ⟨by decide +kernel, by decide +kernel⟩, by decide +kernel⟩
def mX7_phrases : MI := (yX7_phrases, cX7_phrases, 3, (some FieldType.int), [], { frames := 6, cells := 1, slots := 6, locals := 82 })
theorem kiX7_phrases : KI mX7_phrases 1 := ⟨rfl, GW_of (i := 749) (by decide +kernel) rfl, GW_of (i := 45) (by decide +kernel) rfl, ⟨by decide +kernel, by decide +kernel⟩, by decide +kernel⟩
def mX7_piste : MI := (yX7_piste, cX7_piste, 1, (some FieldType.int), [], { frames := 0, cells := 0, slots := 0, locals := 0 })
theorem kiX7_piste : KI mX7_piste 0 := ⟨rfl, GW_of (i := 190) (by decide +kernel) rfl, GW_of (i := 45) (by decide +kernel) rfl, ⟨by decide +kernel, by decide +kernel⟩, by decide +kernel⟩
def mX7_poolBouts : MI := (yX7_poolBouts, cX7_poolBouts, 1, (some FieldType.int), [], { frames := 0, cells := 0, slots := 0, locals := 0 })
theorem kiX7_poolBouts : KI mX7_poolBouts 0 := ⟨rfl, GW_of (i := 198) (by decide +kernel) rfl, GW_of (i := 45) (by decide +kernel) rfl, ⟨by decide +kernel, by decide +kernel⟩, by decide +kernel⟩
def mX7_poolOf : MI := (yX7_poolOf, cX7_poolOf, 2, (some FieldType.int), [], { frames := 0, cells := 0, slots := 0, locals := 0 })
theorem kiX7_poolOf : KI mX7_poolOf 2 := ⟨rfl, GW_of (i := 780) (by decide +kernel) rfl, GW_of (i := 45) (by decide +kernel) rfl, ⟨by decide +kernel, by decide +kernel⟩, by decide +kernel⟩
def mX7_rankedAt : MI := (yX7_rankedAt, cX7_rankedAt, 2, (some FieldType.int), [], { frames := 6, cells := 1, slots := 6, locals := 91 })
theorem kiX7_rankedAt : KI mX7_rankedAt 1 := ⟨rfl, GW_of (i := 868) (by decide +kernel) rfl, GW_of (i := 45) (by decide +kernel) rfl, ⟨by decide +kernel, by decide +kernel⟩, by decide +kernel⟩
def mX7_right : MI := (yX7_right, cX7_right, 4, (some FieldType.int), [], { frames := 6, cells := 1, slots := 6, locals := 82 })
theorem kiX7_right : KI mX7_right 2 := ⟨rfl, GW_of (i := 628) (by decide +kernel) rfl, GW_of (i := 45) (by decide +kernel) rfl, ⟨by decide +kernel, by decide +kernel⟩, by decide +kernel⟩
def mX7_score : MI := (yX7_score, cX7_score, 4, (some FieldType.int), [], { frames := 6, cells := 1, slots := 6, locals := 82 })
theorem kiX7_score : KI mX7_score 2 := ⟨rfl, GW_of (i := 716) (by decide +kernel) rfl, GW_of (i := 45) (by decide +kernel) rfl, ⟨by decide +kernel, by decide +kernel⟩, by decide +kernel⟩
def mX7_scoreAnew : MI := (yX7_scoreAnew, cX7_scoreAnew, 4, (some FieldType.int), [], { frames := 6, cells := 1, slots := 6, locals := 91 })
theorem kiX7_scoreAnew : KI mX7_scoreAnew 2 := ⟨rfl, GW_of (i := 727) (by decide +kernel) rfl, GW_of (i := 45) (by decide +kernel) rfl, ⟨by decide +kernel, by decide +kernel⟩, by decide +kernel⟩
def mX7_size : MI := (yX7_size, cX7_size, 1, (some FieldType.int), [], { frames := 0, cells := 0, slots := 0, locals := 0 })
theorem kiX7_size : KI mX7_size 0 := ⟨rfl, GW_of (i := 202) (by decide +kernel) rfl, GW_of (i := 45) (by decide +kernel) rfl, ⟨by decide +kernel, by decide +kernel⟩, by decide +kernel⟩
def mX7_test : MI := (yX7_test, cX7_test, 6, (some FieldType.boolean), [], { frames := 6, cells := 1, slots := 6, locals := 132 })
theorem kiX7_test : KI mX7_test 3 := ⟨rfl, GW_of (i := 370) (by decide +kernel) rfl, GW_of (i := 45) (by decide +kernel) rfl, ⟨by decide +kernel, by decide +kernel⟩, by decide +kernel⟩
def mX7_touches : MI := (yX7_touches, cX7_touches, 5, (some FieldType.int), [], { frames := 6, cells := 1, slots := 6, locals := 82 })
theorem kiX7_touches : KI mX7_touches 2 := ⟨rfl, GW_of (i := 756) (by decide +kernel) rfl, GW_of (i := 45) (by decide +kernel) rfl, ⟨by decide +kernel, by decide +kernel⟩, by decide +kernel⟩
def mX7_weapon : MI := (yX7_weapon, cX7_weapon, 3, (some FieldType.int), [], { frames := 6, cells := 1, slots := 6, locals := 82 })
theorem kiX7_weapon : KI mX7_weapon 1 := ⟨rfl, GW_of (i := 319) (by decide +kernel) rfl, GW_of (i := 45) (by decide +kernel) rfl, ⟨by decide +kernel, by decide +kernel⟩, by decide +kernel⟩
def mX7_weaponAt : MI := (yX7_weaponAt, cX7_weaponAt, 2, (some (FieldType.object "PisteLine$Weapon")), [], { frames := 0, cells := 0, slots := 0, locals := 0 })
theorem kiX7_weaponAt : KI mX7_weaponAt 1 := ⟨rfl, GW_of (i := 374) (by decide +kernel) rfl, GW_of (i := 45) (by decide +kernel) rfl, ⟨by decide +kernel, by decide +kernel⟩, by decide +kernel⟩
def mX7_weaponOf : MI := (yX7_weaponOf, cX7_weaponOf, 2, (some FieldType.int), [], { frames := 6, cells := 1, slots := 6, locals := 82 })
theorem kiX7_weaponOf : KI mX7_weaponOf 1 := ⟨rfl, GW_of (i := 701) (by decide +kernel) rfl, GW_of (i := 45) (by decide +kernel) rfl, ⟨by decide +kernel, by decide +kernel⟩, by decide +kernel⟩
def mX7_winner : MI := (yX7_winner, cX7_winner, 3, (some FieldType.int), [], { frames := 6, cells := 1, slots := 6, locals := 82 })
theorem kiX7_winner : KI mX7_winner 1 := ⟨rfl, GW_of (i := 739) (by decide +kernel) rfl, GW_of (i := 45) (by decide +kernel) rfl, ⟨by decide +kernel, by decide +kernel⟩, by decide +kernel⟩
def mX7_won : MI := (yX7_won, cX7_won, 3, (some FieldType.int), [], { frames := 6, cells := 1, slots := 6, locals := 85 })
theorem kiX7_won : KI mX7_won 1 := ⟨rfl, GW_of (i := 833) (by decide +kernel) rfl, GW_of (i := 45) (by decide +kernel) rfl, ⟨by decide +kernel, by decide +kernel⟩, by decide +kernel⟩
def mX8_adds : MI := (yX8_adds, cX8_adds, 5, none, [], { frames := 0, cells := 0, slots := 0, locals := 0 })
theorem kiX8_adds : KI mX8_adds 4 := ⟨rfl, GW_of (i := 1225) (by decide +kernel) rfl, GW_of (i := 49) (by decide +kernel) rfl, ⟨by decide +kernel, by decide +kernel⟩, by decide +kernel⟩
def mX8_allez : MI := (yX8_allez, cX8_allez, 4, (some FieldType.int), [], { frames := 5, cells := 0, slots := 0, locals := 120 })
theorem kiX8_allez : KI mX8_allez 0 := ⟨rfl, GW_of (i := 1132) (by decide +kernel) rfl, GW_of (i := 49) (by decide +kernel) rfl, ⟨by decide +kernel, by decide +kernel⟩, by decide +kernel⟩
def mX8_appeal : MI := (yX8_appeal, cX8_appeal, 8, (some FieldType.int), [], { frames := 5, cells := 0, slots := 0, locals := 124 })
theorem kiX8_appeal : KI mX8_appeal 2 := ⟨rfl, GW_of (i := 1164) (by decide +kernel) rfl, GW_of (i := 49) (by decide +kernel) rfl, ⟨by decide +kernel, by decide +kernel⟩, by decide +kernel⟩
def mX8_appeals : MI := (yX8_appeals, cX8_appeals, 3, (some FieldType.int), [], { frames := 2, cells := 0, slots := 0, locals := 43 })
theorem kiX8_appeals : KI mX8_appeals 2 := ⟨rfl, GW_of (i := 1205) (by decide +kernel) rfl, GW_of (i := 49) (by decide +kernel) rfl, ⟨by decide +kernel, by decide +kernel⟩, by decide +kernel⟩
def mX8_areDecided : MI := (yX8_areDecided, cX8_areDecided, 3, (some FieldType.boolean), [], { frames := 4, cells := 0, slots := 0, locals := 99 })
theorem kiX8_areDecided : KI mX8_areDecided 0 := ⟨rfl, GW_of (i := 1249) (by decide +kernel) rfl, GW_of (i := 49) (by decide +kernel) rfl, ⟨by decide +kernel, by decide +kernel⟩, by decide +kernel⟩
def mX8_begin : MI := (yX8_begin, cX8_begin, 6, (some FieldType.int), [], { frames := 5, cells := 0, slots := 0, locals := 120 })
theorem kiX8_begin : KI mX8_begin 3 := ⟨rfl, GW_of (i := 1102) (by decide +kernel) rfl, GW_of (i := 49) (by decide +kernel) rfl, ⟨by decide +kernel, by decide +kernel⟩, by decide +kernel⟩
def mX8_change : MI := (yX8_change, cX8_change, 5, (some FieldType.int), [], { frames := 2, cells := 0, slots := 0, locals := 45 })
theorem kiX8_change : KI mX8_change 2 := ⟨rfl, GW_of (i := 1125) (by decide +kernel) rfl, GW_of (i := 49) (by decide +kernel) rfl, ⟨by decide +kernel, by decide +kernel⟩, by decide +kernel⟩
def mX8_contact : MI := (yX8_contact, cX8_contact, 4, (some FieldType.int), [], { frames := 3, cells := 0, slots := 0, locals := 64 })
theorem kiX8_contact : KI mX8_contact 3 := ⟨rfl, GW_of (i := 1136) (by decide +kernel) rfl, GW_of (i := 49) (by decide +kernel) rfl, ⟨by decide +kernel, by decide +kernel⟩, by decide +kernel⟩
def mX8_counts : MI := (yX8_counts, cX8_counts, 3, (some FieldType.boolean), [], { frames := 0, cells := 0, slots := 0, locals := 0 })
theorem kiX8_counts : KI mX8_counts 2 := ⟨rfl, GW_of (i := 1082) (by decide +kernel) rfl, GW_of (i := 49) (by decide +kernel) rfl, ⟨by decide +kernel, by decide +kernel⟩, by decide +kernel⟩
def mX8_drawPools : MI := (yX8_drawPools, cX8_drawPools, 6, (some FieldType.int), [], { frames := 1, cells := 0, slots := 0, locals := 23 })
theorem kiX8_drawPools : KI mX8_drawPools 1 := ⟨rfl, GW_of (i := 1209) (by decide +kernel) rfl, GW_of (i := 49) (by decide +kernel) rfl, ⟨by decide +kernel, by decide +kernel⟩, by decide +kernel⟩
def mX8_drawTableau : MI := (yX8_drawTableau, cX8_drawTableau, 4, (some FieldType.int), [], { frames := 5, cells := 0, slots := 0, locals := 124 })
theorem kiX8_drawTableau : KI mX8_drawTableau 0 := ⟨rfl, GW_of (i := 1245) (by decide +kernel) rfl, GW_of (i := 49) (by decide +kernel) rfl, ⟨by decide +kernel, by decide +kernel⟩, by decide +kernel⟩
def mX8_event : MI := (yX8_event, cX8_event, 4, (some FieldType.int), [], { frames := 2, cells := 0, slots := 0, locals := 41 })
theorem kiX8_event : KI mX8_event 2 := ⟨rfl, GW_of (i := 1152) (by decide +kernel) rfl, GW_of (i := 49) (by decide +kernel) rfl, ⟨by decide +kernel, by decide +kernel⟩, by decide +kernel⟩
def mX8_fencer : MI := (yX8_fencer, cX8_fencer, 1, (some FieldType.int), [], { frames := 1, cells := 0, slots := 0, locals := 23 })
theorem kiX8_fencer : KI mX8_fencer 0 := ⟨rfl, GW_of (i := 1039) (by decide +kernel) rfl, GW_of (i := 49) (by decide +kernel) rfl, ⟨by decide +kernel, by decide +kernel⟩, by decide +kernel⟩
def mX8_fencerAt : MI := (yX8_fencerAt, cX8_fencerAt, 3, (some FieldType.int), [], { frames := 0, cells := 0, slots := 0, locals := 0 })
theorem kiX8_fencerAt : KI mX8_fencerAt 2 := ⟨rfl, GW_of (i := 1110) (by decide +kernel) rfl, GW_of (i := 49) (by decide +kernel) rfl, ⟨by decide +kernel, by decide +kernel⟩, by decide +kernel⟩
def mX8_fencerOf : MI := (yX8_fencerOf, cX8_fencerOf, 4, (some FieldType.int), [], { frames := 2, cells := 0, slots := 0, locals := 43 })
theorem kiX8_fencerOf : KI mX8_fencerOf 2 := ⟨rfl, GW_of (i := 1180) (by decide +kernel) rfl, GW_of (i := 49) (by decide +kernel) rfl, ⟨by decide +kernel, by decide +kernel⟩, by decide +kernel⟩
def mX8_fencers : MI := (yX8_fencers, cX8_fencers, 1, (some FieldType.int), [], { frames := 0, cells := 0, slots := 0, locals := 0 })
theorem kiX8_fencers : KI mX8_fencers 0 := ⟨rfl, GW_of (i := 1090) (by decide +kernel) rfl, GW_of (i := 49) (by decide +kernel) rfl, ⟨by decide +kernel, by decide +kernel⟩, by decide +kernel⟩
def mX8_follows : MI := (yX8_follows, cX8_follows, 6, none, [], { frames := 4, cells := 0, slots := 0, locals := 99 })
theorem kiX8_follows : KI mX8_follows 0 := ⟨rfl, GW_of (i := 1066) (by decide +kernel) rfl, GW_of (i := 49) (by decide +kernel) rfl, ⟨by decide +kernel, by decide +kernel⟩, by decide +kernel⟩
def mX8_goes : MI := (yX8_goes, cX8_goes, 4, (some FieldType.boolean), [], { frames := 0, cells := 0, slots := 0, locals := 0 })
theorem kiX8_goes : KI mX8_goes 3 := ⟨rfl, GW_of (i := 1043) (by decide +kernel) rfl, GW_of (i := 49) (by decide +kernel) rfl, ⟨by decide +kernel, by decide +kernel⟩, by decide +kernel⟩
def mX8_gone : MI := (yX8_gone, cX8_gone, 1, (some FieldType.int), [], { frames := 0, cells := 0, slots := 0, locals := 0 })
theorem kiX8_gone : KI mX8_gone 0 := ⟨rfl, GW_of (i := 1261) (by decide +kernel) rfl, GW_of (i := 49) (by decide +kernel) rfl, ⟨by decide +kernel, by decide +kernel⟩, by decide +kernel⟩
def mX8_halt : MI := (yX8_halt, cX8_halt, 3, (some FieldType.int), [], { frames := 5, cells := 0, slots := 0, locals := 124 })
theorem kiX8_halt : KI mX8_halt 0 := ⟨rfl, GW_of (i := 1160) (by decide +kernel) rfl, GW_of (i := 49) (by decide +kernel) rfl, ⟨by decide +kernel, by decide +kernel⟩, by decide +kernel⟩
def mX8_hears : MI := (yX8_hears, cX8_hears, 1, (some FieldType.boolean), [], { frames := 2, cells := 0, slots := 0, locals := 41 })
theorem kiX8_hears : KI mX8_hears 0 := ⟨rfl, GW_of (i := 1148) (by decide +kernel) rfl, GW_of (i := 49) (by decide +kernel) rfl, ⟨by decide +kernel, by decide +kernel⟩, by decide +kernel⟩
def mX8_in : MI := (yX8_in, cX8_in, 3, (some FieldType.boolean), [], { frames := 0, cells := 0, slots := 0, locals := 0 })
theorem kiX8_in : KI mX8_in 3 := ⟨rfl, GW_of (i := 1054) (by decide +kernel) rfl, GW_of (i := 49) (by decide +kernel) rfl, ⟨by decide +kernel, by decide +kernel⟩, by decide +kernel⟩
def mX8_index : MI := (yX8_index, cX8_index, 2, (some FieldType.int), [], { frames := 5, cells := 0, slots := 0, locals := 120 })
theorem kiX8_index : KI mX8_index 1 := ⟨rfl, GW_of (i := 1229) (by decide +kernel) rfl, GW_of (i := 49) (by decide +kernel) rfl, ⟨by decide +kernel, by decide +kernel⟩, by decide +kernel⟩
def mX8_init : MI := (yX8_init, cX8_init, 2, none, [], { frames := 1, cells := 20, slots := 20260, locals := 12 })
theorem kiX8_init : KI mX8_init 1 := ⟨rfl, GW_of (i := 926) (by decide +kernel) rfl, GW_of (i := 49) (by decide +kernel) rfl, ⟨by decide +kernel, by decide +kernel⟩, by decide +kernel⟩
def mX8_isAhead : MI := (yX8_isAhead, cX8_isAhead, 4, (some FieldType.boolean), [], { frames := 0, cells := 0, slots := 0, locals := 0 })
theorem kiX8_isAhead : KI mX8_isAhead 2 := ⟨rfl, GW_of (i := 1241) (by decide +kernel) rfl, GW_of (i := 49) (by decide +kernel) rfl, ⟨by decide +kernel, by decide +kernel⟩, by decide +kernel⟩
def mX8_isBout : MI := (yX8_isBout, cX8_isBout, 2, (some FieldType.boolean), [], { frames := 1, cells := 0, slots := 0, locals := 22 })
theorem kiX8_isBout : KI mX8_isBout 1 := ⟨rfl, GW_of (i := 1106) (by decide +kernel) rfl, GW_of (i := 49) (by decide +kernel) rfl, ⟨by decide +kernel, by decide +kernel⟩, by decide +kernel⟩
def mX8_isFencer : MI := (yX8_isFencer, cX8_isFencer, 2, (some FieldType.boolean), [], { frames := 1, cells := 0, slots := 0, locals := 22 })
theorem kiX8_isFencer : KI mX8_isFencer 1 := ⟨rfl, GW_of (i := 1051) (by decide +kernel) rfl, GW_of (i := 49) (by decide +kernel) rfl, ⟨by decide +kernel, by decide +kernel⟩, by decide +kernel⟩
def mX8_isFencing : MI := (yX8_isFencing, cX8_isFencing, 1, (some FieldType.boolean), [], { frames := 0, cells := 0, slots := 0, locals := 0 })
theorem kiX8_isFencing : KI mX8_isFencing 0 := ⟨rfl, GW_of (i := 1172) (by decide +kernel) rfl, GW_of (i := 49) (by decide +kernel) rfl, ⟨by decide +kernel, by decide +kernel⟩, by decide +kernel⟩
def mX8_isFit : MI := (yX8_isFit, cX8_isFit, 4, (some FieldType.boolean), [], { frames := 1, cells := 0, slots := 0, locals := 22 })
theorem kiX8_isFit : KI mX8_isFit 3 := ⟨rfl, GW_of (i := 1118) (by decide +kernel) rfl, GW_of (i := 49) (by decide +kernel) rfl, ⟨by decide +kernel, by decide +kernel⟩, by decide +kernel⟩
def mX8_isSide : MI := (yX8_isSide, cX8_isSide, 1, (some FieldType.boolean), [], { frames := 1, cells := 0, slots := 0, locals := 22 })
theorem kiX8_isSide : KI mX8_isSide 1 := ⟨rfl, GW_of (i := 1128) (by decide +kernel) rfl, GW_of (i := 49) (by decide +kernel) rfl, ⟨by decide +kernel, by decide +kernel⟩, by decide +kernel⟩
def mX8_isTime : MI := (yX8_isTime, cX8_isTime, 4, (some FieldType.boolean), [], { frames := 2, cells := 0, slots := 0, locals := 41 })
theorem kiX8_isTime : KI mX8_isTime 1 := ⟨rfl, GW_of (i := 1140) (by decide +kernel) rfl, GW_of (i := 49) (by decide +kernel) rfl, ⟨by decide +kernel, by decide +kernel⟩, by decide +kernel⟩
def mX8_isWeapon : MI := (yX8_isWeapon, cX8_isWeapon, 2, (some FieldType.boolean), [], { frames := 1, cells := 0, slots := 0, locals := 22 })
theorem kiX8_isWeapon : KI mX8_isWeapon 1 := ⟨rfl, GW_of (i := 1062) (by decide +kernel) rfl, GW_of (i := 49) (by decide +kernel) rfl, ⟨by decide +kernel, by decide +kernel⟩, by decide +kernel⟩
def mX8_judged : MI := (yX8_judged, cX8_judged, 10, (some FieldType.int), [], { frames := 1, cells := 0, slots := 0, locals := 22 })
theorem kiX8_judged : KI mX8_judged 1 := ⟨rfl, GW_of (i := 1078) (by decide +kernel) rfl, GW_of (i := 49) (by decide +kernel) rfl, ⟨by decide +kernel, by decide +kernel⟩, by decide +kernel⟩
def mX8_latest : MI := (yX8_latest, cX8_latest, 2, (some FieldType.int), [], { frames := 1, cells := 0, slots := 0, locals := 20 })
theorem kiX8_latest : KI mX8_latest 0 := ⟨rfl, GW_of (i := 1144) (by decide +kernel) rfl, GW_of (i := 49) (by decide +kernel) rfl, ⟨by decide +kernel, by decide +kernel⟩, by decide +kernel⟩
def mX8_mark : MI := (yX8_mark, cX8_mark, 2, (some FieldType.int), [], { frames := 2, cells := 0, slots := 0, locals := 43 })
theorem kiX8_mark : KI mX8_mark 1 := ⟨rfl, GW_of (i := 1094) (by decide +kernel) rfl, GW_of (i := 49) (by decide +kernel) rfl, ⟨by decide +kernel, by decide +kernel⟩, by decide +kernel⟩
def mX8_nodeWinner : MI := (yX8_nodeWinner, cX8_nodeWinner, 2, (some FieldType.int), [], { frames := 1, cells := 0, slots := 0, locals := 23 })
theorem kiX8_nodeWinner : KI mX8_nodeWinner 1 := ⟨rfl, GW_of (i := 1257) (by decide +kernel) rfl, GW_of (i := 49) (by decide +kernel) rfl, ⟨by decide +kernel, by decide +kernel⟩, by decide +kernel⟩
def mX8_owner : MI := (yX8_owner, cX8_owner, 2, (some FieldType.int), [], { frames := 2, cells := 0, slots := 0, locals := 43 })
theorem kiX8_owner : KI mX8_owner 1 := ⟨rfl, GW_of (i := 1098) (by decide +kernel) rfl, GW_of (i := 49) (by decide +kernel) rfl, ⟨by decide +kernel, by decide +kernel⟩, by decide +kernel⟩
def mX8_phrases : MI := (yX8_phrases, cX8_phrases, 2, (some FieldType.int), [], { frames := 2, cells := 0, slots := 0, locals := 43 })
theorem kiX8_phrases : KI mX8_phrases 1 := ⟨rfl, GW_of (i := 1197) (by decide +kernel) rfl, GW_of (i := 49) (by decide +kernel) rfl, ⟨by decide +kernel, by decide +kernel⟩, by decide +kernel⟩
def mX8_piste : MI := (yX8_piste, cX8_piste, 1, (some FieldType.int), [], { frames := 0, cells := 0, slots := 0, locals := 0 })
theorem kiX8_piste : KI mX8_piste 0 := ⟨rfl, GW_of (i := 1168) (by decide +kernel) rfl, GW_of (i := 49) (by decide +kernel) rfl, ⟨by decide +kernel, by decide +kernel⟩, by decide +kernel⟩
def mX8_poolBouts : MI := (yX8_poolBouts, cX8_poolBouts, 1, (some FieldType.int), [], { frames := 0, cells := 0, slots := 0, locals := 0 })
theorem kiX8_poolBouts : KI mX8_poolBouts 0 := ⟨rfl, GW_of (i := 1213) (by decide +kernel) rfl, GW_of (i := 49) (by decide +kernel) rfl, ⟨by decide +kernel, by decide +kernel⟩, by decide +kernel⟩
def mX8_ranked : MI := (yX8_ranked, cX8_ranked, 6, (some FieldType.int), [], { frames := 1, cells := 0, slots := 0, locals := 23 })
theorem kiX8_ranked : KI mX8_ranked 1 := ⟨rfl, GW_of (i := 1237) (by decide +kernel) rfl, GW_of (i := 49) (by decide +kernel) rfl, ⟨by decide +kernel, by decide +kernel⟩, by decide +kernel⟩
def mX8_rankedAt : MI := (yX8_rankedAt, cX8_rankedAt, 2, (some FieldType.int), [], { frames := 5, cells := 0, slots := 0, locals := 120 })
theorem kiX8_rankedAt : KI mX8_rankedAt 1 := ⟨rfl, GW_of (i := 1233) (by decide +kernel) rfl, GW_of (i := 49) (by decide +kernel) rfl, ⟨by decide +kernel, by decide +kernel⟩, by decide +kernel⟩
def mX8_right : MI := (yX8_right, cX8_right, 3, (some FieldType.int), [], { frames := 3, cells := 0, slots := 0, locals := 64 })
theorem kiX8_right : KI mX8_right 2 := ⟨rfl, GW_of (i := 1156) (by decide +kernel) rfl, GW_of (i := 49) (by decide +kernel) rfl, ⟨by decide +kernel, by decide +kernel⟩, by decide +kernel⟩
def mX8_score : MI := (yX8_score, cX8_score, 3, (some FieldType.int), [], { frames := 4, cells := 0, slots := 0, locals := 99 })
theorem kiX8_score : KI mX8_score 2 := ⟨rfl, GW_of (i := 1184) (by decide +kernel) rfl, GW_of (i := 49) (by decide +kernel) rfl, ⟨by decide +kernel, by decide +kernel⟩, by decide +kernel⟩
def mX8_scoreAnew : MI := (yX8_scoreAnew, cX8_scoreAnew, 3, (some FieldType.int), [], { frames := 5, cells := 0, slots := 0, locals := 121 })
theorem kiX8_scoreAnew : KI mX8_scoreAnew 2 := ⟨rfl, GW_of (i := 1188) (by decide +kernel) rfl, GW_of (i := 49) (by decide +kernel) rfl, ⟨by decide +kernel, by decide +kernel⟩, by decide +kernel⟩
def mX8_size : MI := (yX8_size, cX8_size, 1, (some FieldType.int), [], { frames := 0, cells := 0, slots := 0, locals := 0 })
theorem kiX8_size : KI mX8_size 0 := ⟨rfl, GW_of (i := 1253) (by decide +kernel) rfl, GW_of (i := 49) (by decide +kernel) rfl, ⟨by decide +kernel, by decide +kernel⟩, by decide +kernel⟩
def mX8_slotOf : MI := (yX8_slotOf, cX8_slotOf, 1, (some FieldType.int), [], { frames := 0, cells := 0, slots := 0, locals := 0 })
theorem kiX8_slotOf : KI mX8_slotOf 1 := ⟨rfl, GW_of (i := 1121) (by decide +kernel) rfl, GW_of (i := 49) (by decide +kernel) rfl, ⟨by decide +kernel, by decide +kernel⟩, by decide +kernel⟩
def mX8_strikes : MI := (yX8_strikes, cX8_strikes, 3, (some FieldType.boolean), [], { frames := 0, cells := 0, slots := 0, locals := 0 })
theorem kiX8_strikes : KI mX8_strikes 2 := ⟨rfl, GW_of (i := 1086) (by decide +kernel) rfl, GW_of (i := 49) (by decide +kernel) rfl, ⟨by decide +kernel, by decide +kernel⟩, by decide +kernel⟩
def mX8_sums : MI := (yX8_sums, cX8_sums, 2, none, [], { frames := 4, cells := 0, slots := 0, locals := 99 })
theorem kiX8_sums : KI mX8_sums 0 := ⟨rfl, GW_of (i := 1221) (by decide +kernel) rfl, GW_of (i := 49) (by decide +kernel) rfl, ⟨by decide +kernel, by decide +kernel⟩, by decide +kernel⟩
def mX8_tells : MI := (yX8_tells, cX8_tells, 5, none, [], { frames := 3, cells := 0, slots := 0, locals := 75 })
theorem kiX8_tells : KI mX8_tells 1 := ⟨rfl, GW_of (i := 1070) (by decide +kernel) rfl, GW_of (i := 49) (by decide +kernel) rfl, ⟨by decide +kernel, by decide +kernel⟩, by decide +kernel⟩
def mX8_test : MI := (yX8_test, cX8_test, 6, (some FieldType.boolean), [], { frames := 5, cells := 0, slots := 0, locals := 124 })
theorem kiX8_test : KI mX8_test 3 := ⟨rfl, GW_of (i := 1058) (by decide +kernel) rfl, GW_of (i := 49) (by decide +kernel) rfl, ⟨by decide +kernel, by decide +kernel⟩, by decide +kernel⟩
def mX8_thrown : MI := (yX8_thrown, cX8_thrown, 1, (some FieldType.int), [], { frames := 0, cells := 0, slots := 0, locals := 0 })
theorem kiX8_thrown : KI mX8_thrown 0 := ⟨rfl, GW_of (i := 1035) (by decide +kernel) rfl, GW_of (i := 49) (by decide +kernel) rfl, ⟨by decide +kernel, by decide +kernel⟩, by decide +kernel⟩
def mX8_touched : MI := (yX8_touched, cX8_touched, 5, (some FieldType.int), [], { frames := 2, cells := 0, slots := 0, locals := 51 })
theorem kiX8_touched : KI mX8_touched 2 := ⟨rfl, GW_of (i := 1074) (by decide +kernel) rfl, GW_of (i := 49) (by decide +kernel) rfl, ⟨by decide +kernel, by decide +kernel⟩, by decide +kernel⟩
def mX8_touches : MI := (yX8_touches, cX8_touches, 4, (some FieldType.int), [], { frames := 3, cells := 0, slots := 0, locals := 75 })
theorem kiX8_touches : KI mX8_touches 2 := ⟨rfl, GW_of (i := 1201) (by decide +kernel) rfl, GW_of (i := 49) (by decide +kernel) rfl, ⟨by decide +kernel, by decide +kernel⟩, by decide +kernel⟩
def mX8_weapon : MI := (yX8_weapon, cX8_weapon, 2, (some FieldType.int), [], { frames := 2, cells := 0, slots := 0, locals := 43 })
theorem kiX8_weapon : KI mX8_weapon 1 := ⟨rfl, GW_of (i := 1047) (by decide +kernel) rfl, GW_of (i := 49) (by decide +kernel) rfl, ⟨by decide +kernel, by decide +kernel⟩, by decide +kernel⟩
def mX8_weaponOf : MI := (yX8_weaponOf, cX8_weaponOf, 2, (some FieldType.int), [], { frames := 2, cells := 0, slots := 0, locals := 42 })
theorem kiX8_weaponOf : KI mX8_weaponOf 1 := ⟨rfl, GW_of (i := 1176) (by decide +kernel) rfl, GW_of (i := 49) (by decide +kernel) rfl, ⟨by decide +kernel, by decide +kernel⟩, by decide +kernel⟩
def mX8_winner : MI := (yX8_winner, cX8_winner, 2, (some FieldType.int), [], { frames := 5, cells := 0, slots := 0, locals := 120 })
theorem kiX8_winner : KI mX8_winner 1 := ⟨rfl, GW_of (i := 1193) (by decide +kernel) rfl, GW_of (i := 49) (by decide +kernel) rfl, ⟨by decide +kernel, by decide +kernel⟩, by decide +kernel⟩
def mX8_winnerOf : MI := (yX8_winnerOf, cX8_winnerOf, 2, (some FieldType.int), [], { frames := 4, cells := 0, slots := 0, locals := 99 })
theorem kiX8_winnerOf : KI mX8_winnerOf 1 := ⟨rfl, GW_of (i := 1114) (by decide +kernel) rfl, GW_of (i := 49) (by decide +kernel) rfl, ⟨by decide +kernel, by decide +kernel⟩, by decide +kernel⟩
def mX8_won : MI := (yX8_won, cX8_won, 2, (some FieldType.int), [], { frames := 5, cells := 0, slots := 0, locals := 120 })
theorem kiX8_won : KI mX8_won 1 := ⟨rfl, GW_of (i := 1217) (by decide +kernel) rfl, GW_of (i := 49) (by decide +kernel) rfl, ⟨by decide +kernel, by decide +kernel⟩, by decide +kernel⟩
theorem ca_L_41 : VI RL 41 mX7_allez 0 7 := ⟨kiX7_allez, GW_of (i := 550) (by decide +kernel) rfl, GW_of (i := 551) (by decide +kernel) rfl, GW_of (i := 552) (by decide +kernel) rfl, TX7, 10, rfl⟩
theorem ca_L_54 : VI RL 54 mX7_appeal 2 7 := ⟨kiX7_appeal, GW_of (i := 674) (by decide +kernel) rfl, GW_of (i := 675) (by decide +kernel) rfl, GW_of (i := 676) (by decide +kernel) rfl, TX7, 10, rfl⟩
theorem ca_L_78 : VI RL 78 mX7_appeals 2 7 := ⟨kiX7_appeals, GW_of (i := 761) (by decide +kernel) rfl, GW_of (i := 762) (by decide +kernel) rfl, GW_of (i := 763) (by decide +kernel) rfl, TX7, 10, rfl⟩
theorem ca_L_33 : VI RL 33 mX7_begin 3 7 := ⟨kiX7_begin, GW_of (i := 504) (by decide +kernel) rfl, GW_of (i := 505) (by decide +kernel) rfl, GW_of (i := 506) (by decide +kernel) rfl, TX7, 10, rfl⟩
theorem ca_L_37 : VI RL 37 mX7_change 2 7 := ⟨kiX7_change, GW_of (i := 528) (by decide +kernel) rfl, GW_of (i := 529) (by decide +kernel) rfl, GW_of (i := 530) (by decide +kernel) rfl, TX7, 10, rfl⟩
theorem ca_L_44 : VI RL 44 mX7_contact 3 7 := ⟨kiX7_contact, GW_of (i := 598) (by decide +kernel) rfl, GW_of (i := 599) (by decide +kernel) rfl, GW_of (i := 600) (by decide +kernel) rfl, TX7, 10, rfl⟩
theorem ca_L_81 : VI RL 81 mX7_drawPools 1 7 := ⟨kiX7_drawPools, GW_of (i := 768) (by decide +kernel) rfl, GW_of (i := 769) (by decide +kernel) rfl, GW_of (i := 770) (by decide +kernel) rfl, TX7, 10, rfl⟩
theorem ca_L_93 : VI RL 93 mX7_drawTableau 0 7 := ⟨kiX7_drawTableau, GW_of (i := 889) (by decide +kernel) rfl, GW_of (i := 890) (by decide +kernel) rfl, GW_of (i := 891) (by decide +kernel) rfl, TX7, 10, rfl⟩
theorem ca_L_7 : VI RL 7 mX7_fencer 0 7 := ⟨kiX7_fencer, GW_of (i := 214) (by decide +kernel) rfl, GW_of (i := 215) (by decide +kernel) rfl, GW_of (i := 216) (by decide +kernel) rfl, TX7, 10, rfl⟩
theorem ca_L_60 : VI RL 60 mX7_fencerOf 2 7 := ⟨kiX7_fencerOf, GW_of (i := 705) (by decide +kernel) rfl, GW_of (i := 706) (by decide +kernel) rfl, GW_of (i := 707) (by decide +kernel) rfl, TX7, 10, rfl⟩
theorem ca_L_51 : VI RL 51 mX7_halt 0 7 := ⟨kiX7_halt, GW_of (i := 636) (by decide +kernel) rfl, GW_of (i := 637) (by decide +kernel) rfl, GW_of (i := 638) (by decide +kernel) rfl, TX7, 10, rfl⟩
theorem ca_L_87 : VI RL 87 mX7_index 1 7 := ⟨kiX7_index, GW_of (i := 854) (by decide +kernel) rfl, GW_of (i := 855) (by decide +kernel) rfl, GW_of (i := 856) (by decide +kernel) rfl, TX7, 10, rfl⟩
theorem ca_L_99 : SI RL 99 mL_cell 2 := ⟨kiL_cell, GW_of (i := 207) (by decide +kernel) rfl, GW_of (i := 208) (by decide +kernel) rfl⟩
theorem ca_L_105 : II RL 105 mX7_init 1 := ⟨kiX7_init, GW_of (i := 63) (by decide +kernel) rfl, GW_of (i := 64) (by decide +kernel) rfl, rfl⟩
theorem ca_L_110 : II RL 110 mX8_init 1 := ⟨kiX8_init, GW_of (i := 924) (by decide +kernel) rfl, GW_of (i := 925) (by decide +kernel) rfl, rfl⟩
theorem ca_L_111 : WI RL 111 mL_fencer 2 := ⟨by decide, GW_of (i := 212) (by decide +kernel) rfl, GW_of (i := 44) (by decide +kernel) rfl, ⟨by decide +kernel, by decide +kernel⟩, GW_of (i := 210) (by decide +kernel) rfl, GW_of (i := 211) (by decide +kernel) rfl, by decide +kernel⟩
theorem ca_L_114 : VI RL 114 mX8_fencer 0 8 := ⟨kiX8_fencer, GW_of (i := 1036) (by decide +kernel) rfl, GW_of (i := 1037) (by decide +kernel) rfl, GW_of (i := 1038) (by decide +kernel) rfl, TX8, 34, rfl⟩
theorem ca_L_115 : VI RL 115 mX8_thrown 0 8 := ⟨kiX8_thrown, GW_of (i := 1032) (by decide +kernel) rfl, GW_of (i := 1033) (by decide +kernel) rfl, GW_of (i := 1034) (by decide +kernel) rfl, TX8, 34, rfl⟩
theorem ca_L_118 : WI RL 118 mL_weapon 3 := ⟨by decide, GW_of (i := 314) (by decide +kernel) rfl, GW_of (i := 44) (by decide +kernel) rfl, ⟨by decide +kernel, by decide +kernel⟩, GW_of (i := 312) (by decide +kernel) rfl, GW_of (i := 313) (by decide +kernel) rfl, by decide +kernel⟩
theorem ca_L_121 : VI RL 121 mX8_weapon 1 8 := ⟨kiX8_weapon, GW_of (i := 1044) (by decide +kernel) rfl, GW_of (i := 1045) (by decide +kernel) rfl, GW_of (i := 1046) (by decide +kernel) rfl, TX8, 34, rfl⟩
theorem ca_L_122 : WI RL 122 mL_test 5 := ⟨by decide, GW_of (i := 365) (by decide +kernel) rfl, GW_of (i := 44) (by decide +kernel) rfl, ⟨by decide +kernel, by decide +kernel⟩, GW_of (i := 363) (by decide +kernel) rfl, GW_of (i := 364) (by decide +kernel) rfl, by decide +kernel⟩
theorem ca_L_125 : VI RL 125 mX8_test 3 8 := ⟨kiX8_test, GW_of (i := 1055) (by decide +kernel) rfl, GW_of (i := 1056) (by decide +kernel) rfl, GW_of (i := 1057) (by decide +kernel) rfl, TX8, 34, rfl⟩
theorem ca_L_126 : VI RL 126 mX7_fencers 0 7 := ⟨kiX7_fencers, GW_of (i := 183) (by decide +kernel) rfl, GW_of (i := 184) (by decide +kernel) rfl, GW_of (i := 185) (by decide +kernel) rfl, TX7, 10, rfl⟩
theorem ca_L_129 : VI RL 129 mX8_fencers 0 8 := ⟨kiX8_fencers, GW_of (i := 1087) (by decide +kernel) rfl, GW_of (i := 1088) (by decide +kernel) rfl, GW_of (i := 1089) (by decide +kernel) rfl, TX8, 34, rfl⟩
theorem ca_L_130 : WI RL 130 mL_mark 3 := ⟨by decide, GW_of (i := 489) (by decide +kernel) rfl, GW_of (i := 44) (by decide +kernel) rfl, ⟨by decide +kernel, by decide +kernel⟩, GW_of (i := 487) (by decide +kernel) rfl, GW_of (i := 488) (by decide +kernel) rfl, by decide +kernel⟩
theorem ca_L_132 : VI RL 132 mX8_mark 1 8 := ⟨kiX8_mark, GW_of (i := 1091) (by decide +kernel) rfl, GW_of (i := 1092) (by decide +kernel) rfl, GW_of (i := 1093) (by decide +kernel) rfl, TX8, 34, rfl⟩
theorem ca_L_133 : WI RL 133 mL_owner 3 := ⟨by decide, GW_of (i := 496) (by decide +kernel) rfl, GW_of (i := 44) (by decide +kernel) rfl, ⟨by decide +kernel, by decide +kernel⟩, GW_of (i := 494) (by decide +kernel) rfl, GW_of (i := 495) (by decide +kernel) rfl, by decide +kernel⟩
theorem ca_L_135 : VI RL 135 mX8_owner 1 8 := ⟨kiX8_owner, GW_of (i := 1095) (by decide +kernel) rfl, GW_of (i := 1096) (by decide +kernel) rfl, GW_of (i := 1097) (by decide +kernel) rfl, TX8, 34, rfl⟩
theorem ca_L_136 : WI RL 136 mL_begin 5 := ⟨by decide, GW_of (i := 503) (by decide +kernel) rfl, GW_of (i := 44) (by decide +kernel) rfl, ⟨by decide +kernel, by decide +kernel⟩, GW_of (i := 501) (by decide +kernel) rfl, GW_of (i := 502) (by decide +kernel) rfl, by decide +kernel⟩
theorem ca_L_138 : VI RL 138 mX8_begin 3 8 := ⟨kiX8_begin, GW_of (i := 1099) (by decide +kernel) rfl, GW_of (i := 1100) (by decide +kernel) rfl, GW_of (i := 1101) (by decide +kernel) rfl, TX8, 34, rfl⟩
theorem ca_L_139 : WI RL 139 mL_change 4 := ⟨by decide, GW_of (i := 527) (by decide +kernel) rfl, GW_of (i := 44) (by decide +kernel) rfl, ⟨by decide +kernel, by decide +kernel⟩, GW_of (i := 525) (by decide +kernel) rfl, GW_of (i := 526) (by decide +kernel) rfl, by decide +kernel⟩
theorem ca_L_142 : VI RL 142 mX8_change 2 8 := ⟨kiX8_change, GW_of (i := 1122) (by decide +kernel) rfl, GW_of (i := 1123) (by decide +kernel) rfl, GW_of (i := 1124) (by decide +kernel) rfl, TX8, 34, rfl⟩
theorem ca_L_143 : WI RL 143 mL_allez 2 := ⟨by decide, GW_of (i := 549) (by decide +kernel) rfl, GW_of (i := 44) (by decide +kernel) rfl, ⟨by decide +kernel, by decide +kernel⟩, GW_of (i := 547) (by decide +kernel) rfl, GW_of (i := 548) (by decide +kernel) rfl, by decide +kernel⟩
theorem ca_L_145 : VI RL 145 mX8_allez 0 8 := ⟨kiX8_allez, GW_of (i := 1129) (by decide +kernel) rfl, GW_of (i := 1130) (by decide +kernel) rfl, GW_of (i := 1131) (by decide +kernel) rfl, TX8, 34, rfl⟩
theorem ca_L_146 : WI RL 146 mL_contact 5 := ⟨by decide, GW_of (i := 597) (by decide +kernel) rfl, GW_of (i := 44) (by decide +kernel) rfl, ⟨by decide +kernel, by decide +kernel⟩, GW_of (i := 595) (by decide +kernel) rfl, GW_of (i := 596) (by decide +kernel) rfl, by decide +kernel⟩
theorem ca_L_149 : VI RL 149 mX8_contact 3 8 := ⟨kiX8_contact, GW_of (i := 1133) (by decide +kernel) rfl, GW_of (i := 1134) (by decide +kernel) rfl, GW_of (i := 1135) (by decide +kernel) rfl, TX8, 34, rfl⟩
theorem ca_L_150 : WI RL 150 mL_right 4 := ⟨by decide, GW_of (i := 624) (by decide +kernel) rfl, GW_of (i := 44) (by decide +kernel) rfl, ⟨by decide +kernel, by decide +kernel⟩, GW_of (i := 622) (by decide +kernel) rfl, GW_of (i := 623) (by decide +kernel) rfl, by decide +kernel⟩
theorem ca_L_152 : VI RL 152 mX8_right 2 8 := ⟨kiX8_right, GW_of (i := 1153) (by decide +kernel) rfl, GW_of (i := 1154) (by decide +kernel) rfl, GW_of (i := 1155) (by decide +kernel) rfl, TX8, 34, rfl⟩
theorem ca_L_153 : WI RL 153 mL_halt 2 := ⟨by decide, GW_of (i := 635) (by decide +kernel) rfl, GW_of (i := 44) (by decide +kernel) rfl, ⟨by decide +kernel, by decide +kernel⟩, GW_of (i := 633) (by decide +kernel) rfl, GW_of (i := 634) (by decide +kernel) rfl, by decide +kernel⟩
theorem ca_L_155 : VI RL 155 mX8_halt 0 8 := ⟨kiX8_halt, GW_of (i := 1157) (by decide +kernel) rfl, GW_of (i := 1158) (by decide +kernel) rfl, GW_of (i := 1159) (by decide +kernel) rfl, TX8, 34, rfl⟩
theorem ca_L_156 : WI RL 156 mL_appeal 4 := ⟨by decide, GW_of (i := 673) (by decide +kernel) rfl, GW_of (i := 44) (by decide +kernel) rfl, ⟨by decide +kernel, by decide +kernel⟩, GW_of (i := 671) (by decide +kernel) rfl, GW_of (i := 672) (by decide +kernel) rfl, by decide +kernel⟩
theorem ca_L_158 : VI RL 158 mX8_appeal 2 8 := ⟨kiX8_appeal, GW_of (i := 1161) (by decide +kernel) rfl, GW_of (i := 1162) (by decide +kernel) rfl, GW_of (i := 1163) (by decide +kernel) rfl, TX8, 34, rfl⟩
theorem ca_L_159 : VI RL 159 mX7_piste 0 7 := ⟨kiX7_piste, GW_of (i := 187) (by decide +kernel) rfl, GW_of (i := 188) (by decide +kernel) rfl, GW_of (i := 189) (by decide +kernel) rfl, TX7, 10, rfl⟩
theorem ca_L_162 : VI RL 162 mX8_piste 0 8 := ⟨kiX8_piste, GW_of (i := 1165) (by decide +kernel) rfl, GW_of (i := 1166) (by decide +kernel) rfl, GW_of (i := 1167) (by decide +kernel) rfl, TX8, 34, rfl⟩
theorem ca_L_163 : VI RL 163 mX7_isFencing 0 7 := ⟨kiX7_isFencing, GW_of (i := 191) (by decide +kernel) rfl, GW_of (i := 192) (by decide +kernel) rfl, GW_of (i := 193) (by decide +kernel) rfl, TX7, 10, rfl⟩
theorem ca_L_167 : VI RL 167 mX8_isFencing 0 8 := ⟨kiX8_isFencing, GW_of (i := 1169) (by decide +kernel) rfl, GW_of (i := 1170) (by decide +kernel) rfl, GW_of (i := 1171) (by decide +kernel) rfl, TX8, 34, rfl⟩
theorem ca_L_168 : WI RL 168 mL_weaponOf 3 := ⟨by decide, GW_of (i := 697) (by decide +kernel) rfl, GW_of (i := 44) (by decide +kernel) rfl, ⟨by decide +kernel, by decide +kernel⟩, GW_of (i := 695) (by decide +kernel) rfl, GW_of (i := 696) (by decide +kernel) rfl, by decide +kernel⟩
theorem ca_L_170 : VI RL 170 mX8_weaponOf 1 8 := ⟨kiX8_weaponOf, GW_of (i := 1173) (by decide +kernel) rfl, GW_of (i := 1174) (by decide +kernel) rfl, GW_of (i := 1175) (by decide +kernel) rfl, TX8, 34, rfl⟩
theorem ca_L_171 : WI RL 171 mL_fencerOf 4 := ⟨by decide, GW_of (i := 704) (by decide +kernel) rfl, GW_of (i := 44) (by decide +kernel) rfl, ⟨by decide +kernel, by decide +kernel⟩, GW_of (i := 702) (by decide +kernel) rfl, GW_of (i := 703) (by decide +kernel) rfl, by decide +kernel⟩
theorem ca_L_173 : VI RL 173 mX8_fencerOf 2 8 := ⟨kiX8_fencerOf, GW_of (i := 1177) (by decide +kernel) rfl, GW_of (i := 1178) (by decide +kernel) rfl, GW_of (i := 1179) (by decide +kernel) rfl, TX8, 34, rfl⟩
theorem ca_L_174 : WI RL 174 mL_score 4 := ⟨by decide, GW_of (i := 712) (by decide +kernel) rfl, GW_of (i := 44) (by decide +kernel) rfl, ⟨by decide +kernel, by decide +kernel⟩, GW_of (i := 710) (by decide +kernel) rfl, GW_of (i := 711) (by decide +kernel) rfl, by decide +kernel⟩
theorem ca_L_176 : VI RL 176 mX8_score 2 8 := ⟨kiX8_score, GW_of (i := 1181) (by decide +kernel) rfl, GW_of (i := 1182) (by decide +kernel) rfl, GW_of (i := 1183) (by decide +kernel) rfl, TX8, 34, rfl⟩
theorem ca_L_177 : WI RL 177 mL_scoreAnew 4 := ⟨by decide, GW_of (i := 723) (by decide +kernel) rfl, GW_of (i := 44) (by decide +kernel) rfl, ⟨by decide +kernel, by decide +kernel⟩, GW_of (i := 721) (by decide +kernel) rfl, GW_of (i := 722) (by decide +kernel) rfl, by decide +kernel⟩
theorem ca_L_179 : VI RL 179 mX8_scoreAnew 2 8 := ⟨kiX8_scoreAnew, GW_of (i := 1185) (by decide +kernel) rfl, GW_of (i := 1186) (by decide +kernel) rfl, GW_of (i := 1187) (by decide +kernel) rfl, TX8, 34, rfl⟩
theorem ca_L_180 : WI RL 180 mL_winner 3 := ⟨by decide, GW_of (i := 735) (by decide +kernel) rfl, GW_of (i := 44) (by decide +kernel) rfl, ⟨by decide +kernel, by decide +kernel⟩, GW_of (i := 733) (by decide +kernel) rfl, GW_of (i := 734) (by decide +kernel) rfl, by decide +kernel⟩
theorem ca_L_182 : VI RL 182 mX8_winner 1 8 := ⟨kiX8_winner, GW_of (i := 1190) (by decide +kernel) rfl, GW_of (i := 1191) (by decide +kernel) rfl, GW_of (i := 1192) (by decide +kernel) rfl, TX8, 34, rfl⟩
theorem ca_L_183 : WI RL 183 mL_phrases 3 := ⟨by decide, GW_of (i := 745) (by decide +kernel) rfl, GW_of (i := 44) (by decide +kernel) rfl, ⟨by decide +kernel, by decide +kernel⟩, GW_of (i := 743) (by decide +kernel) rfl, GW_of (i := 744) (by decide +kernel) rfl, by decide +kernel⟩
theorem ca_L_185 : VI RL 185 mX8_phrases 1 8 := ⟨kiX8_phrases, GW_of (i := 1194) (by decide +kernel) rfl, GW_of (i := 1195) (by decide +kernel) rfl, GW_of (i := 1196) (by decide +kernel) rfl, TX8, 34, rfl⟩
theorem ca_L_186 : WI RL 186 mL_touches 4 := ⟨by decide, GW_of (i := 752) (by decide +kernel) rfl, GW_of (i := 44) (by decide +kernel) rfl, ⟨by decide +kernel, by decide +kernel⟩, GW_of (i := 750) (by decide +kernel) rfl, GW_of (i := 751) (by decide +kernel) rfl, by decide +kernel⟩
theorem ca_L_188 : VI RL 188 mX8_touches 2 8 := ⟨kiX8_touches, GW_of (i := 1198) (by decide +kernel) rfl, GW_of (i := 1199) (by decide +kernel) rfl, GW_of (i := 1200) (by decide +kernel) rfl, TX8, 34, rfl⟩
theorem ca_L_189 : WI RL 189 mL_appeals 4 := ⟨by decide, GW_of (i := 760) (by decide +kernel) rfl, GW_of (i := 44) (by decide +kernel) rfl, ⟨by decide +kernel, by decide +kernel⟩, GW_of (i := 758) (by decide +kernel) rfl, GW_of (i := 759) (by decide +kernel) rfl, by decide +kernel⟩
theorem ca_L_191 : VI RL 191 mX8_appeals 2 8 := ⟨kiX8_appeals, GW_of (i := 1202) (by decide +kernel) rfl, GW_of (i := 1203) (by decide +kernel) rfl, GW_of (i := 1204) (by decide +kernel) rfl, TX8, 34, rfl⟩
theorem ca_L_192 : WI RL 192 mL_drawPools 3 := ⟨by decide, GW_of (i := 767) (by decide +kernel) rfl, GW_of (i := 44) (by decide +kernel) rfl, ⟨by decide +kernel, by decide +kernel⟩, GW_of (i := 765) (by decide +kernel) rfl, GW_of (i := 766) (by decide +kernel) rfl, by decide +kernel⟩
theorem ca_L_194 : VI RL 194 mX8_drawPools 1 8 := ⟨kiX8_drawPools, GW_of (i := 1206) (by decide +kernel) rfl, GW_of (i := 1207) (by decide +kernel) rfl, GW_of (i := 1208) (by decide +kernel) rfl, TX8, 34, rfl⟩
theorem ca_L_195 : VI RL 195 mX7_poolBouts 0 7 := ⟨kiX7_poolBouts, GW_of (i := 195) (by decide +kernel) rfl, GW_of (i := 196) (by decide +kernel) rfl, GW_of (i := 197) (by decide +kernel) rfl, TX7, 10, rfl⟩
theorem ca_L_198 : VI RL 198 mX8_poolBouts 0 8 := ⟨kiX8_poolBouts, GW_of (i := 1210) (by decide +kernel) rfl, GW_of (i := 1211) (by decide +kernel) rfl, GW_of (i := 1212) (by decide +kernel) rfl, TX8, 34, rfl⟩
theorem ca_L_199 : WI RL 199 mL_won 3 := ⟨by decide, GW_of (i := 829) (by decide +kernel) rfl, GW_of (i := 44) (by decide +kernel) rfl, ⟨by decide +kernel, by decide +kernel⟩, GW_of (i := 827) (by decide +kernel) rfl, GW_of (i := 828) (by decide +kernel) rfl, by decide +kernel⟩
theorem ca_L_201 : VI RL 201 mX8_won 1 8 := ⟨kiX8_won, GW_of (i := 1214) (by decide +kernel) rfl, GW_of (i := 1215) (by decide +kernel) rfl, GW_of (i := 1216) (by decide +kernel) rfl, TX8, 34, rfl⟩
theorem ca_L_202 : WI RL 202 mL_index 3 := ⟨by decide, GW_of (i := 853) (by decide +kernel) rfl, GW_of (i := 44) (by decide +kernel) rfl, ⟨by decide +kernel, by decide +kernel⟩, GW_of (i := 851) (by decide +kernel) rfl, GW_of (i := 852) (by decide +kernel) rfl, by decide +kernel⟩
theorem ca_L_204 : VI RL 204 mX8_index 1 8 := ⟨kiX8_index, GW_of (i := 1226) (by decide +kernel) rfl, GW_of (i := 1227) (by decide +kernel) rfl, GW_of (i := 1228) (by decide +kernel) rfl, TX8, 34, rfl⟩
theorem ca_L_205 : WI RL 205 mL_rankedAt 3 := ⟨by decide, GW_of (i := 864) (by decide +kernel) rfl, GW_of (i := 44) (by decide +kernel) rfl, ⟨by decide +kernel, by decide +kernel⟩, GW_of (i := 862) (by decide +kernel) rfl, GW_of (i := 863) (by decide +kernel) rfl, by decide +kernel⟩
theorem ca_L_207 : VI RL 207 mX8_rankedAt 1 8 := ⟨kiX8_rankedAt, GW_of (i := 1230) (by decide +kernel) rfl, GW_of (i := 1231) (by decide +kernel) rfl, GW_of (i := 1232) (by decide +kernel) rfl, TX8, 34, rfl⟩
theorem ca_L_208 : WI RL 208 mL_drawTableau 2 := ⟨by decide, GW_of (i := 888) (by decide +kernel) rfl, GW_of (i := 44) (by decide +kernel) rfl, ⟨by decide +kernel, by decide +kernel⟩, GW_of (i := 886) (by decide +kernel) rfl, GW_of (i := 887) (by decide +kernel) rfl, by decide +kernel⟩
theorem ca_L_210 : VI RL 210 mX8_drawTableau 0 8 := ⟨kiX8_drawTableau, GW_of (i := 1242) (by decide +kernel) rfl, GW_of (i := 1243) (by decide +kernel) rfl, GW_of (i := 1244) (by decide +kernel) rfl, TX8, 34, rfl⟩
theorem ca_L_211 : VI RL 211 mX7_size 0 7 := ⟨kiX7_size, GW_of (i := 199) (by decide +kernel) rfl, GW_of (i := 200) (by decide +kernel) rfl, GW_of (i := 201) (by decide +kernel) rfl, TX7, 10, rfl⟩
theorem ca_L_214 : VI RL 214 mX8_size 0 8 := ⟨kiX8_size, GW_of (i := 1250) (by decide +kernel) rfl, GW_of (i := 1251) (by decide +kernel) rfl, GW_of (i := 1252) (by decide +kernel) rfl, TX8, 34, rfl⟩
theorem ca_L_215 : WI RL 215 mL_nodeWinner 3 := ⟨by decide, GW_of (i := 915) (by decide +kernel) rfl, GW_of (i := 44) (by decide +kernel) rfl, ⟨by decide +kernel, by decide +kernel⟩, GW_of (i := 913) (by decide +kernel) rfl, GW_of (i := 914) (by decide +kernel) rfl, by decide +kernel⟩
theorem ca_L_217 : VI RL 217 mX8_nodeWinner 1 8 := ⟨kiX8_nodeWinner, GW_of (i := 1254) (by decide +kernel) rfl, GW_of (i := 1255) (by decide +kernel) rfl, GW_of (i := 1256) (by decide +kernel) rfl, TX8, 34, rfl⟩
theorem ca_L_218 : VI RL 218 mX7_gone 0 7 := ⟨kiX7_gone, GW_of (i := 203) (by decide +kernel) rfl, GW_of (i := 204) (by decide +kernel) rfl, GW_of (i := 205) (by decide +kernel) rfl, TX7, 10, rfl⟩
theorem ca_L_221 : VI RL 221 mX8_gone 0 8 := ⟨kiX8_gone, GW_of (i := 1258) (by decide +kernel) rfl, GW_of (i := 1259) (by decide +kernel) rfl, GW_of (i := 1260) (by decide +kernel) rfl, TX8, 34, rfl⟩
theorem ca_L_27 : VI RL 27 mX7_mark 1 7 := ⟨kiX7_mark, GW_of (i := 490) (by decide +kernel) rfl, GW_of (i := 491) (by decide +kernel) rfl, GW_of (i := 492) (by decide +kernel) rfl, TX7, 10, rfl⟩
theorem ca_L_96 : VI RL 96 mX7_nodeWinner 1 7 := ⟨kiX7_nodeWinner, GW_of (i := 916) (by decide +kernel) rfl, GW_of (i := 917) (by decide +kernel) rfl, GW_of (i := 918) (by decide +kernel) rfl, TX7, 10, rfl⟩
theorem ca_L_30 : VI RL 30 mX7_owner 1 7 := ⟨kiX7_owner, GW_of (i := 497) (by decide +kernel) rfl, GW_of (i := 498) (by decide +kernel) rfl, GW_of (i := 499) (by decide +kernel) rfl, TX7, 10, rfl⟩
theorem ca_L_72 : VI RL 72 mX7_phrases 1 7 := ⟨kiX7_phrases, GW_of (i := 746) (by decide +kernel) rfl, GW_of (i := 747) (by decide +kernel) rfl, GW_of (i := 748) (by decide +kernel) rfl, TX7, 10, rfl⟩
theorem ca_L_90 : VI RL 90 mX7_rankedAt 1 7 := ⟨kiX7_rankedAt, GW_of (i := 865) (by decide +kernel) rfl, GW_of (i := 866) (by decide +kernel) rfl, GW_of (i := 867) (by decide +kernel) rfl, TX7, 10, rfl⟩
theorem ca_L_48 : VI RL 48 mX7_right 2 7 := ⟨kiX7_right, GW_of (i := 625) (by decide +kernel) rfl, GW_of (i := 626) (by decide +kernel) rfl, GW_of (i := 627) (by decide +kernel) rfl, TX7, 10, rfl⟩
theorem ca_L_63 : VI RL 63 mX7_score 2 7 := ⟨kiX7_score, GW_of (i := 713) (by decide +kernel) rfl, GW_of (i := 714) (by decide +kernel) rfl, GW_of (i := 715) (by decide +kernel) rfl, TX7, 10, rfl⟩
theorem ca_L_66 : VI RL 66 mX7_scoreAnew 2 7 := ⟨kiX7_scoreAnew, GW_of (i := 724) (by decide +kernel) rfl, GW_of (i := 725) (by decide +kernel) rfl, GW_of (i := 726) (by decide +kernel) rfl, TX7, 10, rfl⟩
theorem ca_L_21 : VI RL 21 mX7_test 3 7 := ⟨kiX7_test, GW_of (i := 367) (by decide +kernel) rfl, GW_of (i := 368) (by decide +kernel) rfl, GW_of (i := 369) (by decide +kernel) rfl, TX7, 10, rfl⟩
theorem ca_L_75 : VI RL 75 mX7_touches 2 7 := ⟨kiX7_touches, GW_of (i := 753) (by decide +kernel) rfl, GW_of (i := 754) (by decide +kernel) rfl, GW_of (i := 755) (by decide +kernel) rfl, TX7, 10, rfl⟩
theorem ca_L_15 : VI RL 15 mX7_weapon 1 7 := ⟨kiX7_weapon, GW_of (i := 316) (by decide +kernel) rfl, GW_of (i := 317) (by decide +kernel) rfl, GW_of (i := 318) (by decide +kernel) rfl, TX7, 10, rfl⟩
theorem ca_L_57 : VI RL 57 mX7_weaponOf 1 7 := ⟨kiX7_weaponOf, GW_of (i := 698) (by decide +kernel) rfl, GW_of (i := 699) (by decide +kernel) rfl, GW_of (i := 700) (by decide +kernel) rfl, TX7, 10, rfl⟩
theorem ca_L_69 : VI RL 69 mX7_winner 1 7 := ⟨kiX7_winner, GW_of (i := 736) (by decide +kernel) rfl, GW_of (i := 737) (by decide +kernel) rfl, GW_of (i := 738) (by decide +kernel) rfl, TX7, 10, rfl⟩
theorem ca_L_84 : VI RL 84 mX7_won 1 7 := ⟨kiX7_won, GW_of (i := 830) (by decide +kernel) rfl, GW_of (i := 831) (by decide +kernel) rfl, GW_of (i := 832) (by decide +kernel) rfl, TX7, 10, rfl⟩
theorem ca_X0_82 : VI RX0 82 mX0_winningSide 0 0 := ⟨kiX0_winningSide, GW_of (i := 462) (by decide +kernel) rfl, GW_of (i := 463) (by decide +kernel) rfl, GW_of (i := 464) (by decide +kernel) rfl, TX0, 8, rfl⟩
theorem ca_X0_41 : VI RX0 41 mX5_restart 1 5 := ⟨kiX5_restart, GW_of (i := 405) (by decide +kernel) rfl, GW_of (i := 406) (by decide +kernel) rfl, GW_of (i := 407) (by decide +kernel) rfl, TX5, 3, rfl⟩
theorem ca_X0_61 : VI RX0 61 mX0_phraseAt 1 0 := ⟨kiX0_phraseAt, GW_of (i := 409) (by decide +kernel) rfl, GW_of (i := 410) (by decide +kernel) rfl, GW_of (i := 411) (by decide +kernel) rfl, TX0, 8, rfl⟩
theorem ca_X0_72 : VI RX0 72 mX2_judge 0 2 := ⟨kiX2_judge, GW_of (i := 732) (by decide +kernel) rfl, GW_of (i := 642) (by decide +kernel) rfl, GW_of (i := 643) (by decide +kernel) rfl, TX2, 10, rfl⟩
theorem ca_X0_57 : VI RX0 57 mX2_withoutStruck 2 2 := ⟨kiX2_withoutStruck, GW_of (i := 417) (by decide +kernel) rfl, GW_of (i := 418) (by decide +kernel) rfl, GW_of (i := 419) (by decide +kernel) rfl, TX2, 10, rfl⟩
theorem ca_X0_69 : VI RX0 69 mX5_add 1 5 := ⟨kiX5_add, GW_of (i := 425) (by decide +kernel) rfl, GW_of (i := 426) (by decide +kernel) rfl, GW_of (i := 427) (by decide +kernel) rfl, TX5, 3, rfl⟩
theorem ca_X0_26 : IN RX0 26 mX5_init 0 "PisteLine" := ⟨kiX5_init, EW_of (i := 793) (by decide +kernel) rfl, GW_of (i := 136) (by decide +kernel) rfl, rfl⟩
theorem ca_X0_48 : VI RX0 48 mX0_recount 0 0 := ⟨kiX0_recount, GW_of (i := 669) (by decide +kernel) rfl, GW_of (i := 402) (by decide +kernel) rfl, GW_of (i := 403) (by decide +kernel) rfl, TX0, 8, rfl⟩
theorem ca_X0_65 : VI RX0 65 mX0_touchesLeft 1 0 := ⟨kiX0_touchesLeft, GW_of (i := 413) (by decide +kernel) rfl, GW_of (i := 414) (by decide +kernel) rfl, GW_of (i := 415) (by decide +kernel) rfl, TX0, 8, rfl⟩
theorem ca_X0_85 : VI RX0 85 mX0_fencerAt 1 0 := ⟨kiX0_fencerAt, GW_of (i := 467) (by decide +kernel) rfl, GW_of (i := 468) (by decide +kernel) rfl, GW_of (i := 469) (by decide +kernel) rfl, TX0, 8, rfl⟩
theorem ca_X0_76 : VI RX0 76 mX5_isAtGoal 0 5 := ⟨kiX5_isAtGoal, GW_of (i := 466) (by decide +kernel) rfl, GW_of (i := 430) (by decide +kernel) rfl, GW_of (i := 431) (by decide +kernel) rfl, TX5, 3, rfl⟩
theorem ca_X1_31 : VI RX1 31 mX1_difference 0 1 := ⟨kiX1_difference, GW_of (i := 885) (by decide +kernel) rfl, GW_of (i := 859) (by decide +kernel) rfl, GW_of (i := 860) (by decide +kernel) rfl, TX1, 5, rfl⟩
theorem ca_X2_72 : VI RX2 72 mX2_isALight 1 2 := ⟨kiX2_isALight, GW_of (i := 649) (by decide +kernel) rfl, GW_of (i := 651) (by decide +kernel) rfl, GW_of (i := 10) (by decide +kernel) rfl, TX2, 10, rfl⟩
theorem ca_X2_39 : VI RX2 39 mX2_isFull 0 2 := ⟨kiX2_isFull, GW_of (i := 621) (by decide +kernel) rfl, GW_of (i := 613) (by decide +kernel) rfl, GW_of (i := 614) (by decide +kernel) rfl, TX2, 10, rfl⟩
theorem ca_X2_53 : VI RX2 53 mX2_firstLight 0 2 := ⟨kiX2_firstLight, GW_of (i := 645) (by decide +kernel) rfl, GW_of (i := 647) (by decide +kernel) rfl, GW_of (i := 9) (by decide +kernel) rfl, TX2, 10, rfl⟩
theorem ca_X2_56 : VI RX2 56 mX2_otherLight 1 2 := ⟨kiX2_otherLight, GW_of (i := 653) (by decide +kernel) rfl, GW_of (i := 655) (by decide +kernel) rfl, GW_of (i := 11) (by decide +kernel) rfl, TX2, 10, rfl⟩
theorem ca_X2_60 : VI RX2 60 mX2_touchOf 1 2 := ⟨kiX2_touchOf, GW_of (i := 657) (by decide +kernel) rfl, GW_of (i := 659) (by decide +kernel) rfl, GW_of (i := 12) (by decide +kernel) rfl, TX2, 10, rfl⟩
theorem ca_X2_63 : VI RX2 63 mX2_rightAt 1 2 := ⟨kiX2_rightAt, GW_of (i := 661) (by decide +kernel) rfl, GW_of (i := 663) (by decide +kernel) rfl, GW_of (i := 13) (by decide +kernel) rfl, TX2, 10, rfl⟩
theorem ca_X2_46 : VI RX2 46 mX2_judge 0 2 := ⟨kiX2_judge, GW_of (i := 690) (by decide +kernel) rfl, GW_of (i := 642) (by decide +kernel) rfl, GW_of (i := 643) (by decide +kernel) rfl, TX2, 10, rfl⟩
theorem ca_X2_66 : VI RX2 66 mX6_isFalse 1 6 := ⟨kiX6_isFalse, GW_of (i := 421) (by decide +kernel) rfl, GW_of (i := 422) (by decide +kernel) rfl, GW_of (i := 423) (by decide +kernel) rfl, TX6, 4, rfl⟩
theorem ca_X3_34 : VI RX3 34 mX3_take 4 3 := ⟨kiX3_take, GW_of (i := 483) (by decide +kernel) rfl, GW_of (i := 484) (by decide +kernel) rfl, GW_of (i := 485) (by decide +kernel) rfl, TX3, 6, rfl⟩
theorem ca_X4_73 : VI RX4 73 mX0_forget 0 0 := ⟨kiX0_forget, GW_of (i := 475) (by decide +kernel) rfl, GW_of (i := 476) (by decide +kernel) rfl, GW_of (i := 477) (by decide +kernel) rfl, TX0, 8, rfl⟩
theorem ca_X4_82 : VI RX4 82 mX3_empty 0 3 := ⟨kiX3_empty, GW_of (i := 479) (by decide +kernel) rfl, GW_of (i := 480) (by decide +kernel) rfl, GW_of (i := 481) (by decide +kernel) rfl, TX3, 6, rfl⟩
theorem ca_X4_32 : II RX4 32 mX0_init 3 := ⟨kiX0_init, GW_of (i := 904) (by decide +kernel) rfl, GW_of (i := 787) (by decide +kernel) rfl, rfl⟩
theorem ca_X4_35 : VI RX4 35 mX4_laySeeds 0 4 := ⟨kiX4_laySeeds, GW_of (i := 905) (by decide +kernel) rfl, GW_of (i := 907) (by decide +kernel) rfl, GW_of (i := 21) (by decide +kernel) rfl, TX4, 5, rfl⟩
theorem ca_X4_38 : VI RX4 38 mX4_boutAt 1 4 := ⟨kiX4_boutAt, GW_of (i := 437) (by decide +kernel) rfl, GW_of (i := 438) (by decide +kernel) rfl, GW_of (i := 439) (by decide +kernel) rfl, TX4, 5, rfl⟩
theorem ca_X4_42 : VI RX4 42 mX0_recount 0 0 := ⟨kiX0_recount, GW_of (i := 441) (by decide +kernel) rfl, GW_of (i := 402) (by decide +kernel) rfl, GW_of (i := 403) (by decide +kernel) rfl, TX0, 8, rfl⟩
theorem ca_X4_28 : VI RX4 28 mX4_hasNode 1 4 := ⟨kiX4_hasNode, GW_of (i := 446) (by decide +kernel) rfl, GW_of (i := 447) (by decide +kernel) rfl, GW_of (i := 448) (by decide +kernel) rfl, TX4, 5, rfl⟩
theorem ca_X4_45 : VI RX4 45 mX4_winnerAt 1 4 := ⟨kiX4_winnerAt, GW_of (i := 450) (by decide +kernel) rfl, GW_of (i := 451) (by decide +kernel) rfl, GW_of (i := 452) (by decide +kernel) rfl, TX4, 5, rfl⟩
theorem ca_X4_55 : VI RX4 55 mX4_winnerNow 2 4 := ⟨kiX4_winnerNow, GW_of (i := 454) (by decide +kernel) rfl, GW_of (i := 456) (by decide +kernel) rfl, GW_of (i := 5) (by decide +kernel) rfl, TX4, 5, rfl⟩
theorem ca_X4_59 : VI RX4 59 mX4_drop 2 4 := ⟨kiX4_drop, GW_of (i := 471) (by decide +kernel) rfl, GW_of (i := 473) (by decide +kernel) rfl, GW_of (i := 6) (by decide +kernel) rfl, TX4, 5, rfl⟩
theorem ca_X4_63 : VI RX4 63 mX0_winningFencer 0 0 := ⟨kiX0_winningFencer, GW_of (i := 458) (by decide +kernel) rfl, GW_of (i := 459) (by decide +kernel) rfl, GW_of (i := 460) (by decide +kernel) rfl, TX0, 8, rfl⟩
theorem ca_X5_21 : VI RX5 21 mX5_isAtGoal 0 5 := ⟨kiX5_isAtGoal, GW_of (i := 429) (by decide +kernel) rfl, GW_of (i := 430) (by decide +kernel) rfl, GW_of (i := 431) (by decide +kernel) rfl, TX5, 3, rfl⟩
theorem ca_X7_346 : II RX7 346 mX0_init 3 := ⟨kiX0_init, GW_of (i := 786) (by decide +kernel) rfl, GW_of (i := 787) (by decide +kernel) rfl, rfl⟩
theorem ca_X7_120 : VI RX7 120 mX0_canBeFenced 0 0 := ⟨kiX0_canBeFenced, GW_of (i := 514) (by decide +kernel) rfl, GW_of (i := 515) (by decide +kernel) rfl, GW_of (i := 516) (by decide +kernel) rfl, TX0, 8, rfl⟩
theorem ca_X7_176 : II RX7 176 mX2_init 3 := ⟨kiX2_init, GW_of (i := 557) (by decide +kernel) rfl, GW_of (i := 558) (by decide +kernel) rfl, rfl⟩
theorem ca_X7_144 : SI RX7 144 mX7_isSide 1 := ⟨kiX7_isSide, GW_of (i := 532) (by decide +kernel) rfl, GW_of (i := 533) (by decide +kernel) rfl⟩
theorem ca_X7_198 : SI RX7 198 mX7_isSideOrNone 1 := ⟨kiX7_isSideOrNone, GW_of (i := 629) (by decide +kernel) rfl, GW_of (i := 630) (by decide +kernel) rfl⟩
theorem ca_X7_231 : VI RX7 231 mX0_phraseAt 1 0 := ⟨kiX0_phraseAt, GW_of (i := 680) (by decide +kernel) rfl, GW_of (i := 410) (by decide +kernel) rfl, GW_of (i := 411) (by decide +kernel) rfl, TX0, 8, rfl⟩
theorem ca_X7_235 : VI RX7 235 mX0_appealsLeft 1 0 := ⟨kiX0_appealsLeft, GW_of (i := 681) (by decide +kernel) rfl, GW_of (i := 682) (by decide +kernel) rfl, GW_of (i := 683) (by decide +kernel) rfl, TX0, 8, rfl⟩
theorem ca_X7_223 : VI RX7 223 mX0_touchesLeft 1 0 := ⟨kiX0_touchesLeft, GW_of (i := 670) (by decide +kernel) rfl, GW_of (i := 414) (by decide +kernel) rfl, GW_of (i := 415) (by decide +kernel) rfl, TX0, 8, rfl⟩
theorem ca_X7_240 : VI RX7 240 mX2_tellRight 1 2 := ⟨kiX2_tellRight, GW_of (i := 686) (by decide +kernel) rfl, GW_of (i := 687) (by decide +kernel) rfl, GW_of (i := 688) (by decide +kernel) rfl, TX2, 10, rfl⟩
theorem ca_X7_243 : VI RX7 243 mX0_useAppeal 1 0 := ⟨kiX0_useAppeal, GW_of (i := 691) (by decide +kernel) rfl, GW_of (i := 692) (by decide +kernel) rfl, GW_of (i := 693) (by decide +kernel) rfl, TX0, 8, rfl⟩
theorem ca_X7_246 : VI RX7 246 mX0_recount 0 0 := ⟨kiX0_recount, GW_of (i := 401) (by decide +kernel) rfl, GW_of (i := 402) (by decide +kernel) rfl, GW_of (i := 403) (by decide +kernel) rfl, TX0, 8, rfl⟩
theorem ca_X7_219 : VI RX7 219 mX4_settle 1 4 := ⟨kiX4_settle, GW_of (i := 442) (by decide +kernel) rfl, GW_of (i := 443) (by decide +kernel) rfl, GW_of (i := 444) (by decide +kernel) rfl, TX4, 5, rfl⟩
theorem ca_X7_114 : VI RX7 114 mX7_boutAt 1 7 := ⟨kiX7_boutAt, GW_of (i := 508) (by decide +kernel) rfl, GW_of (i := 510) (by decide +kernel) rfl, GW_of (i := 7) (by decide +kernel) rfl, TX7, 10, rfl⟩
theorem ca_X7_87 : VI RX7 87 mX7_weaponAt 1 7 := ⟨kiX7_weaponAt, GW_of (i := 371) (by decide +kernel) rfl, GW_of (i := 373) (by decide +kernel) rfl, GW_of (i := 3) (by decide +kernel) rfl, TX7, 10, rfl⟩
theorem ca_X7_128 : VI RX7 128 mX6_isMarkedFor 1 6 := ⟨kiX6_isMarkedFor, GW_of (i := 519) (by decide +kernel) rfl, GW_of (i := 520) (by decide +kernel) rfl, GW_of (i := 521) (by decide +kernel) rfl, TX6, 4, rfl⟩
theorem ca_X7_137 : VI RX7 137 mX3_take 4 3 := ⟨kiX3_take, GW_of (i := 524) (by decide +kernel) rfl, GW_of (i := 484) (by decide +kernel) rfl, GW_of (i := 485) (by decide +kernel) rfl, TX3, 6, rfl⟩
theorem ca_X7_334 : VI RX7 334 mX4_boutAt 1 4 := ⟨kiX4_boutAt, GW_of (i := 512) (by decide +kernel) rfl, GW_of (i := 438) (by decide +kernel) rfl, GW_of (i := 439) (by decide +kernel) rfl, TX4, 5, rfl⟩
theorem ca_X7_155 : VI RX7 155 mX0_fencerAt 1 0 := ⟨kiX0_fencerAt, GW_of (i := 537) (by decide +kernel) rfl, GW_of (i := 468) (by decide +kernel) rfl, GW_of (i := 469) (by decide +kernel) rfl, TX0, 8, rfl⟩
theorem ca_X7_160 : VI RX7 160 mX3_weaponNumber 1 3 := ⟨kiX3_weaponNumber, GW_of (i := 539) (by decide +kernel) rfl, GW_of (i := 540) (by decide +kernel) rfl, GW_of (i := 541) (by decide +kernel) rfl, TX3, 6, rfl⟩
theorem ca_X7_163 : VI RX7 163 mX3_arm 2 3 := ⟨kiX3_arm, GW_of (i := 543) (by decide +kernel) rfl, GW_of (i := 544) (by decide +kernel) rfl, GW_of (i := 545) (by decide +kernel) rfl, TX3, 6, rfl⟩
theorem ca_X7_181 : VI RX7 181 mX7_isTooEarly 1 7 := ⟨kiX7_isTooEarly, GW_of (i := 603) (by decide +kernel) rfl, GW_of (i := 605) (by decide +kernel) rfl, GW_of (i := 8) (by decide +kernel) rfl, TX7, 10, rfl⟩
theorem ca_X7_186 : VI RX7 186 mX2_isFull 0 2 := ⟨kiX2_isFull, GW_of (i := 612) (by decide +kernel) rfl, GW_of (i := 613) (by decide +kernel) rfl, GW_of (i := 614) (by decide +kernel) rfl, TX2, 10, rfl⟩
theorem ca_X7_191 : VI RX7 191 mX2_hear 3 2 := ⟨kiX2_hear, GW_of (i := 617) (by decide +kernel) rfl, GW_of (i := 618) (by decide +kernel) rfl, GW_of (i := 619) (by decide +kernel) rfl, TX2, 10, rfl⟩
theorem ca_X7_70 : VI RX7 70 mX7_fencerAt 1 7 := ⟨kiX7_fencerAt, GW_of (i := 320) (by decide +kernel) rfl, GW_of (i := 322) (by decide +kernel) rfl, GW_of (i := 2) (by decide +kernel) rfl, TX7, 10, rfl⟩
theorem ca_X7_352 : VI RX7 352 mX1_clear 0 1 := ⟨kiX1_clear, GW_of (i := 838) (by decide +kernel) rfl, GW_of (i := 839) (by decide +kernel) rfl, GW_of (i := 840) (by decide +kernel) rfl, TX1, 5, rfl⟩
theorem ca_X7_349 : VI RX7 349 mX0_winningSide 0 0 := ⟨kiX0_winningSide, GW_of (i := 842) (by decide +kernel) rfl, GW_of (i := 463) (by decide +kernel) rfl, GW_of (i := 464) (by decide +kernel) rfl, TX0, 8, rfl⟩
theorem ca_X7_355 : VI RX7 355 mX7_countSide 2 7 := ⟨kiX7_countSide, GW_of (i := 843) (by decide +kernel) rfl, GW_of (i := 845) (by decide +kernel) rfl, GW_of (i := 17) (by decide +kernel) rfl, TX7, 10, rfl⟩
theorem ca_X7_257 : VI RX7 257 mX5_of 1 5 := ⟨kiX5_of, GW_of (i := 717) (by decide +kernel) rfl, GW_of (i := 718) (by decide +kernel) rfl, GW_of (i := 719) (by decide +kernel) rfl, TX5, 3, rfl⟩
theorem ca_X7_359 : VI RX7 359 mX1_add 3 1 := ⟨kiX1_add, GW_of (i := 847) (by decide +kernel) rfl, GW_of (i := 848) (by decide +kernel) rfl, GW_of (i := 849) (by decide +kernel) rfl, TX1, 5, rfl⟩
theorem ca_X7_339 : SI RX7 339 mX7_poolOf 2 := ⟨kiX7_poolOf, GW_of (i := 778) (by decide +kernel) rfl, GW_of (i := 779) (by decide +kernel) rfl⟩
theorem ca_X7_343 : VI RX7 343 mX7_addPoolBout 2 7 := ⟨kiX7_addPoolBout, GW_of (i := 781) (by decide +kernel) rfl, GW_of (i := 783) (by decide +kernel) rfl, GW_of (i := 15) (by decide +kernel) rfl, TX7, 10, rfl⟩
theorem ca_X7_56 : VI RX7 56 mX7_arePoolsDrawn 0 7 := ⟨kiX7_arePoolsDrawn, GW_of (i := 218) (by decide +kernel) rfl, GW_of (i := 220) (by decide +kernel) rfl, GW_of (i := 0) (by decide +kernel) rfl, TX7, 10, rfl⟩
theorem ca_X7_281 : VI RX7 281 mX7_drawPool 2 7 := ⟨kiX7_drawPool, GW_of (i := 774) (by decide +kernel) rfl, GW_of (i := 776) (by decide +kernel) rfl, GW_of (i := 14) (by decide +kernel) rfl, TX7, 10, rfl⟩
theorem ca_X7_301 : VI RX7 301 mX7_isAPoolBoutOpen 0 7 := ⟨kiX7_isAPoolBoutOpen, GW_of (i := 893) (by decide +kernel) rfl, GW_of (i := 895) (by decide +kernel) rfl, GW_of (i := 20) (by decide +kernel) rfl, TX7, 10, rfl⟩
theorem ca_X7_306 : VI RX7 306 mX4_isDrawn 0 4 := ⟨kiX4_isDrawn, GW_of (i := 397) (by decide +kernel) rfl, GW_of (i := 398) (by decide +kernel) rfl, GW_of (i := 399) (by decide +kernel) rfl, TX4, 5, rfl⟩
theorem ca_X7_311 : VI RX7 311 mX3_empty 0 3 := ⟨kiX3_empty, GW_of (i := 899) (by decide +kernel) rfl, GW_of (i := 480) (by decide +kernel) rfl, GW_of (i := 481) (by decide +kernel) rfl, TX3, 6, rfl⟩
theorem ca_X7_314 : VI RX7 314 mX4_lay 1 4 := ⟨kiX4_lay, GW_of (i := 900) (by decide +kernel) rfl, GW_of (i := 901) (by decide +kernel) rfl, GW_of (i := 902) (by decide +kernel) rfl, TX4, 5, rfl⟩
theorem ca_X7_287 : VI RX7 287 mX7_countPools 0 7 := ⟨kiX7_countPools, GW_of (i := 834) (by decide +kernel) rfl, GW_of (i := 836) (by decide +kernel) rfl, GW_of (i := 16) (by decide +kernel) rfl, TX7, 10, rfl⟩
theorem ca_X7_298 : VI RX7 298 mX7_fencerInPlace 1 7 := ⟨kiX7_fencerInPlace, GW_of (i := 870) (by decide +kernel) rfl, GW_of (i := 872) (by decide +kernel) rfl, GW_of (i := 18) (by decide +kernel) rfl, TX7, 10, rfl⟩
theorem ca_X7_317 : VI RX7 317 mX4_seat 2 4 := ⟨kiX4_seat, GW_of (i := 909) (by decide +kernel) rfl, GW_of (i := 910) (by decide +kernel) rfl, GW_of (i := 911) (by decide +kernel) rfl, TX4, 5, rfl⟩
theorem ca_X7_338 : VI RX7 338 mX4_recount 0 4 := ⟨kiX4_recount, GW_of (i := 433) (by decide +kernel) rfl, GW_of (i := 434) (by decide +kernel) rfl, GW_of (i := 435) (by decide +kernel) rfl, TX4, 5, rfl⟩
theorem ca_X7_67 : II RX7 67 mX1_init 1 := ⟨kiX1_init, GW_of (i := 291) (by decide +kernel) rfl, GW_of (i := 292) (by decide +kernel) rfl, rfl⟩
theorem ca_X7_363 : VI RX7 363 mX7_fencersAhead 1 7 := ⟨kiX7_fencersAhead, GW_of (i := 874) (by decide +kernel) rfl, GW_of (i := 876) (by decide +kernel) rfl, GW_of (i := 19) (by decide +kernel) rfl, TX7, 10, rfl⟩
theorem ca_X7_367 : VI RX7 367 mX1_isAheadOf 1 1 := ⟨kiX1_isAheadOf, GW_of (i := 878) (by decide +kernel) rfl, GW_of (i := 879) (by decide +kernel) rfl, GW_of (i := 880) (by decide +kernel) rfl, TX1, 5, rfl⟩
theorem ca_X7_205 : VI RX7 205 mX2_judge 0 2 := ⟨kiX2_judge, GW_of (i := 641) (by decide +kernel) rfl, GW_of (i := 642) (by decide +kernel) rfl, GW_of (i := 643) (by decide +kernel) rfl, TX2, 10, rfl⟩
theorem ca_X7_212 : VI RX7 212 mX0_keep 1 0 := ⟨kiX0_keep, GW_of (i := 665) (by decide +kernel) rfl, GW_of (i := 666) (by decide +kernel) rfl, GW_of (i := 667) (by decide +kernel) rfl, TX0, 8, rfl⟩
theorem ca_X7_293 : VI RX7 293 mX1_difference 0 1 := ⟨kiX1_difference, GW_of (i := 858) (by decide +kernel) rfl, GW_of (i := 859) (by decide +kernel) rfl, GW_of (i := 860) (by decide +kernel) rfl, TX1, 5, rfl⟩
theorem ca_X7_29 : IN RX7 29 mX3_init 0 "PisteLine" := ⟨kiX3_init, EW_of (i := 77) (by decide +kernel) rfl, GW_of (i := 78) (by decide +kernel) rfl, rfl⟩
theorem ca_X7_36 : IN RX7 36 mX4_init 0 "PisteLine" := ⟨kiX4_init, EW_of (i := 109) (by decide +kernel) rfl, GW_of (i := 110) (by decide +kernel) rfl, rfl⟩
theorem ca_X7_43 : IN RX7 43 mX5_init 0 "PisteLine" := ⟨kiX5_init, EW_of (i := 135) (by decide +kernel) rfl, GW_of (i := 136) (by decide +kernel) rfl, rfl⟩
theorem ca_X7_331 : VI RX7 331 mX2_latestTime 0 2 := ⟨kiX2_latestTime, GW_of (i := 607) (by decide +kernel) rfl, GW_of (i := 608) (by decide +kernel) rfl, GW_of (i := 609) (by decide +kernel) rfl, TX2, 10, rfl⟩
theorem ca_X7_323 : VI RX7 323 mX4_hasNode 1 4 := ⟨kiX4_hasNode, GW_of (i := 920) (by decide +kernel) rfl, GW_of (i := 447) (by decide +kernel) rfl, GW_of (i := 448) (by decide +kernel) rfl, TX4, 5, rfl⟩
theorem ca_X7_272 : VI RX7 272 mX4_winnerAt 1 4 := ⟨kiX4_winnerAt, GW_of (i := 742) (by decide +kernel) rfl, GW_of (i := 451) (by decide +kernel) rfl, GW_of (i := 452) (by decide +kernel) rfl, TX4, 5, rfl⟩
theorem ca_X7_260 : VI RX7 260 mX0_countAnew 1 0 := ⟨kiX0_countAnew, GW_of (i := 728) (by decide +kernel) rfl, GW_of (i := 729) (by decide +kernel) rfl, GW_of (i := 730) (by decide +kernel) rfl, TX0, 8, rfl⟩
theorem ca_X7_107 : VI RX7 107 mX7_fail 1 7 := ⟨kiX7_fail, GW_of (i := 393) (by decide +kernel) rfl, GW_of (i := 395) (by decide +kernel) rfl, GW_of (i := 4) (by decide +kernel) rfl, TX7, 10, rfl⟩
theorem ca_X7_84 : II RX7 84 mX6_init 2 := ⟨kiX6_init, GW_of (i := 342) (by decide +kernel) rfl, GW_of (i := 343) (by decide +kernel) rfl, rfl⟩
theorem ca_X7_269 : VI RX7 269 mX0_winningFencer 0 0 := ⟨kiX0_winningFencer, GW_of (i := 741) (by decide +kernel) rfl, GW_of (i := 459) (by decide +kernel) rfl, GW_of (i := 460) (by decide +kernel) rfl, TX0, 8, rfl⟩
theorem ca_X8_155 : VI RX8 155 mX8_winnerOf 1 8 := ⟨kiX8_winnerOf, GW_of (i := 1111) (by decide +kernel) rfl, GW_of (i := 1113) (by decide +kernel) rfl, GW_of (i := 33) (by decide +kernel) rfl, TX8, 34, rfl⟩
theorem ca_X8_101 : VI RX8 101 mX8_goes 3 8 := ⟨kiX8_goes, GW_of (i := 1040) (by decide +kernel) rfl, GW_of (i := 1042) (by decide +kernel) rfl, GW_of (i := 22) (by decide +kernel) rfl, TX8, 34, rfl⟩
theorem ca_X8_164 : SI RX8 164 mX8_slotOf 1 := ⟨kiX8_slotOf, GW_of (i := 1119) (by decide +kernel) rfl, GW_of (i := 1120) (by decide +kernel) rfl⟩
theorem ca_X8_167 : SI RX8 167 mX8_isSide 1 := ⟨kiX8_isSide, GW_of (i := 1126) (by decide +kernel) rfl, GW_of (i := 1127) (by decide +kernel) rfl⟩
theorem ca_X8_85 : SI RX8 85 mX8_in 3 := ⟨kiX8_in, GW_of (i := 1052) (by decide +kernel) rfl, GW_of (i := 1053) (by decide +kernel) rfl⟩
theorem ca_X8_138 : VI RX8 138 mX8_touched 2 8 := ⟨kiX8_touched, GW_of (i := 1071) (by decide +kernel) rfl, GW_of (i := 1073) (by decide +kernel) rfl, GW_of (i := 27) (by decide +kernel) rfl, TX8, 34, rfl⟩
theorem ca_X8_115 : VI RX8 115 mX8_follows 0 8 := ⟨kiX8_follows, GW_of (i := 1063) (by decide +kernel) rfl, GW_of (i := 1065) (by decide +kernel) rfl, GW_of (i := 25) (by decide +kernel) rfl, TX8, 34, rfl⟩
theorem ca_X8_152 : VI RX8 152 mX8_isBout 1 8 := ⟨kiX8_isBout, GW_of (i := 1103) (by decide +kernel) rfl, GW_of (i := 1105) (by decide +kernel) rfl, GW_of (i := 31) (by decide +kernel) rfl, TX8, 34, rfl⟩
theorem ca_X8_145 : VI RX8 145 mX8_tells 1 8 := ⟨kiX8_tells, GW_of (i := 1067) (by decide +kernel) rfl, GW_of (i := 1069) (by decide +kernel) rfl, GW_of (i := 26) (by decide +kernel) rfl, TX8, 34, rfl⟩
theorem ca_X8_109 : VI RX8 109 mX8_isWeapon 1 8 := ⟨kiX8_isWeapon, GW_of (i := 1059) (by decide +kernel) rfl, GW_of (i := 1061) (by decide +kernel) rfl, GW_of (i := 24) (by decide +kernel) rfl, TX8, 34, rfl⟩
theorem ca_X8_149 : VI RX8 149 mX8_fencerAt 2 8 := ⟨kiX8_fencerAt, GW_of (i := 1107) (by decide +kernel) rfl, GW_of (i := 1109) (by decide +kernel) rfl, GW_of (i := 32) (by decide +kernel) rfl, TX8, 34, rfl⟩
theorem ca_X8_158 : VI RX8 158 mX8_isFit 3 8 := ⟨kiX8_isFit, GW_of (i := 1115) (by decide +kernel) rfl, GW_of (i := 1117) (by decide +kernel) rfl, GW_of (i := 34) (by decide +kernel) rfl, TX8, 34, rfl⟩
theorem ca_X8_174 : VI RX8 174 mX8_isTime 1 8 := ⟨kiX8_isTime, GW_of (i := 1137) (by decide +kernel) rfl, GW_of (i := 1139) (by decide +kernel) rfl, GW_of (i := 35) (by decide +kernel) rfl, TX8, 34, rfl⟩
theorem ca_X8_177 : VI RX8 177 mX8_hears 0 8 := ⟨kiX8_hears, GW_of (i := 1145) (by decide +kernel) rfl, GW_of (i := 1147) (by decide +kernel) rfl, GW_of (i := 37) (by decide +kernel) rfl, TX8, 34, rfl⟩
theorem ca_X8_181 : VI RX8 181 mX8_event 2 8 := ⟨kiX8_event, GW_of (i := 1149) (by decide +kernel) rfl, GW_of (i := 1151) (by decide +kernel) rfl, GW_of (i := 38) (by decide +kernel) rfl, TX8, 34, rfl⟩
theorem ca_X8_200 : VI RX8 200 mX8_areDecided 0 8 := ⟨kiX8_areDecided, GW_of (i := 1246) (by decide +kernel) rfl, GW_of (i := 1248) (by decide +kernel) rfl, GW_of (i := 43) (by decide +kernel) rfl, TX8, 34, rfl⟩
theorem ca_X8_191 : VI RX8 191 mX8_sums 0 8 := ⟨kiX8_sums, GW_of (i := 1218) (by decide +kernel) rfl, GW_of (i := 1220) (by decide +kernel) rfl, GW_of (i := 39) (by decide +kernel) rfl, TX8, 34, rfl⟩
theorem ca_X8_197 : VI RX8 197 mX8_ranked 1 8 := ⟨kiX8_ranked, GW_of (i := 1234) (by decide +kernel) rfl, GW_of (i := 1236) (by decide +kernel) rfl, GW_of (i := 41) (by decide +kernel) rfl, TX8, 34, rfl⟩
theorem ca_X8_170 : VI RX8 170 mX8_latest 0 8 := ⟨kiX8_latest, GW_of (i := 1141) (by decide +kernel) rfl, GW_of (i := 1143) (by decide +kernel) rfl, GW_of (i := 36) (by decide +kernel) rfl, TX8, 34, rfl⟩
theorem ca_X8_105 : VI RX8 105 mX8_isFencer 1 8 := ⟨kiX8_isFencer, GW_of (i := 1048) (by decide +kernel) rfl, GW_of (i := 1050) (by decide +kernel) rfl, GW_of (i := 23) (by decide +kernel) rfl, TX8, 34, rfl⟩
theorem ca_X8_118 : VI RX8 118 mX8_counts 2 8 := ⟨kiX8_counts, GW_of (i := 1079) (by decide +kernel) rfl, GW_of (i := 1081) (by decide +kernel) rfl, GW_of (i := 29) (by decide +kernel) rfl, TX8, 34, rfl⟩
theorem ca_X8_194 : VI RX8 194 mX8_isAhead 2 8 := ⟨kiX8_isAhead, GW_of (i := 1238) (by decide +kernel) rfl, GW_of (i := 1240) (by decide +kernel) rfl, GW_of (i := 42) (by decide +kernel) rfl, TX8, 34, rfl⟩
theorem ca_X8_184 : VI RX8 184 mX8_score 2 8 := ⟨kiX8_score, GW_of (i := 1189) (by decide +kernel) rfl, GW_of (i := 1182) (by decide +kernel) rfl, GW_of (i := 1183) (by decide +kernel) rfl, TX8, 34, rfl⟩
theorem ca_X8_187 : VI RX8 187 mX8_adds 4 8 := ⟨kiX8_adds, GW_of (i := 1222) (by decide +kernel) rfl, GW_of (i := 1224) (by decide +kernel) rfl, GW_of (i := 40) (by decide +kernel) rfl, TX8, 34, rfl⟩
theorem ca_X8_121 : VI RX8 121 mX8_judged 1 8 := ⟨kiX8_judged, GW_of (i := 1075) (by decide +kernel) rfl, GW_of (i := 1077) (by decide +kernel) rfl, GW_of (i := 28) (by decide +kernel) rfl, TX8, 34, rfl⟩
theorem ca_X8_125 : VI RX8 125 mX8_strikes 2 8 := ⟨kiX8_strikes, GW_of (i := 1083) (by decide +kernel) rfl, GW_of (i := 1085) (by decide +kernel) rfl, GW_of (i := 30) (by decide +kernel) rfl, TX8, 34, rfl⟩
theorem ob_X0_3 : Cond.methodLink RX0 3 Lib.objectInit ∈ GW := GW_of (i := 789) (by decide +kernel) rfl
theorem ob_X1_1 : Cond.methodLink RX1 1 Lib.objectInit ∈ GW := GW_of (i := 294) (by decide +kernel) rfl
theorem ob_X2_3 : Cond.methodLink RX2 3 Lib.objectInit ∈ GW := GW_of (i := 560) (by decide +kernel) rfl
theorem ob_X3_3 : Cond.methodLink RX3 3 Lib.objectInit ∈ GW := GW_of (i := 80) (by decide +kernel) rfl
theorem ob_X4_3 : Cond.methodLink RX4 3 Lib.objectInit ∈ GW := GW_of (i := 112) (by decide +kernel) rfl
theorem ob_X5_3 : Cond.methodLink RX5 3 Lib.objectInit ∈ GW := GW_of (i := 138) (by decide +kernel) rfl
theorem ob_X6_3 : Cond.methodLink RX6 3 Lib.objectInit ∈ GW := GW_of (i := 345) (by decide +kernel) rfl
theorem ob_X7_3 : Cond.methodLink RX7 3 Lib.objectInit ∈ GW := GW_of (i := 66) (by decide +kernel) rfl
theorem ob_X8_1 : Cond.methodLink RX8 1 Lib.objectInit ∈ GW := GW_of (i := 927) (by decide +kernel) rfl
theorem ob_i : Cond.instanceMethod Lib.objectInit ∈ GW := GW_of (i := 67) (by decide +kernel) rfl
theorem ob_c : Cond.code Lib.objectInit ⟨#[0xb1]⟩ 1 none ∈ GW := GW_of (i := 68) (by decide +kernel) rfl
theorem th_0_64 : (vx_atS RX7 64 (exN 0) exS).all (fun w => goodWord w || mvWord w) = true ∧ (vx_atS RX7 64 (exN 0) exS).all (fun w => decide (w ∈ lw_tbl)) = true := ⟨by decide +kernel, by decide +kernel⟩
theorem ti_60_153_64 : TI 60 153 64 0 := ⟨⟨_, List.mem_of_getElem? (i := 10) rfl⟩, cl_X7_60, GW_of (i := 53) (by decide +kernel) rfl, by decide +kernel, th_0_64.1, fun w hw => of_decide_eq_true (List.all_eq_true.mp th_0_64.2 w hw)⟩
theorem ti_60_172_64 : TI 60 172 64 0 := ⟨⟨_, List.mem_of_getElem? (i := 12) rfl⟩, cl_X7_60, GW_of (i := 53) (by decide +kernel) rfl, by decide +kernel, th_0_64.1, fun w hw => of_decide_eq_true (List.all_eq_true.mp th_0_64.2 w hw)⟩
theorem th_2_78 : (vx_atS RX7 78 (exN 2) exS).all (fun w => goodWord w || mvWord w) = true ∧ (vx_atS RX7 78 (exN 2) exS).all (fun w => decide (w ∈ lw_tbl)) = true := ⟨by decide +kernel, by decide +kernel⟩
theorem ti_74_179_78 : TI 74 179 78 2 := ⟨⟨_, List.mem_of_getElem? (i := 13) rfl⟩, cl_X7_74, GW_of (i := 55) (by decide +kernel) rfl, by decide +kernel, th_2_78.1, fun w hw => of_decide_eq_true (List.all_eq_true.mp th_2_78.2 w hw)⟩
theorem th_1_97 : (vx_atS RX7 97 (exN 1) exS).all (fun w => goodWord w || mvWord w) = true ∧ (vx_atS RX7 97 (exN 1) exS).all (fun w => decide (w ∈ lw_tbl)) = true := ⟨by decide +kernel, by decide +kernel⟩
theorem ti_93_227_97 : TI 93 227 97 1 := ⟨⟨_, List.mem_of_getElem? (i := 18) rfl⟩, cl_X7_93, GW_of (i := 57) (by decide +kernel) rfl, by decide +kernel, th_1_97.1, fun w hw => of_decide_eq_true (List.all_eq_true.mp th_1_97.2 w hw)⟩
theorem ti_60_229_64 : TI 60 229 64 0 := ⟨⟨_, List.mem_of_getElem? (i := 19) rfl⟩, cl_X7_60, GW_of (i := 53) (by decide +kernel) rfl, by decide +kernel, th_0_64.1, fun w hw => of_decide_eq_true (List.all_eq_true.mp th_0_64.2 w hw)⟩
theorem ti_60_238_64 : TI 60 238 64 0 := ⟨⟨_, List.mem_of_getElem? (i := 20) rfl⟩, cl_X7_60, GW_of (i := 53) (by decide +kernel) rfl, by decide +kernel, th_0_64.1, fun w hw => of_decide_eq_true (List.all_eq_true.mp th_0_64.2 w hw)⟩
theorem ti_74_252_78 : TI 74 252 78 2 := ⟨⟨_, List.mem_of_getElem? (i := 21) rfl⟩, cl_X7_74, GW_of (i := 55) (by decide +kernel) rfl, by decide +kernel, th_2_78.1, fun w hw => of_decide_eq_true (List.all_eq_true.mp th_2_78.2 w hw)⟩
theorem ti_74_118_78 : TI 74 118 78 2 := ⟨⟨_, List.mem_of_getElem? (i := 6) rfl⟩, cl_X7_74, GW_of (i := 55) (by decide +kernel) rfl, by decide +kernel, th_2_78.1, fun w hw => of_decide_eq_true (List.all_eq_true.mp th_2_78.2 w hw)⟩
theorem ti_60_123_64 : TI 60 123 64 0 := ⟨⟨_, List.mem_of_getElem? (i := 7) rfl⟩, cl_X7_60, GW_of (i := 53) (by decide +kernel) rfl, by decide +kernel, th_0_64.1, fun w hw => of_decide_eq_true (List.all_eq_true.mp th_0_64.2 w hw)⟩
theorem ti_60_135_64 : TI 60 135 64 0 := ⟨⟨_, List.mem_of_getElem? (i := 8) rfl⟩, cl_X7_60, GW_of (i := 53) (by decide +kernel) rfl, by decide +kernel, th_0_64.1, fun w hw => of_decide_eq_true (List.all_eq_true.mp th_0_64.2 w hw)⟩
theorem ti_74_147_78 : TI 74 147 78 2 := ⟨⟨_, List.mem_of_getElem? (i := 9) rfl⟩, cl_X7_74, GW_of (i := 55) (by decide +kernel) rfl, by decide +kernel, th_2_78.1, fun w hw => of_decide_eq_true (List.all_eq_true.mp th_2_78.2 w hw)⟩
theorem ti_60_158_64 : TI 60 158 64 0 := ⟨⟨_, List.mem_of_getElem? (i := 11) rfl⟩, cl_X7_60, GW_of (i := 53) (by decide +kernel) rfl, by decide +kernel, th_0_64.1, fun w hw => of_decide_eq_true (List.all_eq_true.mp th_0_64.2 w hw)⟩
theorem ti_93_184_97 : TI 93 184 97 1 := ⟨⟨_, List.mem_of_getElem? (i := 14) rfl⟩, cl_X7_93, GW_of (i := 57) (by decide +kernel) rfl, by decide +kernel, th_1_97.1, fun w hw => of_decide_eq_true (List.all_eq_true.mp th_1_97.2 w hw)⟩
theorem ti_60_189_64 : TI 60 189 64 0 := ⟨⟨_, List.mem_of_getElem? (i := 15) rfl⟩, cl_X7_60, GW_of (i := 53) (by decide +kernel) rfl, by decide +kernel, th_0_64.1, fun w hw => of_decide_eq_true (List.all_eq_true.mp th_0_64.2 w hw)⟩
theorem ti_93_277_97 : TI 93 277 97 1 := ⟨⟨_, List.mem_of_getElem? (i := 24) rfl⟩, cl_X7_93, GW_of (i := 57) (by decide +kernel) rfl, by decide +kernel, th_1_97.1, fun w hw => of_decide_eq_true (List.all_eq_true.mp th_1_97.2 w hw)⟩
theorem ti_60_279_64 : TI 60 279 64 0 := ⟨⟨_, List.mem_of_getElem? (i := 25) rfl⟩, cl_X7_60, GW_of (i := 53) (by decide +kernel) rfl, by decide +kernel, th_0_64.1, fun w hw => of_decide_eq_true (List.all_eq_true.mp th_0_64.2 w hw)⟩
theorem ti_60_304_64 : TI 60 304 64 0 := ⟨⟨_, List.mem_of_getElem? (i := 27) rfl⟩, cl_X7_60, GW_of (i := 53) (by decide +kernel) rfl, by decide +kernel, th_0_64.1, fun w hw => of_decide_eq_true (List.all_eq_true.mp th_0_64.2 w hw)⟩
theorem ti_60_309_64 : TI 60 309 64 0 := ⟨⟨_, List.mem_of_getElem? (i := 28) rfl⟩, cl_X7_60, GW_of (i := 53) (by decide +kernel) rfl, by decide +kernel, th_0_64.1, fun w hw => of_decide_eq_true (List.all_eq_true.mp th_0_64.2 w hw)⟩
theorem ti_60_62_64 : TI 60 62 64 0 := ⟨⟨_, List.mem_of_getElem? (i := 0) rfl⟩, cl_X7_60, GW_of (i := 53) (by decide +kernel) rfl, by decide +kernel, th_0_64.1, fun w hw => of_decide_eq_true (List.all_eq_true.mp th_0_64.2 w hw)⟩
theorem ti_60_203_64 : TI 60 203 64 0 := ⟨⟨_, List.mem_of_getElem? (i := 17) rfl⟩, cl_X7_60, GW_of (i := 53) (by decide +kernel) rfl, by decide +kernel, th_0_64.1, fun w hw => of_decide_eq_true (List.all_eq_true.mp th_0_64.2 w hw)⟩
theorem ti_74_76_78 : TI 74 76 78 2 := ⟨⟨_, List.mem_of_getElem? (i := 1) rfl⟩, cl_X7_74, GW_of (i := 55) (by decide +kernel) rfl, by decide +kernel, th_2_78.1, fun w hw => of_decide_eq_true (List.all_eq_true.mp th_2_78.2 w hw)⟩
theorem ti_74_91_78 : TI 74 91 78 2 := ⟨⟨_, List.mem_of_getElem? (i := 3) rfl⟩, cl_X7_74, GW_of (i := 55) (by decide +kernel) rfl, by decide +kernel, th_2_78.1, fun w hw => of_decide_eq_true (List.all_eq_true.mp th_2_78.2 w hw)⟩
theorem ti_74_326_78 : TI 74 326 78 2 := ⟨⟨_, List.mem_of_getElem? (i := 29) rfl⟩, cl_X7_74, GW_of (i := 55) (by decide +kernel) rfl, by decide +kernel, th_2_78.1, fun w hw => of_decide_eq_true (List.all_eq_true.mp th_2_78.2 w hw)⟩
theorem ti_74_264_78 : TI 74 264 78 2 := ⟨⟨_, List.mem_of_getElem? (i := 22) rfl⟩, cl_X7_74, GW_of (i := 55) (by decide +kernel) rfl, by decide +kernel, th_2_78.1, fun w hw => of_decide_eq_true (List.all_eq_true.mp th_2_78.2 w hw)⟩
theorem ti_74_296_78 : TI 74 296 78 2 := ⟨⟨_, List.mem_of_getElem? (i := 26) rfl⟩, cl_X7_74, GW_of (i := 55) (by decide +kernel) rfl, by decide +kernel, th_2_78.1, fun w hw => of_decide_eq_true (List.all_eq_true.mp th_2_78.2 w hw)⟩
theorem ti_93_201_97 : TI 93 201 97 1 := ⟨⟨_, List.mem_of_getElem? (i := 16) rfl⟩, cl_X7_93, GW_of (i := 57) (by decide +kernel) rfl, by decide +kernel, th_1_97.1, fun w hw => of_decide_eq_true (List.all_eq_true.mp th_1_97.2 w hw)⟩
theorem ti_93_95_97 : TI 93 95 97 1 := ⟨⟨_, List.mem_of_getElem? (i := 4) rfl⟩, cl_X7_93, GW_of (i := 57) (by decide +kernel) rfl, by decide +kernel, th_1_97.1, fun w hw => of_decide_eq_true (List.all_eq_true.mp th_1_97.2 w hw)⟩
theorem ti_60_105_64 : TI 60 105 64 0 := ⟨⟨_, List.mem_of_getElem? (i := 5) rfl⟩, cl_X7_60, GW_of (i := 53) (by decide +kernel) rfl, by decide +kernel, th_0_64.1, fun w hw => of_decide_eq_true (List.all_eq_true.mp th_0_64.2 w hw)⟩
theorem ti_74_275_78 : TI 74 275 78 2 := ⟨⟨_, List.mem_of_getElem? (i := 23) rfl⟩, cl_X7_74, GW_of (i := 55) (by decide +kernel) rfl, by decide +kernel, th_2_78.1, fun w hw => of_decide_eq_true (List.all_eq_true.mp th_2_78.2 w hw)⟩
theorem ti_60_82_64 : TI 60 82 64 0 := ⟨⟨_, List.mem_of_getElem? (i := 2) rfl⟩, cl_X7_60, GW_of (i := 53) (by decide +kernel) rfl, by decide +kernel, th_0_64.1, fun w hw => of_decide_eq_true (List.all_eq_true.mp th_0_64.2 w hw)⟩
theorem hi_L_allez_0 : HI mL_allez 3 0 11 2 1 := ⟨[], (0, 8, 11, 13), [], rfl, (fun z hz => nomatch hz), by decide, by decide, cl_L_13, EW_of (i := 224) (by decide +kernel) rfl, rfl, by decide, Or.inl ⟨2, rfl, dL_allez_11, rfl⟩⟩
theorem hi_L_appeal_2 : HI mL_appeal 5 2 13 4 2 := ⟨[], (0, 10, 13, 19), [(0, 10, 17, 25), (0, 10, 21, 13)], rfl, (fun z hz => nomatch hz), by decide, by decide, cl_L_19, EW_of (i := 326) (by decide +kernel) rfl, rfl, by decide, Or.inr ⟨dL_appeal_13, rfl⟩⟩
theorem hi_L_appeal_1 : HI mL_appeal 5 1 17 4 2 := ⟨[(0, 10, 13, 19)], (0, 10, 17, 25), [(0, 10, 21, 13)], rfl, List.forall_mem_cons.mpr ⟨Or.inr ⟨by decide, exN 2, cl_L_19, by decide⟩, (fun z hz => nomatch hz)⟩, by decide, by decide, cl_L_25, EW_of (i := 378) (by decide +kernel) rfl, rfl, by decide, Or.inr ⟨dL_appeal_17, rfl⟩⟩
theorem hi_L_appeal_0 : HI mL_appeal 5 0 21 4 2 := ⟨[(0, 10, 13, 19), (0, 10, 17, 25)], (0, 10, 21, 13), [], rfl, List.forall_mem_cons.mpr ⟨Or.inr ⟨by decide, exN 2, cl_L_19, by decide⟩, List.forall_mem_cons.mpr ⟨Or.inr ⟨by decide, exN 1, cl_L_25, by decide⟩, (fun z hz => nomatch hz)⟩⟩, by decide, by decide, cl_L_13, EW_of (i := 224) (by decide +kernel) rfl, rfl, by decide, Or.inr ⟨dL_appeal_21, rfl⟩⟩
theorem hi_L_appeals_2 : HI mL_appeals 5 2 13 4 2 := ⟨[], (0, 10, 13, 19), [], rfl, (fun z hz => nomatch hz), by decide, by decide, cl_L_19, EW_of (i := 326) (by decide +kernel) rfl, rfl, by decide, Or.inr ⟨dL_appeals_13, rfl⟩⟩
theorem hi_L_begin_2 : HI mL_begin 7 2 15 5 2 := ⟨[], (0, 12, 15, 19), [(0, 12, 19, 13)], rfl, (fun z hz => nomatch hz), by decide, by decide, cl_L_19, EW_of (i := 326) (by decide +kernel) rfl, rfl, by decide, Or.inr ⟨dL_begin_15, rfl⟩⟩
theorem hi_L_begin_0 : HI mL_begin 7 0 19 5 2 := ⟨[(0, 12, 15, 19)], (0, 12, 19, 13), [], rfl, List.forall_mem_cons.mpr ⟨Or.inr ⟨by decide, exN 2, cl_L_19, by decide⟩, (fun z hz => nomatch hz)⟩, by decide, by decide, cl_L_13, EW_of (i := 224) (by decide +kernel) rfl, rfl, by decide, Or.inr ⟨dL_begin_19, rfl⟩⟩
theorem hi_L_change_2 : HI mL_change 5 2 13 4 2 := ⟨[], (0, 10, 13, 19), [(0, 10, 17, 13)], rfl, (fun z hz => nomatch hz), by decide, by decide, cl_L_19, EW_of (i := 326) (by decide +kernel) rfl, rfl, by decide, Or.inr ⟨dL_change_13, rfl⟩⟩
theorem hi_L_change_0 : HI mL_change 5 0 17 4 2 := ⟨[(0, 10, 13, 19)], (0, 10, 17, 13), [], rfl, List.forall_mem_cons.mpr ⟨Or.inr ⟨by decide, exN 2, cl_L_19, by decide⟩, (fun z hz => nomatch hz)⟩, by decide, by decide, cl_L_13, EW_of (i := 224) (by decide +kernel) rfl, rfl, by decide, Or.inr ⟨dL_change_17, rfl⟩⟩
theorem hi_L_contact_2 : HI mL_contact 7 2 15 5 2 := ⟨[], (0, 12, 15, 19), [(0, 12, 19, 25), (0, 12, 23, 13)], rfl, (fun z hz => nomatch hz), by decide, by decide, cl_L_19, EW_of (i := 326) (by decide +kernel) rfl, rfl, by decide, Or.inr ⟨dL_contact_15, rfl⟩⟩
theorem hi_L_contact_1 : HI mL_contact 7 1 19 5 2 := ⟨[(0, 12, 15, 19)], (0, 12, 19, 25), [(0, 12, 23, 13)], rfl, List.forall_mem_cons.mpr ⟨Or.inr ⟨by decide, exN 2, cl_L_19, by decide⟩, (fun z hz => nomatch hz)⟩, by decide, by decide, cl_L_25, EW_of (i := 378) (by decide +kernel) rfl, rfl, by decide, Or.inr ⟨dL_contact_19, rfl⟩⟩
theorem hi_L_contact_0 : HI mL_contact 7 0 23 5 2 := ⟨[(0, 12, 15, 19), (0, 12, 19, 25)], (0, 12, 23, 13), [], rfl, List.forall_mem_cons.mpr ⟨Or.inr ⟨by decide, exN 2, cl_L_19, by decide⟩, List.forall_mem_cons.mpr ⟨Or.inr ⟨by decide, exN 1, cl_L_25, by decide⟩, (fun z hz => nomatch hz)⟩⟩, by decide, by decide, cl_L_13, EW_of (i := 224) (by decide +kernel) rfl, rfl, by decide, Or.inr ⟨dL_contact_23, rfl⟩⟩
theorem hi_L_drawPools_1 : HI mL_drawPools 4 1 12 3 1 := ⟨[], (0, 9, 12, 25), [(0, 9, 15, 13)], rfl, (fun z hz => nomatch hz), by decide, by decide, cl_L_25, EW_of (i := 378) (by decide +kernel) rfl, rfl, by decide, Or.inl ⟨3, rfl, dL_drawPools_12, rfl⟩⟩
theorem hi_L_drawPools_0 : HI mL_drawPools 4 0 15 3 1 := ⟨[(0, 9, 12, 25)], (0, 9, 15, 13), [], rfl, List.forall_mem_cons.mpr ⟨Or.inr ⟨by decide, exN 1, cl_L_25, by decide⟩, (fun z hz => nomatch hz)⟩, by decide, by decide, cl_L_13, EW_of (i := 224) (by decide +kernel) rfl, rfl, by decide, Or.inl ⟨3, rfl, dL_drawPools_15, rfl⟩⟩
theorem hi_L_drawTableau_0 : HI mL_drawTableau 3 0 11 2 1 := ⟨[], (0, 8, 11, 13), [], rfl, (fun z hz => nomatch hz), by decide, by decide, cl_L_13, EW_of (i := 224) (by decide +kernel) rfl, rfl, by decide, Or.inl ⟨2, rfl, dL_drawTableau_11, rfl⟩⟩
theorem hi_L_fencer_0 : HI mL_fencer 3 0 11 2 1 := ⟨[], (0, 8, 11, 13), [], rfl, (fun z hz => nomatch hz), by decide, by decide, cl_L_13, EW_of (i := 224) (by decide +kernel) rfl, rfl, by decide, Or.inl ⟨2, rfl, dL_fencer_11, rfl⟩⟩
theorem hi_L_fencerOf_2 : HI mL_fencerOf 5 2 13 4 2 := ⟨[], (0, 10, 13, 19), [], rfl, (fun z hz => nomatch hz), by decide, by decide, cl_L_19, EW_of (i := 326) (by decide +kernel) rfl, rfl, by decide, Or.inr ⟨dL_fencerOf_13, rfl⟩⟩
theorem hi_L_halt_0 : HI mL_halt 3 0 11 2 1 := ⟨[], (0, 8, 11, 13), [], rfl, (fun z hz => nomatch hz), by decide, by decide, cl_L_13, EW_of (i := 224) (by decide +kernel) rfl, rfl, by decide, Or.inl ⟨2, rfl, dL_halt_11, rfl⟩⟩
theorem hi_L_index_2 : HI mL_index 4 2 12 3 1 := ⟨[], (0, 9, 12, 19), [], rfl, (fun z hz => nomatch hz), by decide, by decide, cl_L_19, EW_of (i := 326) (by decide +kernel) rfl, rfl, by decide, Or.inl ⟨3, rfl, dL_index_12, rfl⟩⟩
theorem hi_L_mark_2 : HI mL_mark 4 2 12 3 1 := ⟨[], (0, 9, 12, 19), [], rfl, (fun z hz => nomatch hz), by decide, by decide, cl_L_19, EW_of (i := 326) (by decide +kernel) rfl, rfl, by decide, Or.inl ⟨3, rfl, dL_mark_12, rfl⟩⟩
theorem hi_L_nodeWinner_2 : HI mL_nodeWinner 4 2 12 3 1 := ⟨[], (0, 9, 12, 19), [], rfl, (fun z hz => nomatch hz), by decide, by decide, cl_L_19, EW_of (i := 326) (by decide +kernel) rfl, rfl, by decide, Or.inl ⟨3, rfl, dL_nodeWinner_12, rfl⟩⟩
theorem hi_L_owner_2 : HI mL_owner 4 2 12 3 1 := ⟨[], (0, 9, 12, 19), [], rfl, (fun z hz => nomatch hz), by decide, by decide, cl_L_19, EW_of (i := 326) (by decide +kernel) rfl, rfl, by decide, Or.inl ⟨3, rfl, dL_owner_12, rfl⟩⟩
theorem hi_L_phrases_2 : HI mL_phrases 4 2 12 3 1 := ⟨[], (0, 9, 12, 19), [], rfl, (fun z hz => nomatch hz), by decide, by decide, cl_L_19, EW_of (i := 326) (by decide +kernel) rfl, rfl, by decide, Or.inl ⟨3, rfl, dL_phrases_12, rfl⟩⟩
theorem hi_L_rankedAt_2 : HI mL_rankedAt 4 2 12 3 1 := ⟨[], (0, 9, 12, 19), [], rfl, (fun z hz => nomatch hz), by decide, by decide, cl_L_19, EW_of (i := 326) (by decide +kernel) rfl, rfl, by decide, Or.inl ⟨3, rfl, dL_rankedAt_12, rfl⟩⟩
theorem hi_L_right_1 : HI mL_right 5 1 13 4 2 := ⟨[], (0, 10, 13, 25), [(0, 10, 17, 13)], rfl, (fun z hz => nomatch hz), by decide, by decide, cl_L_25, EW_of (i := 378) (by decide +kernel) rfl, rfl, by decide, Or.inr ⟨dL_right_13, rfl⟩⟩
theorem hi_L_right_0 : HI mL_right 5 0 17 4 2 := ⟨[(0, 10, 13, 25)], (0, 10, 17, 13), [], rfl, List.forall_mem_cons.mpr ⟨Or.inr ⟨by decide, exN 1, cl_L_25, by decide⟩, (fun z hz => nomatch hz)⟩, by decide, by decide, cl_L_13, EW_of (i := 224) (by decide +kernel) rfl, rfl, by decide, Or.inr ⟨dL_right_17, rfl⟩⟩
theorem hi_L_score_2 : HI mL_score 5 2 13 4 2 := ⟨[], (0, 10, 13, 19), [], rfl, (fun z hz => nomatch hz), by decide, by decide, cl_L_19, EW_of (i := 326) (by decide +kernel) rfl, rfl, by decide, Or.inr ⟨dL_score_13, rfl⟩⟩
theorem hi_L_scoreAnew_2 : HI mL_scoreAnew 5 2 13 4 2 := ⟨[], (0, 10, 13, 19), [], rfl, (fun z hz => nomatch hz), by decide, by decide, cl_L_19, EW_of (i := 326) (by decide +kernel) rfl, rfl, by decide, Or.inr ⟨dL_scoreAnew_13, rfl⟩⟩
theorem hi_L_test_2 : HI mL_test 7 2 22 5 2 := ⟨[], (0, 19, 22, 19), [(0, 19, 26, 25), (0, 19, 30, 13)], rfl, (fun z hz => nomatch hz), by decide, by decide, cl_L_19, EW_of (i := 326) (by decide +kernel) rfl, rfl, by decide, Or.inr ⟨dL_test_22, rfl⟩⟩
theorem hi_L_test_1 : HI mL_test 7 1 26 5 2 := ⟨[(0, 19, 22, 19)], (0, 19, 26, 25), [(0, 19, 30, 13)], rfl, List.forall_mem_cons.mpr ⟨Or.inr ⟨by decide, exN 2, cl_L_19, by decide⟩, (fun z hz => nomatch hz)⟩, by decide, by decide, cl_L_25, EW_of (i := 378) (by decide +kernel) rfl, rfl, by decide, Or.inr ⟨dL_test_26, rfl⟩⟩
theorem hi_L_test_0 : HI mL_test 7 0 30 5 2 := ⟨[(0, 19, 22, 19), (0, 19, 26, 25)], (0, 19, 30, 13), [], rfl, List.forall_mem_cons.mpr ⟨Or.inr ⟨by decide, exN 2, cl_L_19, by decide⟩, List.forall_mem_cons.mpr ⟨Or.inr ⟨by decide, exN 1, cl_L_25, by decide⟩, (fun z hz => nomatch hz)⟩⟩, by decide, by decide, cl_L_13, EW_of (i := 224) (by decide +kernel) rfl, rfl, by decide, Or.inr ⟨dL_test_30, rfl⟩⟩
theorem hi_L_touches_2 : HI mL_touches 5 2 13 4 2 := ⟨[], (0, 10, 13, 19), [], rfl, (fun z hz => nomatch hz), by decide, by decide, cl_L_19, EW_of (i := 326) (by decide +kernel) rfl, rfl, by decide, Or.inr ⟨dL_touches_13, rfl⟩⟩
theorem hi_L_weapon_2 : HI mL_weapon 4 2 12 3 1 := ⟨[], (0, 9, 12, 19), [(0, 9, 15, 13)], rfl, (fun z hz => nomatch hz), by decide, by decide, cl_L_19, EW_of (i := 326) (by decide +kernel) rfl, rfl, by decide, Or.inl ⟨3, rfl, dL_weapon_12, rfl⟩⟩
theorem hi_L_weapon_0 : HI mL_weapon 4 0 15 3 1 := ⟨[(0, 9, 12, 19)], (0, 9, 15, 13), [], rfl, List.forall_mem_cons.mpr ⟨Or.inr ⟨by decide, exN 2, cl_L_19, by decide⟩, (fun z hz => nomatch hz)⟩, by decide, by decide, cl_L_13, EW_of (i := 224) (by decide +kernel) rfl, rfl, by decide, Or.inl ⟨3, rfl, dL_weapon_15, rfl⟩⟩
theorem hi_L_weaponOf_2 : HI mL_weaponOf 4 2 12 3 1 := ⟨[], (0, 9, 12, 19), [], rfl, (fun z hz => nomatch hz), by decide, by decide, cl_L_19, EW_of (i := 326) (by decide +kernel) rfl, rfl, by decide, Or.inl ⟨3, rfl, dL_weaponOf_12, rfl⟩⟩
theorem hi_L_winner_2 : HI mL_winner 4 2 12 3 1 := ⟨[], (0, 9, 12, 19), [], rfl, (fun z hz => nomatch hz), by decide, by decide, cl_L_19, EW_of (i := 326) (by decide +kernel) rfl, rfl, by decide, Or.inl ⟨3, rfl, dL_winner_12, rfl⟩⟩
theorem hi_L_won_2 : HI mL_won 4 2 12 3 1 := ⟨[], (0, 9, 12, 19), [], rfl, (fun z hz => nomatch hz), by decide, by decide, cl_L_19, EW_of (i := 326) (by decide +kernel) rfl, rfl, by decide, Or.inl ⟨3, rfl, dL_won_12, rfl⟩⟩
