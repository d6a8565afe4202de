/-! THE LAW IN THE TABLES -/
def mL_acts : MI := (yL_acts, cL_acts, 18, (some FieldType.boolean), [], { frames := 9, cells := 60, slots := 420, locals := 250 })
set_option maxRecDepth 100000 in
theorem kiL_acts : KI mL_acts 13 := ⟨rfl, GW_of (i := 411) (by rfl) rfl, GW_of (i := 22) (by decide +kernel) rfl, ⟨by decide +kernel, by decide +kernel⟩, by decide +kernel⟩
def mL_allez : MI := (yL_allez, cL_allez, 2, (some FieldType.int), [(0, 4, 5, 113)], { frames := 7, cells := 4, slots := 34, locals := 113 })
def mL_appealed : MI := (yL_appealed, cL_appealed, 4, (some FieldType.int), [(0, 6, 7, 113)], { frames := 7, cells := 1, slots := 6, locals := 142 })
def mL_armed : MI := (yL_armed, cL_armed, 7, (some FieldType.int), [], { frames := 7, cells := 2, slots := 12, locals := 165 })
theorem kiL_armed : KI mL_armed 5 := ⟨rfl, GW_of (i := 435) (by decide +kernel) rfl, GW_of (i := 22) (by decide +kernel) rfl, ⟨by decide +kernel, by decide +kernel⟩, by decide +kernel⟩
def mL_begun : MI := (yL_begun, cL_begun, 5, (some FieldType.int), [(0, 7, 8, 111), (0, 7, 13, 113)], { frames := 7, cells := 1, slots := 6, locals := 116 })
def mL_bits : MI := (yL_bits, cL_bits, 5, (some FieldType.int), [], { frames := 0, cells := 0, slots := 0, locals := 0 })
theorem kiL_bits : KI mL_bits 5 := ⟨rfl, GW_of (i := 423) (by decide +kernel) rfl, GW_of (i := 22) (by decide +kernel) rfl, ⟨by decide +kernel, by decide +kernel⟩, by decide +kernel⟩
def mL_changed : MI := (yL_changed, cL_changed, 4, (some FieldType.int), [(0, 6, 7, 113)], { frames := 7, cells := 1, slots := 6, locals := 115 })
def mL_drawn : MI := (yL_drawn, cL_drawn, 2, (some FieldType.int), [(0, 4, 5, 113)], { frames := 7, cells := 45, slots := 345, locals := 137 })
def mL_fencer : MI := (yL_fencer, cL_fencer, 3, (some FieldType.int), [], { frames := 0, cells := 0, slots := 0, locals := 0 })
theorem kiL_fencer : KI mL_fencer 3 := ⟨rfl, GW_of (i := 429) (by decide +kernel) rfl, GW_of (i := 22) (by decide +kernel) rfl, ⟨by decide +kernel, by decide +kernel⟩, by decide +kernel⟩
def mL_follow : MI := (yL_follow, cL_follow, 10, none, [], { frames := 4, cells := 1, slots := 8, locals := 134 })
set_option maxRecDepth 100000 in
theorem kiL_follow : KI mL_follow 6 := ⟨rfl, GW_of (i := 699) (by rfl) rfl, GW_of (i := 22) (by decide +kernel) rfl, ⟨by decide +kernel, by decide +kernel⟩, by decide +kernel⟩
def mL_from : MI := (yL_from, cL_from, 4, (some FieldType.int), [], { frames := 0, cells := 0, slots := 0, locals := 0 })
theorem kiL_from : KI mL_from 3 := ⟨rfl, GW_of (i := 406) (by decide +kernel) rfl, GW_of (i := 22) (by decide +kernel) rfl, ⟨by decide +kernel, by decide +kernel⟩, by decide +kernel⟩
def mL_halted : MI := (yL_halted, cL_halted, 2, (some FieldType.int), [(0, 4, 5, 113)], { frames := 7, cells := 1, slots := 6, locals := 138 })
def mL_heard : MI := (yL_heard, cL_heard, 4, (some FieldType.int), [(0, 36, 37, 113)], { frames := 7, cells := 1, slots := 6, locals := 114 })
def mL_holds : MI := (yL_holds, cL_holds, 14, (some FieldType.boolean), [], { frames := 10, cells := 46000, slots := 290000, locals := 295 })
set_option maxRecDepth 100000 in
theorem kiL_holds : KI mL_holds 1 := ⟨rfl, GW_of (i := 46) (by rfl) rfl, GW_of (i := 22) (by decide +kernel) rfl, ⟨by decide +kernel, by decide +kernel⟩, by decide +kernel⟩
def mL_isAhead : MI := (yL_isAhead, cL_isAhead, 11, (some FieldType.boolean), [], { frames := 4, cells := 0, slots := 0, locals := 140 })
set_option maxRecDepth 100000 in
theorem kiL_isAhead : KI mL_isAhead 6 := ⟨rfl, GW_of (i := 754) (by rfl) rfl, GW_of (i := 22) (by decide +kernel) rfl, ⟨by decide +kernel, by decide +kernel⟩, by decide +kernel⟩
def mL_isAppealed : MI := (yL_isAppealed, cL_isAppealed, 15, (some FieldType.boolean), [], { frames := 8, cells := 3, slots := 24, locals := 173 })
set_option maxRecDepth 100000 in
theorem kiL_isAppealed : KI mL_isAppealed 8 := ⟨rfl, GW_of (i := 705) (by rfl) rfl, GW_of (i := 22) (by decide +kernel) rfl, ⟨by decide +kernel, by decide +kernel⟩, by decide +kernel⟩
def mL_isBegun : MI := (yL_isBegun, cL_isBegun, 13, (some FieldType.boolean), [], { frames := 8, cells := 6, slots := 36, locals := 199 })
set_option maxRecDepth 100000 in
theorem kiL_isBegun : KI mL_isBegun 7 := ⟨rfl, GW_of (i := 414) (by rfl) rfl, GW_of (i := 22) (by decide +kernel) rfl, ⟨by decide +kernel, by decide +kernel⟩, by decide +kernel⟩
def mL_isFenced : MI := (yL_isFenced, cL_isFenced, 26, (some FieldType.boolean), [], { frames := 8, cells := 24, slots := 160, locals := 197 })
set_option maxRecDepth 100000 in
theorem kiL_isFenced : KI mL_isFenced 12 := ⟨rfl, GW_of (i := 553) (by rfl) rfl, GW_of (i := 22) (by decide +kernel) rfl, ⟨by decide +kernel, by decide +kernel⟩, by decide +kernel⟩
def mL_isHeld : MI := (yL_isHeld, cL_isHeld, 2, (some FieldType.boolean), [(0, 4, 5, 111), (0, 4, 8, 234), (0, 4, 11, 113)], { frames := 11, cells := 46000, slots := 290000, locals := 336 })
def mL_isTold : MI := (yL_isTold, cL_isTold, 14, (some FieldType.boolean), [], { frames := 7, cells := 400, slots := 2400, locals := 214 })
set_option maxRecDepth 100000 in
theorem kiL_isTold : KI mL_isTold 8 := ⟨rfl, GW_of (i := 827) (by rfl) rfl, GW_of (i := 22) (by decide +kernel) rfl, ⟨by decide +kernel, by decide +kernel⟩, by decide +kernel⟩
def mL_judge : MI := (yL_judge, cL_judge, 12, (some FieldType.int), [], { frames := 0, cells := 0, slots := 0, locals := 0 })
set_option maxRecDepth 100000 in
theorem kiL_judge : KI mL_judge 4 := ⟨rfl, GW_of (i := 689) (by rfl) rfl, GW_of (i := 22) (by decide +kernel) rfl, ⟨by decide +kernel, by decide +kernel⟩, by decide +kernel⟩
def mL_law : MI := (yL_law, cL_law, 1, ret, [], room_1)
def mL_number : MI := (yL_number, cL_number, 1, (some FieldType.int), [], { frames := 0, cells := 0, slots := 0, locals := 0 })
theorem kiL_number : KI mL_number 1 := ⟨rfl, GW_of (i := 432) (by decide +kernel) rfl, GW_of (i := 22) (by decide +kernel) rfl, ⟨by decide +kernel, by decide +kernel⟩, by decide +kernel⟩
def mL_ranked : MI := (yL_ranked, cL_ranked, 9, (some FieldType.int), [], { frames := 5, cells := 0, slots := 0, locals := 178 })
theorem kiL_ranked : KI mL_ranked 5 := ⟨rfl, GW_of (i := 751) (by decide +kernel) rfl, GW_of (i := 22) (by decide +kernel) rfl, ⟨by decide +kernel, by decide +kernel⟩, by decide +kernel⟩
def mL_strikes : MI := (yL_strikes, cL_strikes, 3, (some FieldType.boolean), [], { frames := 0, cells := 0, slots := 0, locals := 0 })
theorem kiL_strikes : KI mL_strikes 3 := ⟨rfl, GW_of (i := 426) (by decide +kernel) rfl, GW_of (i := 22) (by decide +kernel) rfl, ⟨by decide +kernel, by decide +kernel⟩, by decide +kernel⟩
def mL_sum : MI := (yL_sum, cL_sum, 12, (some FieldType.int), [], { frames := 3, cells := 0, slots := 0, locals := 101 })
set_option maxRecDepth 100000 in
theorem kiL_sum : KI mL_sum 6 := ⟨rfl, GW_of (i := 757) (by rfl) rfl, GW_of (i := 22) (by decide +kernel) rfl, ⟨by decide +kernel, by decide +kernel⟩, by decide +kernel⟩
def mL_tested : MI := (yL_tested, cL_tested, 5, (some FieldType.int), [(0, 15, 16, 113)], { frames := 7, cells := 1, slots := 6, locals := 165 })
def mL_told : MI := (yL_told, cL_told, 10, (some FieldType.int), [], { frames := 2, cells := 0, slots := 0, locals := 64 })
set_option maxRecDepth 100000 in
theorem kiL_told : KI mL_told 4 := ⟨rfl, GW_of (i := 417) (by rfl) rfl, GW_of (i := 22) (by decide +kernel) rfl, ⟨by decide +kernel, by decide +kernel⟩, by decide +kernel⟩
def mL_touches : MI := (yL_touches, cL_touches, 5, (some FieldType.int), [], { frames := 1, cells := 0, slots := 0, locals := 32 })
theorem kiL_touches : KI mL_touches 4 := ⟨rfl, GW_of (i := 420) (by decide +kernel) rfl, GW_of (i := 22) (by decide +kernel) rfl, ⟨by decide +kernel, by decide +kernel⟩, by decide +kernel⟩
def mL_winner : MI := (yL_winner, cL_winner, 6, (some FieldType.int), [], { frames := 3, cells := 0, slots := 0, locals := 101 })
theorem kiL_winner : KI mL_winner 5 := ⟨rfl, GW_of (i := 702) (by decide +kernel) rfl, GW_of (i := 22) (by decide +kernel) rfl, ⟨by decide +kernel, by decide +kernel⟩, by decide +kernel⟩
theorem ca_L_196 : SI RL 196 mL_isBegun 7 := ⟨kiL_isBegun, GW_of (i := 412) (by decide +kernel) rfl, GW_of (i := 413) (by decide +kernel) rfl⟩
theorem ca_L_200 : SI RL 200 mL_isFenced 12 := ⟨kiL_isFenced, GW_of (i := 551) (by decide +kernel) rfl, GW_of (i := 552) (by decide +kernel) rfl⟩
theorem ca_L_23 : SI RL 23 mL_told 4 := ⟨kiL_told, GW_of (i := 415) (by decide +kernel) rfl, GW_of (i := 416) (by decide +kernel) rfl⟩
theorem ca_L_204 : SI RL 204 mL_isAppealed 8 := ⟨kiL_isAppealed, GW_of (i := 703) (by decide +kernel) rfl, GW_of (i := 704) (by decide +kernel) rfl⟩
theorem ca_L_187 : SI RL 187 mL_follow 6 := ⟨kiL_follow, GW_of (i := 697) (by decide +kernel) rfl, GW_of (i := 698) (by decide +kernel) rfl⟩
theorem ca_L_166 : WI RL 166 mL_tested 4 := ⟨by decide, GW_of (i := 686) (by decide +kernel) rfl, GW_of (i := 22) (by decide +kernel) rfl, ⟨by decide +kernel, by decide +kernel⟩, GW_of (i := 684) (by decide +kernel) rfl, GW_of (i := 685) (by decide +kernel) rfl, by decide +kernel⟩
theorem ca_L_27 : SI RL 27 mL_fencer 3 := ⟨kiL_fencer, GW_of (i := 427) (by decide +kernel) rfl, GW_of (i := 428) (by decide +kernel) rfl⟩
theorem ca_L_208 : WI RL 208 mL_changed 3 := ⟨by decide, GW_of (i := 733) (by decide +kernel) rfl, GW_of (i := 22) (by decide +kernel) rfl, ⟨by decide +kernel, by decide +kernel⟩, GW_of (i := 731) (by decide +kernel) rfl, GW_of (i := 732) (by decide +kernel) rfl, by decide +kernel⟩
theorem ca_L_104 : SI RL 104 mL_ranked 5 := ⟨kiL_ranked, GW_of (i := 749) (by decide +kernel) rfl, GW_of (i := 750) (by decide +kernel) rfl⟩
theorem ca_L_211 : WI RL 211 mL_drawn 1 := ⟨by decide, GW_of (i := 760) (by decide +kernel) rfl, GW_of (i := 22) (by decide +kernel) rfl, ⟨by decide +kernel, by decide +kernel⟩, GW_of (i := 758) (by decide +kernel) rfl, GW_of (i := 759) (by decide +kernel) rfl, by decide +kernel⟩
theorem ca_L_122 : VI RL 122 mX7_allez 0 7 := ⟨kiX7_allez, GW_of (i := 557) (by decide +kernel) rfl, GW_of (i := 558) (by decide +kernel) rfl, GW_of (i := 559) (by decide +kernel) rfl, TX7, 10, rfl⟩
theorem ca_L_135 : VI RL 135 mX7_appeal 2 7 := ⟨kiX7_appeal, GW_of (i := 709) (by decide +kernel) rfl, GW_of (i := 710) (by decide +kernel) rfl, GW_of (i := 711) (by decide +kernel) rfl, TX7, 10, rfl⟩
theorem ca_L_141 : VI RL 141 mX7_weapon 1 7 := ⟨kiX7_weapon, GW_of (i := 436) (by decide +kernel) rfl, GW_of (i := 437) (by decide +kernel) rfl, GW_of (i := 438) (by decide +kernel) rfl, TX7, 10, rfl⟩
theorem ca_L_115 : VI RL 115 mX7_test 3 7 := ⟨kiX7_test, GW_of (i := 468) (by decide +kernel) rfl, GW_of (i := 469) (by decide +kernel) rfl, GW_of (i := 470) (by decide +kernel) rfl, TX7, 10, rfl⟩
theorem ca_L_107 : VI RL 107 mX7_begin 3 7 := ⟨kiX7_begin, GW_of (i := 349) (by decide +kernel) rfl, GW_of (i := 350) (by decide +kernel) rfl, GW_of (i := 351) (by decide +kernel) rfl, TX7, 10, rfl⟩
theorem ca_L_119 : VI RL 119 mX7_change 2 7 := ⟨kiX7_change, GW_of (i := 734) (by decide +kernel) rfl, GW_of (i := 735) (by decide +kernel) rfl, GW_of (i := 736) (by decide +kernel) rfl, TX7, 10, rfl⟩
theorem ca_L_138 : VI RL 138 mX7_drawTableau 0 7 := ⟨kiX7_drawTableau, GW_of (i := 761) (by decide +kernel) rfl, GW_of (i := 762) (by decide +kernel) rfl, GW_of (i := 763) (by decide +kernel) rfl, TX7, 10, rfl⟩
theorem ca_L_31 : SI RL 31 mL_winner 5 := ⟨kiL_winner, GW_of (i := 700) (by decide +kernel) rfl, GW_of (i := 701) (by decide +kernel) rfl⟩
theorem ca_L_132 : VI RL 132 mX7_halt 0 7 := ⟨kiX7_halt, GW_of (i := 606) (by decide +kernel) rfl, GW_of (i := 607) (by decide +kernel) rfl, GW_of (i := 608) (by decide +kernel) rfl, TX7, 10, rfl⟩
theorem ca_L_125 : VI RL 125 mX7_right 2 7 := ⟨kiX7_right, GW_of (i := 644) (by decide +kernel) rfl, GW_of (i := 645) (by decide +kernel) rfl, GW_of (i := 646) (by decide +kernel) rfl, TX7, 10, rfl⟩
theorem ca_L_128 : VI RL 128 mX7_contact 3 7 := ⟨kiX7_contact, GW_of (i := 673) (by decide +kernel) rfl, GW_of (i := 674) (by decide +kernel) rfl, GW_of (i := 675) (by decide +kernel) rfl, TX7, 10, rfl⟩
theorem ca_L_214 : II RL 214 mX7_init 1 := ⟨kiX7_init, GW_of (i := 49) (by decide +kernel) rfl, GW_of (i := 50) (by decide +kernel) rfl, rfl⟩
theorem ca_L_217 : VI RL 217 mX7_fencer 0 7 := ⟨kiX7_fencer, GW_of (i := 169) (by decide +kernel) rfl, GW_of (i := 170) (by decide +kernel) rfl, GW_of (i := 171) (by decide +kernel) rfl, TX7, 10, rfl⟩
theorem ca_L_219 : VI RL 219 mX7_drawPools 1 7 := ⟨kiX7_drawPools, GW_of (i := 268) (by decide +kernel) rfl, GW_of (i := 269) (by decide +kernel) rfl, GW_of (i := 270) (by decide +kernel) rfl, TX7, 10, rfl⟩
theorem ca_L_144 : WI RL 144 mL_begun 4 := ⟨by decide, GW_of (i := 348) (by decide +kernel) rfl, GW_of (i := 22) (by decide +kernel) rfl, ⟨by decide +kernel, by decide +kernel⟩, GW_of (i := 346) (by decide +kernel) rfl, GW_of (i := 347) (by decide +kernel) rfl, by decide +kernel⟩
theorem ca_L_163 : SI RL 163 mL_from 3 := ⟨kiL_from, GW_of (i := 404) (by decide +kernel) rfl, GW_of (i := 405) (by decide +kernel) rfl⟩
theorem ca_L_223 : SI RL 223 mL_acts 13 := ⟨kiL_acts, GW_of (i := 409) (by decide +kernel) rfl, GW_of (i := 410) (by decide +kernel) rfl⟩
theorem ca_L_227 : SI RL 227 mL_isTold 8 := ⟨kiL_isTold, GW_of (i := 825) (by decide +kernel) rfl, GW_of (i := 826) (by decide +kernel) rfl⟩
theorem ca_L_35 : SI RL 35 mL_sum 6 := ⟨kiL_sum, GW_of (i := 755) (by decide +kernel) rfl, GW_of (i := 756) (by decide +kernel) rfl⟩
theorem ca_L_191 : WI RL 191 mL_appealed 3 := ⟨by decide, GW_of (i := 708) (by decide +kernel) rfl, GW_of (i := 22) (by decide +kernel) rfl, ⟨by decide +kernel, by decide +kernel⟩, GW_of (i := 706) (by decide +kernel) rfl, GW_of (i := 707) (by decide +kernel) rfl, by decide +kernel⟩
theorem ca_L_19 : SI RL 19 mL_touches 4 := ⟨kiL_touches, GW_of (i := 418) (by decide +kernel) rfl, GW_of (i := 419) (by decide +kernel) rfl⟩
theorem ca_L_49 : SI RL 49 mL_number 1 := ⟨kiL_number, GW_of (i := 430) (by decide +kernel) rfl, GW_of (i := 431) (by decide +kernel) rfl⟩
theorem ca_L_148 : SI RL 148 mL_armed 5 := ⟨kiL_armed, GW_of (i := 433) (by decide +kernel) rfl, GW_of (i := 434) (by decide +kernel) rfl⟩
theorem ca_L_152 : WI RL 152 mL_allez 1 := ⟨by decide, GW_of (i := 556) (by decide +kernel) rfl, GW_of (i := 22) (by decide +kernel) rfl, ⟨by decide +kernel, by decide +kernel⟩, GW_of (i := 554) (by decide +kernel) rfl, GW_of (i := 555) (by decide +kernel) rfl, by decide +kernel⟩
theorem ca_L_155 : WI RL 155 mL_halted 1 := ⟨by decide, GW_of (i := 605) (by decide +kernel) rfl, GW_of (i := 22) (by decide +kernel) rfl, ⟨by decide +kernel, by decide +kernel⟩, GW_of (i := 603) (by decide +kernel) rfl, GW_of (i := 604) (by decide +kernel) rfl, by decide +kernel⟩
theorem ca_L_158 : WI RL 158 mL_heard 3 := ⟨by decide, GW_of (i := 643) (by decide +kernel) rfl, GW_of (i := 22) (by decide +kernel) rfl, ⟨by decide +kernel, by decide +kernel⟩, GW_of (i := 641) (by decide +kernel) rfl, GW_of (i := 642) (by decide +kernel) rfl, by decide +kernel⟩
theorem ca_L_53 : VI RL 53 mX7_isFencing 0 7 := ⟨kiX7_isFencing, GW_of (i := 680) (by decide +kernel) rfl, GW_of (i := 681) (by decide +kernel) rfl, GW_of (i := 682) (by decide +kernel) rfl, TX7, 10, rfl⟩
theorem ca_L_169 : SI RL 169 mL_judge 4 := ⟨kiL_judge, GW_of (i := 687) (by decide +kernel) rfl, GW_of (i := 688) (by decide +kernel) rfl⟩
theorem ca_L_230 : SI RL 230 mL_holds 1 := ⟨kiL_holds, GW_of (i := 44) (by decide +kernel) rfl, GW_of (i := 45) (by decide +kernel) rfl⟩
theorem ca_L_43 : VI RL 43 mX7_piste 0 7 := ⟨kiX7_piste, GW_of (i := 828) (by decide +kernel) rfl, GW_of (i := 829) (by decide +kernel) rfl, GW_of (i := 830) (by decide +kernel) rfl, TX7, 10, rfl⟩
theorem ca_L_57 : VI RL 57 mX7_weaponOf 1 7 := ⟨kiX7_weaponOf, GW_of (i := 832) (by decide +kernel) rfl, GW_of (i := 833) (by decide +kernel) rfl, GW_of (i := 834) (by decide +kernel) rfl, TX7, 10, rfl⟩
theorem ca_L_60 : VI RL 60 mX7_size 0 7 := ⟨kiX7_size, GW_of (i := 836) (by decide +kernel) rfl, GW_of (i := 837) (by decide +kernel) rfl, GW_of (i := 838) (by decide +kernel) rfl, TX7, 10, rfl⟩
theorem ca_L_63 : VI RL 63 mX7_gone 0 7 := ⟨kiX7_gone, GW_of (i := 840) (by decide +kernel) rfl, GW_of (i := 841) (by decide +kernel) rfl, GW_of (i := 842) (by decide +kernel) rfl, TX7, 10, rfl⟩
theorem ca_L_66 : VI RL 66 mX7_phrases 1 7 := ⟨kiX7_phrases, GW_of (i := 844) (by decide +kernel) rfl, GW_of (i := 845) (by decide +kernel) rfl, GW_of (i := 846) (by decide +kernel) rfl, TX7, 10, rfl⟩
theorem ca_L_69 : VI RL 69 mX7_score 2 7 := ⟨kiX7_score, GW_of (i := 849) (by decide +kernel) rfl, GW_of (i := 850) (by decide +kernel) rfl, GW_of (i := 851) (by decide +kernel) rfl, TX7, 10, rfl⟩
theorem ca_L_73 : VI RL 73 mX7_scoreAnew 2 7 := ⟨kiX7_scoreAnew, GW_of (i := 854) (by decide +kernel) rfl, GW_of (i := 855) (by decide +kernel) rfl, GW_of (i := 856) (by decide +kernel) rfl, TX7, 10, rfl⟩
theorem ca_L_76 : VI RL 76 mX7_appeals 2 7 := ⟨kiX7_appeals, GW_of (i := 863) (by decide +kernel) rfl, GW_of (i := 864) (by decide +kernel) rfl, GW_of (i := 865) (by decide +kernel) rfl, TX7, 10, rfl⟩
theorem ca_L_79 : VI RL 79 mX7_fencerOf 2 7 := ⟨kiX7_fencerOf, GW_of (i := 867) (by decide +kernel) rfl, GW_of (i := 868) (by decide +kernel) rfl, GW_of (i := 869) (by decide +kernel) rfl, TX7, 10, rfl⟩
theorem ca_L_82 : VI RL 82 mX7_winner 1 7 := ⟨kiX7_winner, GW_of (i := 871) (by decide +kernel) rfl, GW_of (i := 872) (by decide +kernel) rfl, GW_of (i := 873) (by decide +kernel) rfl, TX7, 10, rfl⟩
theorem ca_L_84 : VI RL 84 mX7_touches 2 7 := ⟨kiX7_touches, GW_of (i := 877) (by decide +kernel) rfl, GW_of (i := 878) (by decide +kernel) rfl, GW_of (i := 879) (by decide +kernel) rfl, TX7, 10, rfl⟩
theorem ca_L_86 : VI RL 86 mX7_nodeWinner 1 7 := ⟨kiX7_nodeWinner, GW_of (i := 882) (by decide +kernel) rfl, GW_of (i := 883) (by decide +kernel) rfl, GW_of (i := 884) (by decide +kernel) rfl, TX7, 10, rfl⟩
theorem ca_L_89 : VI RL 89 mX7_owner 1 7 := ⟨kiX7_owner, GW_of (i := 888) (by decide +kernel) rfl, GW_of (i := 889) (by decide +kernel) rfl, GW_of (i := 890) (by decide +kernel) rfl, TX7, 10, rfl⟩
theorem ca_L_92 : VI RL 92 mX7_mark 1 7 := ⟨kiX7_mark, GW_of (i := 892) (by decide +kernel) rfl, GW_of (i := 893) (by decide +kernel) rfl, GW_of (i := 894) (by decide +kernel) rfl, TX7, 10, rfl⟩
theorem ca_L_95 : VI RL 95 mX7_won 1 7 := ⟨kiX7_won, GW_of (i := 896) (by decide +kernel) rfl, GW_of (i := 897) (by decide +kernel) rfl, GW_of (i := 898) (by decide +kernel) rfl, TX7, 10, rfl⟩
theorem ca_L_98 : VI RL 98 mX7_index 1 7 := ⟨kiX7_index, GW_of (i := 900) (by decide +kernel) rfl, GW_of (i := 901) (by decide +kernel) rfl, GW_of (i := 902) (by decide +kernel) rfl, TX7, 10, rfl⟩
theorem ca_L_101 : VI RL 101 mX7_rankedAt 1 7 := ⟨kiX7_rankedAt, GW_of (i := 905) (by decide +kernel) rfl, GW_of (i := 906) (by decide +kernel) rfl, GW_of (i := 907) (by decide +kernel) rfl, TX7, 10, rfl⟩
theorem ca_L_236 : WI RL 236 mL_isHeld 1 := ⟨by decide, GW_of (i := 40) (by decide +kernel) rfl, GW_of (i := 22) (by decide +kernel) rfl, ⟨by decide +kernel, by decide +kernel⟩, GW_of (i := 38) (by decide +kernel) rfl, GW_of (i := 39) (by decide +kernel) rfl, by decide +kernel⟩
theorem ca_L_39 : SI RL 39 mL_isAhead 6 := ⟨kiL_isAhead, GW_of (i := 752) (by decide +kernel) rfl, GW_of (i := 753) (by decide +kernel) rfl⟩
theorem ca_L_9 : SI RL 9 mL_bits 5 := ⟨kiL_bits, GW_of (i := 421) (by decide +kernel) rfl, GW_of (i := 422) (by decide +kernel) rfl⟩
theorem ca_L_15 : SI RL 15 mL_strikes 3 := ⟨kiL_strikes, GW_of (i := 424) (by decide +kernel) rfl, GW_of (i := 425) (by decide +kernel) rfl⟩
theorem hi_L_allez_0_1 : HI mL_allez 1 0 5 1 1 := ⟨[], (0, 4, 5, 113), [], rfl, (fun z hz => nomatch hz), by decide, by decide, cl_L_113, EW_of (i := 179) (by decide +kernel) rfl, rfl, by decide, Or.inl ⟨1, rfl, dL_allez_5, rfl⟩⟩
theorem hi_L_appealed_0_3 : HI mL_appealed 3 0 7 3 1 := ⟨[], (0, 6, 7, 113), [], rfl, (fun z hz => nomatch hz), by decide, by decide, cl_L_113, EW_of (i := 179) (by decide +kernel) rfl, rfl, by decide, Or.inl ⟨3, rfl, dL_appealed_7, rfl⟩⟩
theorem hi_L_begun_2_4 : HI mL_begun 4 2 8 4 2 := ⟨[], (0, 7, 8, 111), [(0, 7, 13, 113)], rfl, (fun z hz => nomatch hz), by decide, by decide, cl_L_111, EW_of (i := 367) (by decide +kernel) rfl, rfl, by decide, Or.inr ⟨dL_begun_8, rfl⟩⟩
theorem hi_L_begun_0_4 : HI mL_begun 4 0 13 4 2 := ⟨[(0, 7, 8, 111)], (0, 7, 13, 113), [], rfl, List.forall_mem_cons.mpr ⟨Or.inr ⟨by decide, exN 2, cl_L_111, by decide⟩, (fun z hz => nomatch hz)⟩, by decide, by decide, cl_L_113, EW_of (i := 179) (by decide +kernel) rfl, rfl, by decide, Or.inr ⟨dL_begun_13, rfl⟩⟩
theorem hi_L_changed_0_3 : HI mL_changed 3 0 7 3 1 := ⟨[], (0, 6, 7, 113), [], rfl, (fun z hz => nomatch hz), by decide, by decide, cl_L_113, EW_of (i := 179) (by decide +kernel) rfl, rfl, by decide, Or.inl ⟨3, rfl, dL_changed_7, rfl⟩⟩
theorem hi_L_drawn_0_1 : HI mL_drawn 1 0 5 1 1 := ⟨[], (0, 4, 5, 113), [], rfl, (fun z hz => nomatch hz), by decide, by decide, cl_L_113, EW_of (i := 179) (by decide +kernel) rfl, rfl, by decide, Or.inl ⟨1, rfl, dL_drawn_5, rfl⟩⟩
theorem hi_L_halted_0_1 : HI mL_halted 1 0 5 1 1 := ⟨[], (0, 4, 5, 113), [], rfl, (fun z hz => nomatch hz), by decide, by decide, cl_L_113, EW_of (i := 179) (by decide +kernel) rfl, rfl, by decide, Or.inl ⟨1, rfl, dL_halted_5, rfl⟩⟩
theorem hi_L_heard_0_10 : HI mL_heard 10 0 37 3 1 := ⟨[], (0, 36, 37, 113), [], rfl, (fun z hz => nomatch hz), by decide, by decide, cl_L_113, EW_of (i := 179) (by decide +kernel) rfl, rfl, by decide, Or.inl ⟨3, rfl, dL_heard_37, rfl⟩⟩
theorem hi_L_heard_0_33 : HI mL_heard 33 0 37 3 1 := ⟨[], (0, 36, 37, 113), [], rfl, (fun z hz => nomatch hz), by decide, by decide, cl_L_113, EW_of (i := 179) (by decide +kernel) rfl, rfl, by decide, Or.inl ⟨3, rfl, dL_heard_37, rfl⟩⟩
theorem hi_L_tested_0_4 : HI mL_tested 4 0 16 4 2 := ⟨[], (0, 15, 16, 113), [], rfl, (fun z hz => nomatch hz), by decide, by decide, cl_L_113, EW_of (i := 179) (by decide +kernel) rfl, rfl, by decide, Or.inr ⟨dL_tested_16, rfl⟩⟩
theorem kc_222 : Cond.constant RL 222 (10000000 : Int32) ∈ GW := GW_of (i := 403) (by decide +kernel) rfl
theorem kc_7 : Cond.constant RL 7 (230003 : Int32) ∈ GW := GW_of (i := 407) (by decide +kernel) rfl
theorem kc_8 : Cond.constant RL 8 (2147483647 : Int32) ∈ GW := GW_of (i := 408) (by decide +kernel) rfl
theorem kc_162 : Cond.constant RL 162 (1000000 : Int32) ∈ GW := GW_of (i := 679) (by decide +kernel) rfl
theorem kl_173 : Cond.constantLong RL 173 (16 : Int64) ∈ GW := GW_of (i := 690) (by decide +kernel) rfl
theorem kl_175 : Cond.constantLong RL 175 (256 : Int64) ∈ GW := GW_of (i := 691) (by decide +kernel) rfl
theorem kl_177 : Cond.constantLong RL 177 (1024 : Int64) ∈ GW := GW_of (i := 692) (by decide +kernel) rfl
theorem kl_179 : Cond.constantLong RL 179 (4096 : Int64) ∈ GW := GW_of (i := 693) (by decide +kernel) rfl
theorem kl_181 : Cond.constantLong RL 181 (16384 : Int64) ∈ GW := GW_of (i := 694) (by decide +kernel) rfl
theorem kl_183 : Cond.constantLong RL 183 (65535 : Int64) ∈ GW := GW_of (i := 695) (by decide +kernel) rfl
theorem kl_185 : Cond.constantLong RL 185 (-1 : Int64) ∈ GW := GW_of (i := 696) (by decide +kernel) rfl
theorem kl_194 : Cond.constantLong RL 194 (3 : Int64) ∈ GW := GW_of (i := 730) (by decide +kernel) rfl
