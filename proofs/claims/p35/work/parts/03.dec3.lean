theorem dL_bits_26 : decode cL_bits 26 = .ok (.ireturn, 1) := by decide +kernel
theorem dL_judge_0 : decode cL_judge 0 = .ok (.iconst (-1), 1) := by decide +kernel
theorem dL_judge_1 : decode cL_judge 1 = .ok (.istore 4, 2) := by decide +kernel
theorem dL_judge_3 : decode cL_judge 3 = .ok (.iconst (-1), 1) := by decide +kernel
theorem dL_judge_4 : decode cL_judge 4 = .ok (.istore 5, 2) := by decide +kernel
theorem dL_judge_6 : decode cL_judge 6 = .ok (.iconst (-1), 1) := by decide +kernel
theorem dL_judge_7 : decode cL_judge 7 = .ok (.istore 6, 2) := by decide +kernel
theorem dL_judge_9 : decode cL_judge 9 = .ok (.iconst 0, 1) := by decide +kernel
theorem dL_judge_10 : decode cL_judge 10 = .ok (.istore 7, 2) := by decide +kernel
theorem dL_judge_12 : decode cL_judge 12 = .ok (.iconst 0, 1) := by decide +kernel
theorem dL_judge_13 : decode cL_judge 13 = .ok (.istore 8, 2) := by decide +kernel
theorem dL_judge_15 : decode cL_judge 15 = .ok (.iconst 0, 1) := by decide +kernel
theorem dL_judge_16 : decode cL_judge 16 = .ok (.istore 9, 2) := by decide +kernel
theorem dL_judge_18 : decode cL_judge 18 = .ok (.iload 9, 2) := by decide +kernel
theorem dL_judge_20 : decode cL_judge 20 = .ok (.aload_n 2, 1) := by decide +kernel
theorem dL_judge_21 : decode cL_judge 21 = .ok (.iconst 5, 1) := by decide +kernel
theorem dL_judge_22 : decode cL_judge 22 = .ok (.iaload, 1) := by decide +kernel
theorem dL_judge_23 : decode cL_judge 23 = .ok (.if_icmp .ge 156, 3) := by decide +kernel
theorem dL_judge_26 : decode cL_judge 26 = .ok (.aload_n 0, 1) := by decide +kernel
theorem dL_judge_27 : decode cL_judge 27 = .ok (.iload 9, 2) := by decide +kernel
theorem dL_judge_29 : decode cL_judge 29 = .ok (.iaload, 1) := by decide +kernel
theorem dL_judge_30 : decode cL_judge 30 = .ok (.iconst 2, 1) := by decide +kernel
theorem dL_judge_31 : decode cL_judge 31 = .ok (.idiv, 1) := by decide +kernel
theorem dL_judge_32 : decode cL_judge 32 = .ok (.istore 10, 2) := by decide +kernel
theorem dL_judge_34 : decode cL_judge 34 = .ok (.aload_n 0, 1) := by decide +kernel
theorem dL_judge_35 : decode cL_judge 35 = .ok (.iload 9, 2) := by decide +kernel
theorem dL_judge_37 : decode cL_judge 37 = .ok (.iaload, 1) := by decide +kernel
theorem dL_judge_38 : decode cL_judge 38 = .ok (.iconst 3, 1) := by decide +kernel
theorem dL_judge_39 : decode cL_judge 39 = .ok (.if_icmp .le 14, 3) := by decide +kernel
theorem dL_judge_42 : decode cL_judge 42 = .ok (.aload_n 0, 1) := by decide +kernel
theorem dL_judge_43 : decode cL_judge 43 = .ok (.iload 9, 2) := by decide +kernel
theorem dL_judge_45 : decode cL_judge 45 = .ok (.iaload, 1) := by decide +kernel
theorem dL_judge_46 : decode cL_judge 46 = .ok (.iconst 5, 1) := by decide +kernel
theorem dL_judge_47 : decode cL_judge 47 = .ok (.isub, 1) := by decide +kernel
theorem dL_judge_48 : decode cL_judge 48 = .ok (.istore 6, 2) := by decide +kernel
theorem dL_judge_50 : decode cL_judge 50 = .ok (.goto 123, 3) := by decide +kernel
theorem dL_judge_53 : decode cL_judge 53 = .ok (.aload_n 2, 1) := by decide +kernel
theorem dL_judge_54 : decode cL_judge 54 = .ok (.bipush 9, 2) := by decide +kernel
theorem dL_judge_56 : decode cL_judge 56 = .ok (.iaload, 1) := by decide +kernel
theorem dL_judge_57 : decode cL_judge 57 = .ok (.ifCond .ne 13, 3) := by decide +kernel
theorem dL_judge_60 : decode cL_judge 60 = .ok (.aload_n 0, 1) := by decide +kernel
theorem dL_judge_61 : decode cL_judge 61 = .ok (.iload 9, 2) := by decide +kernel
theorem dL_judge_63 : decode cL_judge 63 = .ok (.iaload, 1) := by decide +kernel
theorem dL_judge_64 : decode cL_judge 64 = .ok (.iconst 2, 1) := by decide +kernel
theorem dL_judge_65 : decode cL_judge 65 = .ok (.irem, 1) := by decide +kernel
theorem dL_judge_66 : decode cL_judge 66 = .ok (.iconst 1, 1) := by decide +kernel
theorem dL_judge_67 : decode cL_judge 67 = .ok (.if_icmp .ne 106, 3) := by decide +kernel
theorem dL_judge_70 : decode cL_judge 70 = .ok (.iload 7, 2) := by decide +kernel
theorem dL_judge_72 : decode cL_judge 72 = .ok (.iload 10, 2) := by decide +kernel
theorem dL_judge_74 : decode cL_judge 74 = .ok (.ishr, 1) := by decide +kernel
theorem dL_judge_75 : decode cL_judge 75 = .ok (.iconst 1, 1) := by decide +kernel
theorem dL_judge_76 : decode cL_judge 76 = .ok (.iand, 1) := by decide +kernel
theorem dL_judge_77 : decode cL_judge 77 = .ok (.ifCond .ne 96, 3) := by decide +kernel
theorem dL_judge_80 : decode cL_judge 80 = .ok (.iload 7, 2) := by decide +kernel
theorem dL_judge_82 : decode cL_judge 82 = .ok (.ifCond .ne 13, 3) := by decide +kernel
theorem dL_judge_85 : decode cL_judge 85 = .ok (.aload_n 1, 1) := by decide +kernel
theorem dL_judge_86 : decode cL_judge 86 = .ok (.iload 9, 2) := by decide +kernel
theorem dL_judge_88 : decode cL_judge 88 = .ok (.iaload, 1) := by decide +kernel
theorem dL_judge_89 : decode cL_judge 89 = .ok (.istore 5, 2) := by decide +kernel
theorem dL_judge_91 : decode cL_judge 91 = .ok (.iload 6, 2) := by decide +kernel
theorem dL_judge_93 : decode cL_judge 93 = .ok (.istore 4, 2) := by decide +kernel
theorem dL_judge_95 : decode cL_judge 95 = .ok (.aload_n 1, 1) := by decide +kernel
theorem dL_judge_96 : decode cL_judge 96 = .ok (.iload 9, 2) := by decide +kernel
theorem dL_judge_98 : decode cL_judge 98 = .ok (.iaload, 1) := by decide +kernel
theorem dL_judge_99 : decode cL_judge 99 = .ok (.iload 5, 2) := by decide +kernel
theorem dL_judge_101 : decode cL_judge 101 = .ok (.isub, 1) := by decide +kernel
theorem dL_judge_102 : decode cL_judge 102 = .ok (.aload_n 2, 1) := by decide +kernel
theorem dL_judge_103 : decode cL_judge 103 = .ok (.bipush 9, 2) := by decide +kernel
theorem dL_judge_105 : decode cL_judge 105 = .ok (.iaload, 1) := by decide +kernel
theorem dL_judge_106 : decode cL_judge 106 = .ok (.ifCond .ne 8, 3) := by decide +kernel
theorem dL_judge_109 : decode cL_judge 109 = .ok (.bipush 40, 2) := by decide +kernel
theorem dL_judge_111 : decode cL_judge 111 = .ok (.goto 6, 3) := by decide +kernel
theorem dL_judge_114 : decode cL_judge 114 = .ok (.sipush 300, 3) := by decide +kernel
theorem dL_judge_117 : decode cL_judge 117 = .ok (.if_icmp .gt 7, 3) := by decide +kernel
theorem dL_judge_120 : decode cL_judge 120 = .ok (.iconst 1, 1) := by decide +kernel
theorem dL_judge_121 : decode cL_judge 121 = .ok (.goto 4, 3) := by decide +kernel
theorem dL_judge_124 : decode cL_judge 124 = .ok (.iconst 0, 1) := by decide +kernel
theorem dL_judge_125 : decode cL_judge 125 = .ok (.istore 11, 2) := by decide +kernel
theorem dL_judge_127 : decode cL_judge 127 = .ok (.iload 7, 2) := by decide +kernel
theorem dL_judge_129 : decode cL_judge 129 = .ok (.iload 11, 2) := by decide +kernel
theorem dL_judge_131 : decode cL_judge 131 = .ok (.ifCond .eq 10, 3) := by decide +kernel
theorem dL_judge_134 : decode cL_judge 134 = .ok (.iconst 1, 1) := by decide +kernel
theorem dL_judge_135 : decode cL_judge 135 = .ok (.iload 10, 2) := by decide +kernel
theorem dL_judge_137 : decode cL_judge 137 = .ok (.ishl, 1) := by decide +kernel
theorem dL_judge_138 : decode cL_judge 138 = .ok (.goto 4, 3) := by decide +kernel
theorem dL_judge_141 : decode cL_judge 141 = .ok (.iconst 0, 1) := by decide +kernel
theorem dL_judge_142 : decode cL_judge 142 = .ok (.ior, 1) := by decide +kernel
theorem dL_judge_143 : decode cL_judge 143 = .ok (.istore 7, 2) := by decide +kernel
theorem dL_judge_145 : decode cL_judge 145 = .ok (.iload 8, 2) := by decide +kernel
theorem dL_judge_147 : decode cL_judge 147 = .ok (.iload 11, 2) := by decide +kernel
theorem dL_judge_149 : decode cL_judge 149 = .ok (.ifCond .eq 20, 3) := by decide +kernel
theorem dL_judge_152 : decode cL_judge 152 = .ok (.aload_n 0, 1) := by decide +kernel
theorem dL_judge_153 : decode cL_judge 153 = .ok (.iload 9, 2) := by decide +kernel
theorem dL_judge_155 : decode cL_judge 155 = .ok (.iaload, 1) := by decide +kernel
theorem dL_judge_156 : decode cL_judge 156 = .ok (.iconst 2, 1) := by decide +kernel
theorem dL_judge_157 : decode cL_judge 157 = .ok (.irem, 1) := by decide +kernel
theorem dL_judge_158 : decode cL_judge 158 = .ok (.iconst 1, 1) := by decide +kernel
theorem dL_judge_159 : decode cL_judge 159 = .ok (.if_icmp .ne 10, 3) := by decide +kernel
theorem dL_judge_162 : decode cL_judge 162 = .ok (.iconst 1, 1) := by decide +kernel
theorem dL_judge_163 : decode cL_judge 163 = .ok (.iload 10, 2) := by decide +kernel
theorem dL_judge_165 : decode cL_judge 165 = .ok (.ishl, 1) := by decide +kernel
theorem dL_judge_166 : decode cL_judge 166 = .ok (.goto 4, 3) := by decide +kernel
theorem dL_judge_169 : decode cL_judge 169 = .ok (.iconst 0, 1) := by decide +kernel
theorem dL_judge_170 : decode cL_judge 170 = .ok (.ior, 1) := by decide +kernel
theorem dL_judge_171 : decode cL_judge 171 = .ok (.istore 8, 2) := by decide +kernel
theorem dL_judge_173 : decode cL_judge 173 = .ok (.iinc 9 1, 3) := by decide +kernel
theorem dL_judge_176 : decode cL_judge 176 = .ok (.goto (-158), 3) := by decide +kernel
theorem dL_judge_179 : decode cL_judge 179 = .ok (.iload_n 3, 1) := by decide +kernel
theorem dL_judge_180 : decode cL_judge 180 = .ok (.bipush (-2), 2) := by decide +kernel
theorem dL_judge_182 : decode cL_judge 182 = .ok (.if_icmp .ne 8, 3) := by decide +kernel
theorem dL_judge_185 : decode cL_judge 185 = .ok (.iload 4, 2) := by decide +kernel
theorem dL_judge_187 : decode cL_judge 187 = .ok (.goto 4, 3) := by decide +kernel
theorem dL_judge_190 : decode cL_judge 190 = .ok (.iload_n 3, 1) := by decide +kernel
theorem dL_judge_191 : decode cL_judge 191 = .ok (.istore 9, 2) := by decide +kernel
theorem dL_judge_193 : decode cL_judge 193 = .ok (.aload_n 2, 1) := by decide +kernel
theorem dL_judge_194 : decode cL_judge 194 = .ok (.bipush 9, 2) := by decide +kernel
theorem dL_judge_196 : decode cL_judge 196 = .ok (.iaload, 1) := by decide +kernel
theorem dL_judge_197 : decode cL_judge 197 = .ok (.ifCond .eq 9, 3) := by decide +kernel
theorem dL_judge_200 : decode cL_judge 200 = .ok (.iload 7, 2) := by decide +kernel
theorem dL_judge_202 : decode cL_judge 202 = .ok (.iconst 3, 1) := by decide +kernel
theorem dL_judge_203 : decode cL_judge 203 = .ok (.if_icmp .eq 8, 3) := by decide +kernel
theorem dL_judge_206 : decode cL_judge 206 = .ok (.iload 8, 2) := by decide +kernel
theorem dL_judge_208 : decode cL_judge 208 = .ok (.goto 19, 3) := by decide +kernel
theorem dL_judge_211 : decode cL_judge 211 = .ok (.iload 9, 2) := by decide +kernel
theorem dL_judge_213 : decode cL_judge 213 = .ok (.ifCond .ge 7, 3) := by decide +kernel
theorem dL_judge_216 : decode cL_judge 216 = .ok (.iconst 0, 1) := by decide +kernel
theorem dL_judge_217 : decode cL_judge 217 = .ok (.goto 10, 3) := by decide +kernel
theorem dL_judge_220 : decode cL_judge 220 = .ok (.iload 8, 2) := by decide +kernel
theorem dL_judge_222 : decode cL_judge 222 = .ok (.iconst 1, 1) := by decide +kernel
theorem dL_judge_223 : decode cL_judge 223 = .ok (.iload 9, 2) := by decide +kernel
theorem dL_judge_225 : decode cL_judge 225 = .ok (.ishl, 1) := by decide +kernel
theorem dL_judge_226 : decode cL_judge 226 = .ok (.iand, 1) := by decide +kernel
theorem dL_judge_227 : decode cL_judge 227 = .ok (.ireturn, 1) := by decide +kernel
theorem dL_strikes_0 : decode cL_strikes 0 = .ok (.aload_n 0, 1) := by decide +kernel
theorem dL_strikes_1 : decode cL_strikes 1 = .ok (.iconst 2, 1) := by decide +kernel
theorem dL_strikes_2 : decode cL_strikes 2 = .ok (.iload_n 1, 1) := by decide +kernel
theorem dL_strikes_3 : decode cL_strikes 3 = .ok (.imul, 1) := by decide +kernel
theorem dL_strikes_4 : decode cL_strikes 4 = .ok (.iconst 1, 1) := by decide +kernel
theorem dL_strikes_5 : decode cL_strikes 5 = .ok (.iadd, 1) := by decide +kernel
theorem dL_strikes_6 : decode cL_strikes 6 = .ok (.iaload, 1) := by decide +kernel
theorem dL_strikes_7 : decode cL_strikes 7 = .ok (.iconst 3, 1) := by decide +kernel
theorem dL_strikes_8 : decode cL_strikes 8 = .ok (.if_icmp .eq 18, 3) := by decide +kernel
theorem dL_strikes_11 : decode cL_strikes 11 = .ok (.iload_n 2, 1) := by decide +kernel
theorem dL_strikes_12 : decode cL_strikes 12 = .ok (.ifCond .ne 18, 3) := by decide +kernel
theorem dL_strikes_15 : decode cL_strikes 15 = .ok (.aload_n 0, 1) := by decide +kernel
theorem dL_strikes_16 : decode cL_strikes 16 = .ok (.iconst 2, 1) := by decide +kernel
theorem dL_strikes_17 : decode cL_strikes 17 = .ok (.iload_n 1, 1) := by decide +kernel
theorem dL_strikes_18 : decode cL_strikes 18 = .ok (.imul, 1) := by decide +kernel
theorem dL_strikes_19 : decode cL_strikes 19 = .ok (.iconst 1, 1) := by decide +kernel
theorem dL_strikes_20 : decode cL_strikes 20 = .ok (.iadd, 1) := by decide +kernel
theorem dL_strikes_21 : decode cL_strikes 21 = .ok (.iaload, 1) := by decide +kernel
theorem dL_strikes_22 : decode cL_strikes 22 = .ok (.iconst 2, 1) := by decide +kernel
theorem dL_strikes_23 : decode cL_strikes 23 = .ok (.if_icmp .ne 7, 3) := by decide +kernel
theorem dL_strikes_26 : decode cL_strikes 26 = .ok (.iconst 1, 1) := by decide +kernel
theorem dL_strikes_27 : decode cL_strikes 27 = .ok (.goto 4, 3) := by decide +kernel
theorem dL_strikes_30 : decode cL_strikes 30 = .ok (.iconst 0, 1) := by decide +kernel
theorem dL_strikes_31 : decode cL_strikes 31 = .ok (.ireturn, 1) := by decide +kernel
theorem dL_touches_0 : decode cL_touches 0 = .ok (.aload_n 1, 1) := by decide +kernel
theorem dL_touches_1 : decode cL_touches 1 = .ok (.iload_n 2, 1) := by decide +kernel
theorem dL_touches_2 : decode cL_touches 2 = .ok (.iload_n 3, 1) := by decide +kernel
theorem dL_touches_3 : decode cL_touches 3 = .ok (.bipush 8, 2) := by decide +kernel
theorem dL_touches_5 : decode cL_touches 5 = .ok (.iconst 2, 1) := by decide +kernel
theorem dL_touches_6 : decode cL_touches 6 = .ok (.aload_n 1, 1) := by decide +kernel
theorem dL_touches_7 : decode cL_touches 7 = .ok (.iload_n 2, 1) := by decide +kernel
theorem dL_touches_8 : decode cL_touches 8 = .ok (.iload_n 3, 1) := by decide +kernel
theorem dL_touches_9 : decode cL_touches 9 = .ok (.bipush 14, 2) := by decide +kernel
theorem dL_touches_11 : decode cL_touches 11 = .ok (.iconst 2, 1) := by decide +kernel
theorem dL_touches_12 : decode cL_touches 12 = .ok (.invokestatic 9, 3) := by decide +kernel
theorem dL_touches_15 : decode cL_touches 15 = .ok (.imul, 1) := by decide +kernel
theorem dL_touches_16 : decode cL_touches 16 = .ok (.iadd, 1) := by decide +kernel
theorem dL_touches_17 : decode cL_touches 17 = .ok (.iconst 2, 1) := by decide +kernel
theorem dL_touches_18 : decode cL_touches 18 = .ok (.invokestatic 9, 3) := by decide +kernel
theorem dL_touches_21 : decode cL_touches 21 = .ok (.istore 4, 2) := by decide +kernel
theorem dL_touches_23 : decode cL_touches 23 = .ok (.aload_n 0, 1) := by decide +kernel
theorem dL_touches_24 : decode cL_touches 24 = .ok (.aload_n 1, 1) := by decide +kernel
theorem dL_touches_25 : decode cL_touches 25 = .ok (.iload_n 2, 1) := by decide +kernel
theorem dL_touches_26 : decode cL_touches 26 = .ok (.iload_n 3, 1) := by decide +kernel
theorem dL_touches_27 : decode cL_touches 27 = .ok (.iconst 0, 1) := by decide +kernel
theorem dL_touches_28 : decode cL_touches 28 = .ok (.iconst 4, 1) := by decide +kernel
theorem dL_touches_29 : decode cL_touches 29 = .ok (.invokestatic 9, 3) := by decide +kernel
theorem dL_touches_32 : decode cL_touches 32 = .ok (.iload_n 2, 1) := by decide +kernel
theorem dL_touches_33 : decode cL_touches 33 = .ok (.bipush 6, 2) := by decide +kernel
theorem dL_touches_35 : decode cL_touches 35 = .ok (.if_icmp .ge 7, 3) := by decide +kernel
theorem dL_touches_38 : decode cL_touches 38 = .ok (.iconst 1, 1) := by decide +kernel
theorem dL_touches_39 : decode cL_touches 39 = .ok (.goto 4, 3) := by decide +kernel
theorem dL_touches_42 : decode cL_touches 42 = .ok (.iconst 0, 1) := by decide +kernel
theorem dL_touches_43 : decode cL_touches 43 = .ok (.invokestatic 15, 3) := by decide +kernel
theorem dL_touches_46 : decode cL_touches 46 = .ok (.ifCond .eq 10, 3) := by decide +kernel
theorem dL_touches_49 : decode cL_touches 49 = .ok (.iload 4, 2) := by decide +kernel
theorem dL_touches_51 : decode cL_touches 51 = .ok (.iconst 2, 1) := by decide +kernel
theorem dL_touches_52 : decode cL_touches 52 = .ok (.iand, 1) := by decide +kernel
theorem dL_touches_53 : decode cL_touches 53 = .ok (.goto 5, 3) := by decide +kernel
theorem dL_touches_56 : decode cL_touches 56 = .ok (.iload 4, 2) := by decide +kernel
theorem dL_touches_58 : decode cL_touches 58 = .ok (.istore 4, 2) := by decide +kernel
theorem dL_touches_60 : decode cL_touches 60 = .ok (.aload_n 0, 1) := by decide +kernel
theorem dL_touches_61 : decode cL_touches 61 = .ok (.aload_n 1, 1) := by decide +kernel
theorem dL_touches_62 : decode cL_touches 62 = .ok (.iload_n 2, 1) := by decide +kernel
theorem dL_touches_63 : decode cL_touches 63 = .ok (.iload_n 3, 1) := by decide +kernel
theorem dL_touches_64 : decode cL_touches 64 = .ok (.iconst 4, 1) := by decide +kernel
theorem dL_touches_65 : decode cL_touches 65 = .ok (.iconst 4, 1) := by decide +kernel
theorem dL_touches_66 : decode cL_touches 66 = .ok (.invokestatic 9, 3) := by decide +kernel
theorem dL_touches_69 : decode cL_touches 69 = .ok (.iload_n 2, 1) := by decide +kernel
theorem dL_touches_70 : decode cL_touches 70 = .ok (.bipush 6, 2) := by decide +kernel
theorem dL_touches_72 : decode cL_touches 72 = .ok (.if_icmp .ge 7, 3) := by decide +kernel
theorem dL_touches_75 : decode cL_touches 75 = .ok (.iconst 1, 1) := by decide +kernel
theorem dL_touches_76 : decode cL_touches 76 = .ok (.goto 4, 3) := by decide +kernel
theorem dL_touches_79 : decode cL_touches 79 = .ok (.iconst 0, 1) := by decide +kernel
theorem dL_touches_80 : decode cL_touches 80 = .ok (.invokestatic 15, 3) := by decide +kernel
theorem dL_touches_83 : decode cL_touches 83 = .ok (.ifCond .eq 10, 3) := by decide +kernel
theorem dL_touches_86 : decode cL_touches 86 = .ok (.iload 4, 2) := by decide +kernel
theorem dL_touches_88 : decode cL_touches 88 = .ok (.iconst 1, 1) := by decide +kernel
theorem dL_touches_89 : decode cL_touches 89 = .ok (.iand, 1) := by decide +kernel
theorem dL_touches_90 : decode cL_touches 90 = .ok (.goto 5, 3) := by decide +kernel
theorem dL_touches_93 : decode cL_touches 93 = .ok (.iload 4, 2) := by decide +kernel
theorem dL_touches_95 : decode cL_touches 95 = .ok (.ireturn, 1) := by decide +kernel
theorem dL_told_0 : decode cL_told 0 = .ok (.iload_n 3, 1) := by decide +kernel
theorem dL_told_1 : decode cL_told 1 = .ok (.bipush 6, 2) := by decide +kernel
theorem dL_told_3 : decode cL_told 3 = .ok (.if_icmp .ge 7, 3) := by decide +kernel
theorem dL_told_6 : decode cL_told 6 = .ok (.iconst 3, 1) := by decide +kernel
theorem dL_told_7 : decode cL_told 7 = .ok (.goto 4, 3) := by decide +kernel
theorem dL_told_10 : decode cL_told 10 = .ok (.iconst 5, 1) := by decide +kernel
theorem dL_told_11 : decode cL_told 11 = .ok (.istore 4, 2) := by decide +kernel
theorem dL_told_13 : decode cL_told 13 = .ok (.iconst 0, 1) := by decide +kernel
theorem dL_told_14 : decode cL_told 14 = .ok (.istore 5, 2) := by decide +kernel
theorem dL_told_16 : decode cL_told 16 = .ok (.iconst 0, 1) := by decide +kernel
theorem dL_told_17 : decode cL_told 17 = .ok (.istore 6, 2) := by decide +kernel
theorem dL_told_19 : decode cL_told 19 = .ok (.iconst 0, 1) := by decide +kernel
theorem dL_told_20 : decode cL_told 20 = .ok (.istore 7, 2) := by decide +kernel
theorem dL_told_22 : decode cL_told 22 = .ok (.iload 7, 2) := by decide +kernel
theorem dL_told_24 : decode cL_told 24 = .ok (.aload_n 2, 1) := by decide +kernel
theorem dL_told_25 : decode cL_told 25 = .ok (.iload_n 3, 1) := by decide +kernel
theorem dL_told_26 : decode cL_told 26 = .ok (.iaload, 1) := by decide +kernel
theorem dL_told_27 : decode cL_told 27 = .ok (.if_icmp .ge 100, 3) := by decide +kernel
theorem dL_told_30 : decode cL_told 30 = .ok (.iload 5, 2) := by decide +kernel
theorem dL_told_32 : decode cL_told 32 = .ok (.iload 4, 2) := by decide +kernel
theorem dL_told_34 : decode cL_told 34 = .ok (.if_icmp .ge 93, 3) := by decide +kernel
theorem dL_told_37 : decode cL_told 37 = .ok (.iload 6, 2) := by decide +kernel
theorem dL_told_39 : decode cL_told 39 = .ok (.iload 4, 2) := by decide +kernel
theorem dL_told_41 : decode cL_told 41 = .ok (.if_icmp .ge 86, 3) := by decide +kernel
theorem dL_told_44 : decode cL_told 44 = .ok (.aload_n 0, 1) := by decide +kernel
theorem dL_told_45 : decode cL_told 45 = .ok (.aload_n 1, 1) := by decide +kernel
theorem dL_told_46 : decode cL_told 46 = .ok (.iload_n 3, 1) := by decide +kernel
theorem dL_told_47 : decode cL_told 47 = .ok (.iload 7, 2) := by decide +kernel
theorem dL_told_49 : decode cL_told 49 = .ok (.invokestatic 19, 3) := by decide +kernel
theorem dL_told_52 : decode cL_told 52 = .ok (.istore 8, 2) := by decide +kernel
theorem dL_told_54 : decode cL_told 54 = .ok (.iload 8, 2) := by decide +kernel
theorem dL_told_56 : decode cL_told 56 = .ok (.iconst 3, 1) := by decide +kernel
theorem dL_told_57 : decode cL_told 57 = .ok (.if_icmp .ne 25, 3) := by decide +kernel
theorem dL_told_60 : decode cL_told 60 = .ok (.iload 5, 2) := by decide +kernel
theorem dL_told_62 : decode cL_told 62 = .ok (.iload 4, 2) := by decide +kernel
theorem dL_told_64 : decode cL_told 64 = .ok (.iconst 1, 1) := by decide +kernel
theorem dL_told_65 : decode cL_told 65 = .ok (.isub, 1) := by decide +kernel
theorem dL_told_66 : decode cL_told 66 = .ok (.if_icmp .ne 16, 3) := by decide +kernel
theorem dL_told_69 : decode cL_told 69 = .ok (.iload 6, 2) := by decide +kernel
theorem dL_told_71 : decode cL_told 71 = .ok (.iload 4, 2) := by decide +kernel
theorem dL_told_73 : decode cL_told 73 = .ok (.iconst 1, 1) := by decide +kernel
theorem dL_told_74 : decode cL_told 74 = .ok (.isub, 1) := by decide +kernel
theorem dL_told_75 : decode cL_told 75 = .ok (.if_icmp .ne 7, 3) := by decide +kernel
theorem dL_told_78 : decode cL_told 78 = .ok (.iconst 1, 1) := by decide +kernel
theorem dL_told_79 : decode cL_told 79 = .ok (.goto 4, 3) := by decide +kernel
theorem dL_told_82 : decode cL_told 82 = .ok (.iconst 0, 1) := by decide +kernel
theorem dL_told_83 : decode cL_told 83 = .ok (.istore 9, 2) := by decide +kernel
theorem dL_told_85 : decode cL_told 85 = .ok (.iload 5, 2) := by decide +kernel
theorem dL_told_87 : decode cL_told 87 = .ok (.iload 9, 2) := by decide +kernel
theorem dL_told_89 : decode cL_told 89 = .ok (.ifCond .eq 7, 3) := by decide +kernel
theorem dL_told_92 : decode cL_told 92 = .ok (.iconst 0, 1) := by decide +kernel
theorem dL_told_93 : decode cL_told 93 = .ok (.goto 7, 3) := by decide +kernel
theorem dL_told_96 : decode cL_told 96 = .ok (.iload 8, 2) := by decide +kernel
theorem dL_told_98 : decode cL_told 98 = .ok (.iconst 2, 1) := by decide +kernel
theorem dL_told_99 : decode cL_told 99 = .ok (.irem, 1) := by decide +kernel
theorem dL_told_100 : decode cL_told 100 = .ok (.iadd, 1) := by decide +kernel
theorem dL_told_101 : decode cL_told 101 = .ok (.istore 5, 2) := by decide +kernel
theorem dL_told_103 : decode cL_told 103 = .ok (.iload 6, 2) := by decide +kernel
theorem dL_told_105 : decode cL_told 105 = .ok (.iload 9, 2) := by decide +kernel
theorem dL_told_107 : decode cL_told 107 = .ok (.ifCond .eq 7, 3) := by decide +kernel
theorem dL_told_110 : decode cL_told 110 = .ok (.iconst 0, 1) := by decide +kernel
theorem dL_told_111 : decode cL_told 111 = .ok (.goto 7, 3) := by decide +kernel
theorem dL_told_114 : decode cL_told 114 = .ok (.iload 8, 2) := by decide +kernel
theorem dL_told_116 : decode cL_told 116 = .ok (.iconst 2, 1) := by decide +kernel
theorem dL_told_117 : decode cL_told 117 = .ok (.idiv, 1) := by decide +kernel
theorem dL_told_118 : decode cL_told 118 = .ok (.iadd, 1) := by decide +kernel
theorem dL_told_119 : decode cL_told 119 = .ok (.istore 6, 2) := by decide +kernel
theorem dL_told_121 : decode cL_told 121 = .ok (.iinc 7 1, 3) := by decide +kernel
theorem dL_told_124 : decode cL_told 124 = .ok (.goto (-102), 3) := by decide +kernel
theorem dL_told_127 : decode cL_told 127 = .ok (.iload 5, 2) := by decide +kernel
theorem dL_told_129 : decode cL_told 129 = .ok (.iload 4, 2) := by decide +kernel
theorem dL_told_131 : decode cL_told 131 = .ok (.if_icmp .ne 7, 3) := by decide +kernel
theorem dL_told_134 : decode cL_told 134 = .ok (.iconst 1, 1) := by decide +kernel
theorem dL_told_135 : decode cL_told 135 = .ok (.goto 38, 3) := by decide +kernel
theorem dL_told_138 : decode cL_told 138 = .ok (.iload 6, 2) := by decide +kernel
theorem dL_told_140 : decode cL_told 140 = .ok (.iload 4, 2) := by decide +kernel
theorem dL_told_142 : decode cL_told 142 = .ok (.if_icmp .ne 7, 3) := by decide +kernel
theorem dL_told_145 : decode cL_told 145 = .ok (.iconst 2, 1) := by decide +kernel
theorem dL_told_146 : decode cL_told 146 = .ok (.goto 27, 3) := by decide +kernel
theorem dL_told_149 : decode cL_told 149 = .ok (.aload_n 2, 1) := by decide +kernel
theorem dL_told_150 : decode cL_told 150 = .ok (.iload_n 3, 1) := by decide +kernel
theorem dL_told_151 : decode cL_told 151 = .ok (.iaload, 1) := by decide +kernel
theorem dL_told_152 : decode cL_told 152 = .ok (.bipush 12, 2) := by decide +kernel
theorem dL_told_154 : decode cL_told 154 = .ok (.if_icmp .ge 7, 3) := by decide +kernel
theorem dL_told_157 : decode cL_told 157 = .ok (.iconst 0, 1) := by decide +kernel
theorem dL_told_158 : decode cL_told 158 = .ok (.goto 15, 3) := by decide +kernel
theorem dL_told_161 : decode cL_told 161 = .ok (.iload 6, 2) := by decide +kernel
theorem dL_told_163 : decode cL_told 163 = .ok (.iload 5, 2) := by decide +kernel
theorem dL_told_165 : decode cL_told 165 = .ok (.if_icmp .le 7, 3) := by decide +kernel
theorem dL_told_168 : decode cL_told 168 = .ok (.iconst 2, 1) := by decide +kernel
theorem dL_told_169 : decode cL_told 169 = .ok (.goto 4, 3) := by decide +kernel
theorem dL_told_172 : decode cL_told 172 = .ok (.iconst 1, 1) := by decide +kernel
theorem dL_told_173 : decode cL_told 173 = .ok (.istore 7, 2) := by decide +kernel
theorem dL_told_175 : decode cL_told 175 = .ok (.bipush 100, 2) := by decide +kernel
theorem dL_told_177 : decode cL_told 177 = .ok (.iload 7, 2) := by decide +kernel
theorem dL_told_179 : decode cL_told 179 = .ok (.imul, 1) := by decide +kernel
theorem dL_told_180 : decode cL_told 180 = .ok (.bipush 10, 2) := by decide +kernel
theorem dL_told_182 : decode cL_told 182 = .ok (.iload 5, 2) := by decide +kernel
theorem dL_told_184 : decode cL_told 184 = .ok (.imul, 1) := by decide +kernel
theorem dL_told_185 : decode cL_told 185 = .ok (.iadd, 1) := by decide +kernel
theorem dL_told_186 : decode cL_told 186 = .ok (.iload 6, 2) := by decide +kernel
theorem dL_told_188 : decode cL_told 188 = .ok (.iadd, 1) := by decide +kernel
theorem dL_told_189 : decode cL_told 189 = .ok (.ireturn, 1) := by decide +kernel
theorem dL_fencer_0 : decode cL_fencer 0 = .ok (.iload_n 1, 1) := by decide +kernel
theorem dL_fencer_1 : decode cL_fencer 1 = .ok (.iconst 5, 1) := by decide +kernel
theorem dL_fencer_2 : decode cL_fencer 2 = .ok (.if_icmp .le 13, 3) := by decide +kernel
theorem dL_fencer_5 : decode cL_fencer 5 = .ok (.aload_n 0, 1) := by decide +kernel
theorem dL_fencer_6 : decode cL_fencer 6 = .ok (.iconst 2, 1) := by decide +kernel
theorem dL_fencer_7 : decode cL_fencer 7 = .ok (.iload_n 1, 1) := by decide +kernel
theorem dL_fencer_8 : decode cL_fencer 8 = .ok (.iconst 5, 1) := by decide +kernel
theorem dL_fencer_9 : decode cL_fencer 9 = .ok (.isub, 1) := by decide +kernel
theorem dL_fencer_10 : decode cL_fencer 10 = .ok (.imul, 1) := by decide +kernel
theorem dL_fencer_11 : decode cL_fencer 11 = .ok (.iload_n 2, 1) := by decide +kernel
theorem dL_fencer_12 : decode cL_fencer 12 = .ok (.iadd, 1) := by decide +kernel
theorem dL_fencer_13 : decode cL_fencer 13 = .ok (.iaload, 1) := by decide +kernel
theorem dL_fencer_14 : decode cL_fencer 14 = .ok (.ireturn, 1) := by decide +kernel
theorem dL_fencer_15 : decode cL_fencer 15 = .ok (.iload_n 2, 1) := by decide +kernel
theorem dL_fencer_16 : decode cL_fencer 16 = .ok (.ifCond .ne 25, 3) := by decide +kernel
theorem dL_fencer_19 : decode cL_fencer 19 = .ok (.iload_n 1, 1) := by decide +kernel
theorem dL_fencer_20 : decode cL_fencer 20 = .ok (.iconst 3, 1) := by decide +kernel
theorem dL_fencer_21 : decode cL_fencer 21 = .ok (.if_icmp .ge 7, 3) := by decide +kernel
theorem dL_fencer_24 : decode cL_fencer 24 = .ok (.iconst 0, 1) := by decide +kernel
theorem dL_fencer_25 : decode cL_fencer 25 = .ok (.goto 39, 3) := by decide +kernel
theorem dL_fencer_28 : decode cL_fencer 28 = .ok (.iload_n 1, 1) := by decide +kernel
theorem dL_fencer_29 : decode cL_fencer 29 = .ok (.iconst 5, 1) := by decide +kernel
theorem dL_fencer_30 : decode cL_fencer 30 = .ok (.if_icmp .ge 7, 3) := by decide +kernel
theorem dL_fencer_33 : decode cL_fencer 33 = .ok (.iconst 1, 1) := by decide +kernel
theorem dL_fencer_34 : decode cL_fencer 34 = .ok (.goto 30, 3) := by decide +kernel
theorem dL_fencer_37 : decode cL_fencer 37 = .ok (.iconst 2, 1) := by decide +kernel
theorem dL_fencer_38 : decode cL_fencer 38 = .ok (.goto 26, 3) := by decide +kernel
theorem dL_fencer_41 : decode cL_fencer 41 = .ok (.iload_n 1, 1) := by decide +kernel
theorem dL_fencer_42 : decode cL_fencer 42 = .ok (.iconst 3, 1) := by decide +kernel
theorem dL_fencer_43 : decode cL_fencer 43 = .ok (.if_icmp .ge 9, 3) := by decide +kernel
theorem dL_fencer_46 : decode cL_fencer 46 = .ok (.iload_n 1, 1) := by decide +kernel
theorem dL_fencer_47 : decode cL_fencer 47 = .ok (.iconst 1, 1) := by decide +kernel
theorem dL_fencer_48 : decode cL_fencer 48 = .ok (.iadd, 1) := by decide +kernel
theorem dL_fencer_49 : decode cL_fencer 49 = .ok (.goto 15, 3) := by decide +kernel
theorem dL_fencer_52 : decode cL_fencer 52 = .ok (.iload_n 1, 1) := by decide +kernel
theorem dL_fencer_53 : decode cL_fencer 53 = .ok (.iconst 5, 1) := by decide +kernel
theorem dL_fencer_54 : decode cL_fencer 54 = .ok (.if_icmp .ge 9, 3) := by decide +kernel
theorem dL_fencer_57 : decode cL_fencer 57 = .ok (.iload_n 1, 1) := by decide +kernel
theorem dL_fencer_58 : decode cL_fencer 58 = .ok (.iconst 1, 1) := by decide +kernel
theorem dL_fencer_59 : decode cL_fencer 59 = .ok (.isub, 1) := by decide +kernel
theorem dL_fencer_60 : decode cL_fencer 60 = .ok (.goto 4, 3) := by decide +kernel
theorem dL_fencer_63 : decode cL_fencer 63 = .ok (.iconst 3, 1) := by decide +kernel
theorem dL_fencer_64 : decode cL_fencer 64 = .ok (.ireturn, 1) := by decide +kernel
theorem dL_winner_0 : decode cL_winner 0 = .ok (.aload_n 0, 1) := by decide +kernel
theorem dL_winner_1 : decode cL_winner 1 = .ok (.aload_n 1, 1) := by decide +kernel
theorem dL_winner_2 : decode cL_winner 2 = .ok (.aload_n 2, 1) := by decide +kernel
theorem dL_winner_3 : decode cL_winner 3 = .ok (.iload 4, 2) := by decide +kernel
theorem dL_winner_5 : decode cL_winner 5 = .ok (.invokestatic 23, 3) := by decide +kernel
theorem dL_winner_8 : decode cL_winner 8 = .ok (.bipush 100, 2) := by decide +kernel
theorem dL_winner_10 : decode cL_winner 10 = .ok (.idiv, 1) := by decide +kernel
theorem dL_winner_11 : decode cL_winner 11 = .ok (.istore 5, 2) := by decide +kernel
theorem dL_winner_13 : decode cL_winner 13 = .ok (.iload 5, 2) := by decide +kernel
theorem dL_winner_15 : decode cL_winner 15 = .ok (.ifCond .ne 7, 3) := by decide +kernel
theorem dL_winner_18 : decode cL_winner 18 = .ok (.iconst (-1), 1) := by decide +kernel
theorem dL_winner_19 : decode cL_winner 19 = .ok (.goto 13, 3) := by decide +kernel
theorem dL_winner_22 : decode cL_winner 22 = .ok (.aload_n 3, 1) := by decide +kernel
theorem dL_winner_23 : decode cL_winner 23 = .ok (.iload 4, 2) := by decide +kernel
theorem dL_winner_25 : decode cL_winner 25 = .ok (.iload 5, 2) := by decide +kernel
theorem dL_winner_27 : decode cL_winner 27 = .ok (.iconst 1, 1) := by decide +kernel
theorem dL_winner_28 : decode cL_winner 28 = .ok (.isub, 1) := by decide +kernel
theorem dL_winner_29 : decode cL_winner 29 = .ok (.invokestatic 27, 3) := by decide +kernel
theorem dL_winner_32 : decode cL_winner 32 = .ok (.ireturn, 1) := by decide +kernel
theorem dL_follow_0 : decode cL_follow 0 = .ok (.bipush 8, 2) := by decide +kernel
theorem dL_follow_2 : decode cL_follow 2 = .ok (.newarray .int, 2) := by decide +kernel
theorem dL_follow_4 : decode cL_follow 4 = .ok (.astore 6, 2) := by decide +kernel
theorem dL_follow_6 : decode cL_follow 6 = .ok (.iconst 1, 1) := by decide +kernel
theorem dL_follow_7 : decode cL_follow 7 = .ok (.istore 7, 2) := by decide +kernel
theorem dL_follow_9 : decode cL_follow 9 = .ok (.iload 7, 2) := by decide +kernel
theorem dL_follow_11 : decode cL_follow 11 = .ok (.bipush 8, 2) := by decide +kernel
theorem dL_follow_13 : decode cL_follow 13 = .ok (.if_icmp .ge 19, 3) := by decide +kernel
theorem dL_follow_16 : decode cL_follow 16 = .ok (.aload 6, 2) := by decide +kernel
theorem dL_follow_18 : decode cL_follow 18 = .ok (.iload 7, 2) := by decide +kernel
theorem dL_follow_20 : decode cL_follow 20 = .ok (.aload 4, 2) := by decide +kernel
theorem dL_follow_22 : decode cL_follow 22 = .ok (.iload 7, 2) := by decide +kernel
theorem dL_follow_24 : decode cL_follow 24 = .ok (.iaload, 1) := by decide +kernel
theorem dL_follow_25 : decode cL_follow 25 = .ok (.iastore, 1) := by decide +kernel
theorem dL_follow_26 : decode cL_follow 26 = .ok (.iinc 7 1, 3) := by decide +kernel
theorem dL_follow_29 : decode cL_follow 29 = .ok (.goto (-20), 3) := by decide +kernel
theorem dL_follow_32 : decode cL_follow 32 = .ok (.iconst 3, 1) := by decide +kernel
theorem dL_follow_33 : decode cL_follow 33 = .ok (.istore 7, 2) := by decide +kernel
theorem dL_follow_35 : decode cL_follow 35 = .ok (.iload 7, 2) := by decide +kernel
theorem dL_follow_37 : decode cL_follow 37 = .ok (.ifCond .le 198, 3) := by decide +kernel
theorem dL_follow_40 : decode cL_follow 40 = .ok (.aload 5, 2) := by decide +kernel
theorem dL_follow_42 : decode cL_follow 42 = .ok (.bipush 7, 2) := by decide +kernel
theorem dL_follow_44 : decode cL_follow 44 = .ok (.iaload, 1) := by decide +kernel
theorem dL_follow_45 : decode cL_follow 45 = .ok (.ifCond .le 190, 3) := by decide +kernel
theorem dL_follow_48 : decode cL_follow 48 = .ok (.aload 6, 2) := by decide +kernel
theorem dL_follow_50 : decode cL_follow 50 = .ok (.iconst 2, 1) := by decide +kernel
theorem dL_follow_51 : decode cL_follow 51 = .ok (.iload 7, 2) := by decide +kernel
theorem dL_follow_53 : decode cL_follow 53 = .ok (.imul, 1) := by decide +kernel
theorem dL_follow_54 : decode cL_follow 54 = .ok (.iaload, 1) := by decide +kernel
theorem dL_follow_55 : decode cL_follow 55 = .ok (.ifCond .lt 20, 3) := by decide +kernel
theorem dL_follow_58 : decode cL_follow 58 = .ok (.aload 6, 2) := by decide +kernel
theorem dL_follow_60 : decode cL_follow 60 = .ok (.iconst 2, 1) := by decide +kernel
theorem dL_follow_61 : decode cL_follow 61 = .ok (.iload 7, 2) := by decide +kernel
theorem dL_follow_63 : decode cL_follow 63 = .ok (.imul, 1) := by decide +kernel
theorem dL_follow_64 : decode cL_follow 64 = .ok (.iaload, 1) := by decide +kernel
theorem dL_follow_65 : decode cL_follow 65 = .ok (.aload 4, 2) := by decide +kernel
theorem dL_follow_67 : decode cL_follow 67 = .ok (.iconst 2, 1) := by decide +kernel
theorem dL_follow_68 : decode cL_follow 68 = .ok (.iload 7, 2) := by decide +kernel
theorem dL_follow_70 : decode cL_follow 70 = .ok (.imul, 1) := by decide +kernel
theorem dL_follow_71 : decode cL_follow 71 = .ok (.iaload, 1) := by decide +kernel
theorem dL_follow_72 : decode cL_follow 72 = .ok (.if_icmp .ne 36, 3) := by decide +kernel
theorem dL_follow_75 : decode cL_follow 75 = .ok (.aload 6, 2) := by decide +kernel
theorem dL_follow_77 : decode cL_follow 77 = .ok (.iconst 2, 1) := by decide +kernel
theorem dL_follow_78 : decode cL_follow 78 = .ok (.iload 7, 2) := by decide +kernel
theorem dL_follow_80 : decode cL_follow 80 = .ok (.imul, 1) := by decide +kernel
theorem dL_follow_81 : decode cL_follow 81 = .ok (.iconst 1, 1) := by decide +kernel
theorem dL_follow_82 : decode cL_follow 82 = .ok (.iadd, 1) := by decide +kernel
theorem dL_follow_83 : decode cL_follow 83 = .ok (.iaload, 1) := by decide +kernel
theorem dL_follow_84 : decode cL_follow 84 = .ok (.ifCond .lt 28, 3) := by decide +kernel
theorem dL_follow_87 : decode cL_follow 87 = .ok (.aload 6, 2) := by decide +kernel
theorem dL_follow_89 : decode cL_follow 89 = .ok (.iconst 2, 1) := by decide +kernel
theorem dL_follow_90 : decode cL_follow 90 = .ok (.iload 7, 2) := by decide +kernel
theorem dL_follow_92 : decode cL_follow 92 = .ok (.imul, 1) := by decide +kernel
theorem dL_follow_93 : decode cL_follow 93 = .ok (.iconst 1, 1) := by decide +kernel
theorem dL_follow_94 : decode cL_follow 94 = .ok (.iadd, 1) := by decide +kernel
theorem dL_follow_95 : decode cL_follow 95 = .ok (.iaload, 1) := by decide +kernel
theorem dL_follow_96 : decode cL_follow 96 = .ok (.aload 4, 2) := by decide +kernel
theorem dL_follow_98 : decode cL_follow 98 = .ok (.iconst 2, 1) := by decide +kernel
theorem dL_follow_99 : decode cL_follow 99 = .ok (.iload 7, 2) := by decide +kernel
theorem dL_follow_101 : decode cL_follow 101 = .ok (.imul, 1) := by decide +kernel
theorem dL_follow_102 : decode cL_follow 102 = .ok (.iconst 1, 1) := by decide +kernel
theorem dL_follow_103 : decode cL_follow 103 = .ok (.iadd, 1) := by decide +kernel
theorem dL_follow_104 : decode cL_follow 104 = .ok (.iaload, 1) := by decide +kernel
theorem dL_follow_105 : decode cL_follow 105 = .ok (.if_icmp .eq 7, 3) := by decide +kernel
theorem dL_follow_108 : decode cL_follow 108 = .ok (.iconst 1, 1) := by decide +kernel
theorem dL_follow_109 : decode cL_follow 109 = .ok (.goto 4, 3) := by decide +kernel
theorem dL_follow_112 : decode cL_follow 112 = .ok (.iconst 0, 1) := by decide +kernel
theorem dL_follow_113 : decode cL_follow 113 = .ok (.istore 8, 2) := by decide +kernel
theorem dL_follow_115 : decode cL_follow 115 = .ok (.iconst 5, 1) := by decide +kernel
theorem dL_follow_116 : decode cL_follow 116 = .ok (.iload 7, 2) := by decide +kernel
theorem dL_follow_118 : decode cL_follow 118 = .ok (.iadd, 1) := by decide +kernel
theorem dL_follow_119 : decode cL_follow 119 = .ok (.istore 9, 2) := by decide +kernel
theorem dL_follow_121 : decode cL_follow 121 = .ok (.iload 8, 2) := by decide +kernel
theorem dL_follow_123 : decode cL_follow 123 = .ok (.ifCond .eq 65, 3) := by decide +kernel
theorem dL_follow_126 : decode cL_follow 126 = .ok (.aload 5, 2) := by decide +kernel
theorem dL_follow_128 : decode cL_follow 128 = .ok (.bipush 8, 2) := by decide +kernel
theorem dL_follow_130 : decode cL_follow 130 = .ok (.dup2, 1) := by decide +kernel
theorem dL_follow_131 : decode cL_follow 131 = .ok (.iaload, 1) := by decide +kernel
theorem dL_follow_132 : decode cL_follow 132 = .ok (.aload_n 2, 1) := by decide +kernel
theorem dL_follow_133 : decode cL_follow 133 = .ok (.iload 9, 2) := by decide +kernel
theorem dL_follow_135 : decode cL_follow 135 = .ok (.iaload, 1) := by decide +kernel
theorem dL_follow_136 : decode cL_follow 136 = .ok (.ifCond .le 7, 3) := by decide +kernel
theorem dL_follow_139 : decode cL_follow 139 = .ok (.iconst 1, 1) := by decide +kernel
theorem dL_follow_140 : decode cL_follow 140 = .ok (.goto 4, 3) := by decide +kernel
theorem dL_follow_143 : decode cL_follow 143 = .ok (.iconst 0, 1) := by decide +kernel
theorem dL_follow_144 : decode cL_follow 144 = .ok (.iadd, 1) := by decide +kernel
theorem dL_follow_145 : decode cL_follow 145 = .ok (.iastore, 1) := by decide +kernel
theorem dL_follow_146 : decode cL_follow 146 = .ok (.aload_n 2, 1) := by decide +kernel
theorem dL_follow_147 : decode cL_follow 147 = .ok (.iload 9, 2) := by decide +kernel
theorem dL_follow_149 : decode cL_follow 149 = .ok (.iconst 0, 1) := by decide +kernel
theorem dL_follow_150 : decode cL_follow 150 = .ok (.iastore, 1) := by decide +kernel
theorem dL_follow_151 : decode cL_follow 151 = .ok (.aload_n 3, 1) := by decide +kernel
theorem dL_follow_152 : decode cL_follow 152 = .ok (.iconst 2, 1) := by decide +kernel
theorem dL_follow_153 : decode cL_follow 153 = .ok (.iload 9, 2) := by decide +kernel
theorem dL_follow_155 : decode cL_follow 155 = .ok (.imul, 1) := by decide +kernel
theorem dL_follow_156 : decode cL_follow 156 = .ok (.iconst 0, 1) := by decide +kernel
theorem dL_follow_157 : decode cL_follow 157 = .ok (.iastore, 1) := by decide +kernel
theorem dL_follow_158 : decode cL_follow 158 = .ok (.aload_n 3, 1) := by decide +kernel
theorem dL_follow_159 : decode cL_follow 159 = .ok (.iconst 2, 1) := by decide +kernel
theorem dL_follow_160 : decode cL_follow 160 = .ok (.iload 9, 2) := by decide +kernel
theorem dL_follow_162 : decode cL_follow 162 = .ok (.imul, 1) := by decide +kernel
theorem dL_follow_163 : decode cL_follow 163 = .ok (.iconst 1, 1) := by decide +kernel
theorem dL_follow_164 : decode cL_follow 164 = .ok (.iadd, 1) := by decide +kernel
theorem dL_follow_165 : decode cL_follow 165 = .ok (.iconst 0, 1) := by decide +kernel
theorem dL_follow_166 : decode cL_follow 166 = .ok (.iastore, 1) := by decide +kernel
theorem dL_follow_167 : decode cL_follow 167 = .ok (.aload 5, 2) := by decide +kernel
theorem dL_follow_169 : decode cL_follow 169 = .ok (.iconst 1, 1) := by decide +kernel
theorem dL_follow_170 : decode cL_follow 170 = .ok (.aload 5, 2) := by decide +kernel
theorem dL_follow_172 : decode cL_follow 172 = .ok (.iconst 1, 1) := by decide +kernel
theorem dL_follow_173 : decode cL_follow 173 = .ok (.iaload, 1) := by decide +kernel
theorem dL_follow_174 : decode cL_follow 174 = .ok (.iload 9, 2) := by decide +kernel
theorem dL_follow_176 : decode cL_follow 176 = .ok (.if_icmp .ne 7, 3) := by decide +kernel
theorem dL_follow_179 : decode cL_follow 179 = .ok (.iconst (-1), 1) := by decide +kernel
theorem dL_follow_180 : decode cL_follow 180 = .ok (.goto 7, 3) := by decide +kernel
theorem dL_follow_183 : decode cL_follow 183 = .ok (.aload 5, 2) := by decide +kernel
theorem dL_follow_185 : decode cL_follow 185 = .ok (.iconst 1, 1) := by decide +kernel
theorem dL_follow_186 : decode cL_follow 186 = .ok (.iaload, 1) := by decide +kernel
theorem dL_follow_187 : decode cL_follow 187 = .ok (.iastore, 1) := by decide +kernel
theorem dL_follow_188 : decode cL_follow 188 = .ok (.aload 4, 2) := by decide +kernel
theorem dL_follow_190 : decode cL_follow 190 = .ok (.iload 7, 2) := by decide +kernel
theorem dL_follow_192 : decode cL_follow 192 = .ok (.aload 4, 2) := by decide +kernel
theorem dL_follow_194 : decode cL_follow 194 = .ok (.iconst 2, 1) := by decide +kernel
theorem dL_follow_195 : decode cL_follow 195 = .ok (.iload 7, 2) := by decide +kernel
theorem dL_follow_197 : decode cL_follow 197 = .ok (.imul, 1) := by decide +kernel
theorem dL_follow_198 : decode cL_follow 198 = .ok (.iaload, 1) := by decide +kernel
theorem dL_follow_199 : decode cL_follow 199 = .ok (.ifCond .lt 15, 3) := by decide +kernel
theorem dL_follow_202 : decode cL_follow 202 = .ok (.aload 4, 2) := by decide +kernel
theorem dL_follow_204 : decode cL_follow 204 = .ok (.iconst 2, 1) := by decide +kernel
theorem dL_follow_205 : decode cL_follow 205 = .ok (.iload 7, 2) := by decide +kernel
theorem dL_follow_207 : decode cL_follow 207 = .ok (.imul, 1) := by decide +kernel
theorem dL_follow_208 : decode cL_follow 208 = .ok (.iconst 1, 1) := by decide +kernel
theorem dL_follow_209 : decode cL_follow 209 = .ok (.iadd, 1) := by decide +kernel
theorem dL_follow_210 : decode cL_follow 210 = .ok (.iaload, 1) := by decide +kernel
theorem dL_follow_211 : decode cL_follow 211 = .ok (.ifCond .ge 7, 3) := by decide +kernel
theorem dL_follow_214 : decode cL_follow 214 = .ok (.iconst (-1), 1) := by decide +kernel
theorem dL_follow_215 : decode cL_follow 215 = .ok (.goto 13, 3) := by decide +kernel
theorem dL_follow_218 : decode cL_follow 218 = .ok (.aload_n 0, 1) := by decide +kernel
theorem dL_follow_219 : decode cL_follow 219 = .ok (.aload_n 1, 1) := by decide +kernel
theorem dL_follow_220 : decode cL_follow 220 = .ok (.aload_n 2, 1) := by decide +kernel
theorem dL_follow_221 : decode cL_follow 221 = .ok (.aload 4, 2) := by decide +kernel
theorem dL_follow_223 : decode cL_follow 223 = .ok (.iload 9, 2) := by decide +kernel
theorem dL_follow_225 : decode cL_follow 225 = .ok (.invokestatic 31, 3) := by decide +kernel
theorem dL_follow_228 : decode cL_follow 228 = .ok (.iastore, 1) := by decide +kernel
theorem dL_follow_229 : decode cL_follow 229 = .ok (.iinc 7 (-1), 3) := by decide +kernel
theorem dL_follow_232 : decode cL_follow 232 = .ok (.goto (-197), 3) := by decide +kernel
theorem dL_follow_235 : decode cL_follow 235 = .ok (.return_, 1) := by decide +kernel
theorem dL_sum_0 : decode cL_sum 0 = .ok (.iload 5, 2) := by decide +kernel
theorem dL_sum_2 : decode cL_sum 2 = .ok (.ifCond .eq 7, 3) := by decide +kernel
theorem dL_sum_5 : decode cL_sum 5 = .ok (.iconst 0, 1) := by decide +kernel
theorem dL_sum_6 : decode cL_sum 6 = .ok (.goto 5, 3) := by decide +kernel
theorem dL_sum_9 : decode cL_sum 9 = .ok (.bipush 100, 2) := by decide +kernel
theorem dL_sum_11 : decode cL_sum 11 = .ok (.istore 6, 2) := by decide +kernel
theorem dL_sum_13 : decode cL_sum 13 = .ok (.iconst 0, 1) := by decide +kernel
theorem dL_sum_14 : decode cL_sum 14 = .ok (.istore 7, 2) := by decide +kernel
theorem dL_sum_16 : decode cL_sum 16 = .ok (.iload 7, 2) := by decide +kernel
theorem dL_sum_18 : decode cL_sum 18 = .ok (.bipush 6, 2) := by decide +kernel
theorem dL_sum_20 : decode cL_sum 20 = .ok (.if_icmp .ge 157, 3) := by decide +kernel
theorem dL_sum_23 : decode cL_sum 23 = .ok (.aload_n 0, 1) := by decide +kernel
theorem dL_sum_24 : decode cL_sum 24 = .ok (.aload_n 1, 1) := by decide +kernel
theorem dL_sum_25 : decode cL_sum 25 = .ok (.aload_n 2, 1) := by decide +kernel
theorem dL_sum_26 : decode cL_sum 26 = .ok (.iload 7, 2) := by decide +kernel
theorem dL_sum_28 : decode cL_sum 28 = .ok (.invokestatic 23, 3) := by decide +kernel
theorem dL_sum_31 : decode cL_sum 31 = .ok (.istore 8, 2) := by decide +kernel
theorem dL_sum_33 : decode cL_sum 33 = .ok (.aload_n 3, 1) := by decide +kernel
theorem dL_sum_34 : decode cL_sum 34 = .ok (.iload 7, 2) := by decide +kernel
theorem dL_sum_36 : decode cL_sum 36 = .ok (.iconst 0, 1) := by decide +kernel
theorem dL_sum_37 : decode cL_sum 37 = .ok (.invokestatic 27, 3) := by decide +kernel
theorem dL_sum_40 : decode cL_sum 40 = .ok (.iload 4, 2) := by decide +kernel
theorem dL_sum_42 : decode cL_sum 42 = .ok (.if_icmp .ne 7, 3) := by decide +kernel
theorem dL_sum_45 : decode cL_sum 45 = .ok (.iconst 0, 1) := by decide +kernel
theorem dL_sum_46 : decode cL_sum 46 = .ok (.goto 20, 3) := by decide +kernel
theorem dL_sum_49 : decode cL_sum 49 = .ok (.aload_n 3, 1) := by decide +kernel
theorem dL_sum_50 : decode cL_sum 50 = .ok (.iload 7, 2) := by decide +kernel
theorem dL_sum_52 : decode cL_sum 52 = .ok (.iconst 1, 1) := by decide +kernel
theorem dL_sum_53 : decode cL_sum 53 = .ok (.invokestatic 27, 3) := by decide +kernel
theorem dL_sum_56 : decode cL_sum 56 = .ok (.iload 4, 2) := by decide +kernel
theorem dL_sum_58 : decode cL_sum 58 = .ok (.if_icmp .ne 7, 3) := by decide +kernel
theorem dL_sum_61 : decode cL_sum 61 = .ok (.iconst 1, 1) := by decide +kernel
theorem dL_sum_62 : decode cL_sum 62 = .ok (.goto 4, 3) := by decide +kernel
theorem dL_sum_65 : decode cL_sum 65 = .ok (.iconst 2, 1) := by decide +kernel
theorem dL_sum_66 : decode cL_sum 66 = .ok (.istore 9, 2) := by decide +kernel
theorem dL_sum_68 : decode cL_sum 68 = .ok (.iload 8, 2) := by decide +kernel
theorem dL_sum_70 : decode cL_sum 70 = .ok (.bipush 100, 2) := by decide +kernel
theorem dL_sum_72 : decode cL_sum 72 = .ok (.if_icmp .lt 99, 3) := by decide +kernel
theorem dL_sum_75 : decode cL_sum 75 = .ok (.iload 9, 2) := by decide +kernel
theorem dL_sum_77 : decode cL_sum 77 = .ok (.iconst 2, 1) := by decide +kernel
theorem dL_sum_78 : decode cL_sum 78 = .ok (.if_icmp .ge 93, 3) := by decide +kernel
theorem dL_sum_81 : decode cL_sum 81 = .ok (.iload 9, 2) := by decide +kernel
theorem dL_sum_83 : decode cL_sum 83 = .ok (.ifCond .ne 14, 3) := by decide +kernel
theorem dL_sum_86 : decode cL_sum 86 = .ok (.iload 8, 2) := by decide +kernel
theorem dL_sum_88 : decode cL_sum 88 = .ok (.bipush 10, 2) := by decide +kernel
theorem dL_sum_90 : decode cL_sum 90 = .ok (.idiv, 1) := by decide +kernel
theorem dL_sum_91 : decode cL_sum 91 = .ok (.bipush 10, 2) := by decide +kernel
theorem dL_sum_93 : decode cL_sum 93 = .ok (.irem, 1) := by decide +kernel
theorem dL_sum_94 : decode cL_sum 94 = .ok (.goto 8, 3) := by decide +kernel
theorem dL_sum_97 : decode cL_sum 97 = .ok (.iload 8, 2) := by decide +kernel
theorem dL_sum_99 : decode cL_sum 99 = .ok (.bipush 10, 2) := by decide +kernel
theorem dL_sum_101 : decode cL_sum 101 = .ok (.irem, 1) := by decide +kernel
theorem dL_sum_102 : decode cL_sum 102 = .ok (.istore 10, 2) := by decide +kernel
theorem dL_sum_104 : decode cL_sum 104 = .ok (.iload 9, 2) := by decide +kernel
theorem dL_sum_106 : decode cL_sum 106 = .ok (.ifCond .ne 11, 3) := by decide +kernel
theorem dL_sum_109 : decode cL_sum 109 = .ok (.iload 8, 2) := by decide +kernel
theorem dL_sum_111 : decode cL_sum 111 = .ok (.bipush 10, 2) := by decide +kernel
theorem dL_sum_113 : decode cL_sum 113 = .ok (.irem, 1) := by decide +kernel
theorem dL_sum_114 : decode cL_sum 114 = .ok (.goto 11, 3) := by decide +kernel
theorem dL_sum_117 : decode cL_sum 117 = .ok (.iload 8, 2) := by decide +kernel
theorem dL_sum_119 : decode cL_sum 119 = .ok (.bipush 10, 2) := by decide +kernel
theorem dL_sum_121 : decode cL_sum 121 = .ok (.idiv, 1) := by decide +kernel
theorem dL_sum_122 : decode cL_sum 122 = .ok (.bipush 10, 2) := by decide +kernel
theorem dL_sum_124 : decode cL_sum 124 = .ok (.irem, 1) := by decide +kernel
theorem dL_sum_125 : decode cL_sum 125 = .ok (.istore 11, 2) := by decide +kernel
theorem dL_sum_127 : decode cL_sum 127 = .ok (.iload 6, 2) := by decide +kernel
theorem dL_sum_129 : decode cL_sum 129 = .ok (.iload 5, 2) := by decide +kernel
theorem dL_sum_131 : decode cL_sum 131 = .ok (.ifCond .eq 8, 3) := by decide +kernel
theorem dL_sum_134 : decode cL_sum 134 = .ok (.iload 10, 2) := by decide +kernel
theorem dL_sum_136 : decode cL_sum 136 = .ok (.goto 32, 3) := by decide +kernel
theorem dL_sum_139 : decode cL_sum 139 = .ok (.sipush 10000, 3) := by decide +kernel
theorem dL_sum_142 : decode cL_sum 142 = .ok (.iload 8, 2) := by decide +kernel
theorem dL_sum_144 : decode cL_sum 144 = .ok (.bipush 100, 2) := by decide +kernel
theorem dL_sum_146 : decode cL_sum 146 = .ok (.idiv, 1) := by decide +kernel
theorem dL_sum_147 : decode cL_sum 147 = .ok (.iload 9, 2) := by decide +kernel
theorem dL_sum_149 : decode cL_sum 149 = .ok (.iconst 1, 1) := by decide +kernel
theorem dL_sum_150 : decode cL_sum 150 = .ok (.iadd, 1) := by decide +kernel
theorem dL_sum_151 : decode cL_sum 151 = .ok (.if_icmp .ne 9, 3) := by decide +kernel
theorem dL_sum_154 : decode cL_sum 154 = .ok (.sipush 1000, 3) := by decide +kernel
theorem dL_sum_157 : decode cL_sum 157 = .ok (.goto 4, 3) := by decide +kernel
theorem dL_sum_160 : decode cL_sum 160 = .ok (.iconst 0, 1) := by decide +kernel
theorem dL_sum_161 : decode cL_sum 161 = .ok (.iadd, 1) := by decide +kernel
theorem dL_sum_162 : decode cL_sum 162 = .ok (.iload 10, 2) := by decide +kernel
theorem dL_sum_164 : decode cL_sum 164 = .ok (.iadd, 1) := by decide +kernel
theorem dL_sum_165 : decode cL_sum 165 = .ok (.iload 11, 2) := by decide +kernel
theorem dL_sum_167 : decode cL_sum 167 = .ok (.isub, 1) := by decide +kernel
theorem dL_sum_168 : decode cL_sum 168 = .ok (.iadd, 1) := by decide +kernel
theorem dL_sum_169 : decode cL_sum 169 = .ok (.istore 6, 2) := by decide +kernel
theorem dL_sum_171 : decode cL_sum 171 = .ok (.iinc 7 1, 3) := by decide +kernel
theorem dL_sum_174 : decode cL_sum 174 = .ok (.goto (-158), 3) := by decide +kernel
theorem dL_sum_177 : decode cL_sum 177 = .ok (.iload 6, 2) := by decide +kernel
theorem dL_sum_179 : decode cL_sum 179 = .ok (.ireturn, 1) := by decide +kernel
theorem dL_isAhead_0 : decode cL_isAhead 0 = .ok (.aload_n 0, 1) := by decide +kernel
theorem dL_isAhead_1 : decode cL_isAhead 1 = .ok (.aload_n 1, 1) := by decide +kernel
theorem dL_isAhead_2 : decode cL_isAhead 2 = .ok (.aload_n 2, 1) := by decide +kernel
theorem dL_isAhead_3 : decode cL_isAhead 3 = .ok (.aload_n 3, 1) := by decide +kernel
theorem dL_isAhead_4 : decode cL_isAhead 4 = .ok (.iload 4, 2) := by decide +kernel
theorem dL_isAhead_6 : decode cL_isAhead 6 = .ok (.iconst 0, 1) := by decide +kernel
theorem dL_isAhead_7 : decode cL_isAhead 7 = .ok (.invokestatic 35, 3) := by decide +kernel
theorem dL_isAhead_10 : decode cL_isAhead 10 = .ok (.istore 6, 2) := by decide +kernel
theorem dL_isAhead_12 : decode cL_isAhead 12 = .ok (.aload_n 0, 1) := by decide +kernel
theorem dL_isAhead_13 : decode cL_isAhead 13 = .ok (.aload_n 1, 1) := by decide +kernel
theorem dL_isAhead_14 : decode cL_isAhead 14 = .ok (.aload_n 2, 1) := by decide +kernel
theorem dL_isAhead_15 : decode cL_isAhead 15 = .ok (.aload_n 3, 1) := by decide +kernel
theorem dL_isAhead_16 : decode cL_isAhead 16 = .ok (.iload 5, 2) := by decide +kernel
theorem dL_isAhead_18 : decode cL_isAhead 18 = .ok (.iconst 0, 1) := by decide +kernel
theorem dL_isAhead_19 : decode cL_isAhead 19 = .ok (.invokestatic 35, 3) := by decide +kernel
theorem dL_isAhead_22 : decode cL_isAhead 22 = .ok (.istore 7, 2) := by decide +kernel
theorem dL_isAhead_24 : decode cL_isAhead 24 = .ok (.iload 6, 2) := by decide +kernel
theorem dL_isAhead_26 : decode cL_isAhead 26 = .ok (.sipush 1000, 3) := by decide +kernel
theorem dL_isAhead_29 : decode cL_isAhead 29 = .ok (.idiv, 1) := by decide +kernel
theorem dL_isAhead_30 : decode cL_isAhead 30 = .ok (.bipush 10, 2) := by decide +kernel
theorem dL_isAhead_32 : decode cL_isAhead 32 = .ok (.irem, 1) := by decide +kernel
theorem dL_isAhead_33 : decode cL_isAhead 33 = .ok (.iload 7, 2) := by decide +kernel
theorem dL_isAhead_35 : decode cL_isAhead 35 = .ok (.sipush 10000, 3) := by decide +kernel
theorem dL_isAhead_38 : decode cL_isAhead 38 = .ok (.idiv, 1) := by decide +kernel
theorem dL_isAhead_39 : decode cL_isAhead 39 = .ok (.ifCond .le 12, 3) := by decide +kernel
theorem dL_isAhead_42 : decode cL_isAhead 42 = .ok (.iload 7, 2) := by decide +kernel
theorem dL_isAhead_44 : decode cL_isAhead 44 = .ok (.sipush 10000, 3) := by decide +kernel
theorem dL_isAhead_47 : decode cL_isAhead 47 = .ok (.idiv, 1) := by decide +kernel
theorem dL_isAhead_48 : decode cL_isAhead 48 = .ok (.goto 4, 3) := by decide +kernel
theorem dL_isAhead_51 : decode cL_isAhead 51 = .ok (.iconst 1, 1) := by decide +kernel
theorem dL_isAhead_52 : decode cL_isAhead 52 = .ok (.imul, 1) := by decide +kernel
theorem dL_isAhead_53 : decode cL_isAhead 53 = .ok (.istore 8, 2) := by decide +kernel
theorem dL_isAhead_55 : decode cL_isAhead 55 = .ok (.iload 7, 2) := by decide +kernel
theorem dL_isAhead_57 : decode cL_isAhead 57 = .ok (.sipush 1000, 3) := by decide +kernel
theorem dL_isAhead_60 : decode cL_isAhead 60 = .ok (.idiv, 1) := by decide +kernel
theorem dL_isAhead_61 : decode cL_isAhead 61 = .ok (.bipush 10, 2) := by decide +kernel
theorem dL_isAhead_63 : decode cL_isAhead 63 = .ok (.irem, 1) := by decide +kernel
theorem dL_isAhead_64 : decode cL_isAhead 64 = .ok (.iload 6, 2) := by decide +kernel
theorem dL_isAhead_66 : decode cL_isAhead 66 = .ok (.sipush 10000, 3) := by decide +kernel
theorem dL_isAhead_69 : decode cL_isAhead 69 = .ok (.idiv, 1) := by decide +kernel
theorem dL_isAhead_70 : decode cL_isAhead 70 = .ok (.ifCond .le 12, 3) := by decide +kernel
theorem dL_isAhead_73 : decode cL_isAhead 73 = .ok (.iload 6, 2) := by decide +kernel
theorem dL_isAhead_75 : decode cL_isAhead 75 = .ok (.sipush 10000, 3) := by decide +kernel
theorem dL_isAhead_78 : decode cL_isAhead 78 = .ok (.idiv, 1) := by decide +kernel
theorem dL_isAhead_79 : decode cL_isAhead 79 = .ok (.goto 4, 3) := by decide +kernel
theorem dL_isAhead_82 : decode cL_isAhead 82 = .ok (.iconst 1, 1) := by decide +kernel
theorem dL_isAhead_83 : decode cL_isAhead 83 = .ok (.imul, 1) := by decide +kernel
theorem dL_isAhead_84 : decode cL_isAhead 84 = .ok (.istore 9, 2) := by decide +kernel
theorem dL_isAhead_86 : decode cL_isAhead 86 = .ok (.iload 8, 2) := by decide +kernel
theorem dL_isAhead_88 : decode cL_isAhead 88 = .ok (.iload 9, 2) := by decide +kernel
theorem dL_isAhead_90 : decode cL_isAhead 90 = .ok (.if_icmp .eq 11, 3) := by decide +kernel
theorem dL_isAhead_93 : decode cL_isAhead 93 = .ok (.iload 8, 2) := by decide +kernel
theorem dL_isAhead_95 : decode cL_isAhead 95 = .ok (.iload 9, 2) := by decide +kernel
theorem dL_isAhead_97 : decode cL_isAhead 97 = .ok (.isub, 1) := by decide +kernel
theorem dL_isAhead_98 : decode cL_isAhead 98 = .ok (.goto 16, 3) := by decide +kernel
theorem dL_isAhead_101 : decode cL_isAhead 101 = .ok (.iload 6, 2) := by decide +kernel
theorem dL_isAhead_103 : decode cL_isAhead 103 = .ok (.sipush 1000, 3) := by decide +kernel
theorem dL_isAhead_106 : decode cL_isAhead 106 = .ok (.irem, 1) := by decide +kernel
theorem dL_isAhead_107 : decode cL_isAhead 107 = .ok (.iload 7, 2) := by decide +kernel
theorem dL_isAhead_109 : decode cL_isAhead 109 = .ok (.sipush 1000, 3) := by decide +kernel
theorem dL_isAhead_112 : decode cL_isAhead 112 = .ok (.irem, 1) := by decide +kernel
theorem dL_isAhead_113 : decode cL_isAhead 113 = .ok (.isub, 1) := by decide +kernel
theorem dL_isAhead_114 : decode cL_isAhead 114 = .ok (.istore 10, 2) := by decide +kernel
theorem dL_isAhead_116 : decode cL_isAhead 116 = .ok (.iload 10, 2) := by decide +kernel
theorem dL_isAhead_118 : decode cL_isAhead 118 = .ok (.ifCond .eq 8, 3) := by decide +kernel
theorem dL_isAhead_121 : decode cL_isAhead 121 = .ok (.iload 10, 2) := by decide +kernel
theorem dL_isAhead_123 : decode cL_isAhead 123 = .ok (.goto 24, 3) := by decide +kernel
theorem dL_isAhead_126 : decode cL_isAhead 126 = .ok (.aload_n 0, 1) := by decide +kernel
theorem dL_isAhead_127 : decode cL_isAhead 127 = .ok (.aload_n 1, 1) := by decide +kernel
theorem dL_isAhead_128 : decode cL_isAhead 128 = .ok (.aload_n 2, 1) := by decide +kernel
theorem dL_isAhead_129 : decode cL_isAhead 129 = .ok (.aload_n 3, 1) := by decide +kernel
theorem dL_isAhead_130 : decode cL_isAhead 130 = .ok (.iload 4, 2) := by decide +kernel
theorem dL_isAhead_132 : decode cL_isAhead 132 = .ok (.iconst 1, 1) := by decide +kernel
theorem dL_isAhead_133 : decode cL_isAhead 133 = .ok (.invokestatic 35, 3) := by decide +kernel
theorem dL_isAhead_136 : decode cL_isAhead 136 = .ok (.aload_n 0, 1) := by decide +kernel
theorem dL_isAhead_137 : decode cL_isAhead 137 = .ok (.aload_n 1, 1) := by decide +kernel
theorem dL_isAhead_138 : decode cL_isAhead 138 = .ok (.aload_n 2, 1) := by decide +kernel
theorem dL_isAhead_139 : decode cL_isAhead 139 = .ok (.aload_n 3, 1) := by decide +kernel
theorem dL_isAhead_140 : decode cL_isAhead 140 = .ok (.iload 5, 2) := by decide +kernel
theorem dL_isAhead_142 : decode cL_isAhead 142 = .ok (.iconst 1, 1) := by decide +kernel
theorem dL_isAhead_143 : decode cL_isAhead 143 = .ok (.invokestatic 35, 3) := by decide +kernel
theorem dL_isAhead_146 : decode cL_isAhead 146 = .ok (.isub, 1) := by decide +kernel
theorem dL_isAhead_147 : decode cL_isAhead 147 = .ok (.istore 10, 2) := by decide +kernel
theorem dL_isAhead_149 : decode cL_isAhead 149 = .ok (.iload 10, 2) := by decide +kernel
theorem dL_isAhead_151 : decode cL_isAhead 151 = .ok (.ifCond .gt 15, 3) := by decide +kernel
theorem dL_isAhead_154 : decode cL_isAhead 154 = .ok (.iload 10, 2) := by decide +kernel
theorem dL_isAhead_156 : decode cL_isAhead 156 = .ok (.ifCond .ne 14, 3) := by decide +kernel
theorem dL_isAhead_159 : decode cL_isAhead 159 = .ok (.iload 4, 2) := by decide +kernel
theorem dL_isAhead_161 : decode cL_isAhead 161 = .ok (.iload 5, 2) := by decide +kernel
theorem dL_isAhead_163 : decode cL_isAhead 163 = .ok (.if_icmp .ge 7, 3) := by decide +kernel
theorem dL_isAhead_166 : decode cL_isAhead 166 = .ok (.iconst 1, 1) := by decide +kernel
theorem dL_isAhead_167 : decode cL_isAhead 167 = .ok (.goto 4, 3) := by decide +kernel
theorem dL_isAhead_170 : decode cL_isAhead 170 = .ok (.iconst 0, 1) := by decide +kernel
theorem dL_isAhead_171 : decode cL_isAhead 171 = .ok (.ireturn, 1) := by decide +kernel
theorem dL_ranked_0 : decode cL_ranked 0 = .ok (.iconst (-1), 1) := by decide +kernel
theorem dL_ranked_1 : decode cL_ranked 1 = .ok (.istore 5, 2) := by decide +kernel
theorem dL_ranked_3 : decode cL_ranked 3 = .ok (.iconst 0, 1) := by decide +kernel
theorem dL_ranked_4 : decode cL_ranked 4 = .ok (.istore 6, 2) := by decide +kernel
theorem dL_ranked_6 : decode cL_ranked 6 = .ok (.iload 6, 2) := by decide +kernel
theorem dL_ranked_8 : decode cL_ranked 8 = .ok (.iconst 4, 1) := by decide +kernel
theorem dL_ranked_9 : decode cL_ranked 9 = .ok (.if_icmp .ge 74, 3) := by decide +kernel
theorem dL_ranked_12 : decode cL_ranked 12 = .ok (.iconst 0, 1) := by decide +kernel
theorem dL_ranked_13 : decode cL_ranked 13 = .ok (.istore 7, 2) := by decide +kernel
theorem dL_ranked_15 : decode cL_ranked 15 = .ok (.iconst 0, 1) := by decide +kernel
theorem dL_ranked_16 : decode cL_ranked 16 = .ok (.istore 8, 2) := by decide +kernel
theorem dL_ranked_18 : decode cL_ranked 18 = .ok (.iload 8, 2) := by decide +kernel
theorem dL_ranked_20 : decode cL_ranked 20 = .ok (.iconst 4, 1) := by decide +kernel
theorem dL_ranked_21 : decode cL_ranked 21 = .ok (.if_icmp .ge 40, 3) := by decide +kernel
theorem dL_ranked_24 : decode cL_ranked 24 = .ok (.iload 7, 2) := by decide +kernel
theorem dL_ranked_26 : decode cL_ranked 26 = .ok (.iload 6, 2) := by decide +kernel
theorem dL_ranked_28 : decode cL_ranked 28 = .ok (.iload 8, 2) := by decide +kernel
theorem dL_ranked_30 : decode cL_ranked 30 = .ok (.if_icmp .eq 21, 3) := by decide +kernel
theorem dL_ranked_33 : decode cL_ranked 33 = .ok (.aload_n 0, 1) := by decide +kernel
theorem dL_ranked_34 : decode cL_ranked 34 = .ok (.aload_n 1, 1) := by decide +kernel
theorem dL_ranked_35 : decode cL_ranked 35 = .ok (.aload_n 2, 1) := by decide +kernel
theorem dL_ranked_36 : decode cL_ranked 36 = .ok (.aload_n 3, 1) := by decide +kernel
theorem dL_ranked_37 : decode cL_ranked 37 = .ok (.iload 8, 2) := by decide +kernel
theorem dL_ranked_39 : decode cL_ranked 39 = .ok (.iload 6, 2) := by decide +kernel
theorem dL_ranked_41 : decode cL_ranked 41 = .ok (.invokestatic 39, 3) := by decide +kernel
theorem dL_ranked_44 : decode cL_ranked 44 = .ok (.ifCond .eq 7, 3) := by decide +kernel
theorem dL_ranked_47 : decode cL_ranked 47 = .ok (.iconst 1, 1) := by decide +kernel
theorem dL_ranked_48 : decode cL_ranked 48 = .ok (.goto 4, 3) := by decide +kernel
theorem dL_ranked_51 : decode cL_ranked 51 = .ok (.iconst 0, 1) := by decide +kernel
theorem dL_ranked_52 : decode cL_ranked 52 = .ok (.iadd, 1) := by decide +kernel
theorem dL_ranked_53 : decode cL_ranked 53 = .ok (.istore 7, 2) := by decide +kernel
theorem dL_ranked_55 : decode cL_ranked 55 = .ok (.iinc 8 1, 3) := by decide +kernel
theorem dL_ranked_58 : decode cL_ranked 58 = .ok (.goto (-40), 3) := by decide +kernel
theorem dL_ranked_61 : decode cL_ranked 61 = .ok (.iload 7, 2) := by decide +kernel
theorem dL_ranked_63 : decode cL_ranked 63 = .ok (.iload 4, 2) := by decide +kernel
theorem dL_ranked_65 : decode cL_ranked 65 = .ok (.if_icmp .ne 8, 3) := by decide +kernel
theorem dL_ranked_68 : decode cL_ranked 68 = .ok (.iload 6, 2) := by decide +kernel
theorem dL_ranked_70 : decode cL_ranked 70 = .ok (.goto 5, 3) := by decide +kernel
theorem dL_ranked_73 : decode cL_ranked 73 = .ok (.iload 5, 2) := by decide +kernel
theorem dL_ranked_75 : decode cL_ranked 75 = .ok (.istore 5, 2) := by decide +kernel
theorem dL_ranked_77 : decode cL_ranked 77 = .ok (.iinc 6 1, 3) := by decide +kernel
theorem dL_ranked_80 : decode cL_ranked 80 = .ok (.goto (-74), 3) := by decide +kernel
theorem dL_ranked_83 : decode cL_ranked 83 = .ok (.iload 5, 2) := by decide +kernel
theorem dL_ranked_85 : decode cL_ranked 85 = .ok (.ireturn, 1) := by decide +kernel
theorem dL_isTold_0 : decode cL_isTold 0 = .ok (.aload_n 0, 1) := by decide +kernel
theorem dL_isTold_1 : decode cL_isTold 1 = .ok (.invokevirtual 43, 3) := by decide +kernel
theorem dL_isTold_4 : decode cL_isTold 4 = .ok (.aload 6, 2) := by decide +kernel
theorem dL_isTold_6 : decode cL_isTold 6 = .ok (.iconst 1, 1) := by decide +kernel
theorem dL_isTold_7 : decode cL_isTold 7 = .ok (.iaload, 1) := by decide +kernel
theorem dL_isTold_8 : decode cL_isTold 8 = .ok (.ifCond .ge 7, 3) := by decide +kernel
theorem dL_isTold_11 : decode cL_isTold 11 = .ok (.iconst (-1), 1) := by decide +kernel
theorem dL_isTold_12 : decode cL_isTold 12 = .ok (.goto 10, 3) := by decide +kernel
theorem dL_isTold_15 : decode cL_isTold 15 = .ok (.aload 6, 2) := by decide +kernel
theorem dL_isTold_17 : decode cL_isTold 17 = .ok (.iconst 1, 1) := by decide +kernel
theorem dL_isTold_18 : decode cL_isTold 18 = .ok (.iaload, 1) := by decide +kernel
theorem dL_isTold_19 : decode cL_isTold 19 = .ok (.invokestatic 49, 3) := by decide +kernel
theorem dL_isTold_22 : decode cL_isTold 22 = .ok (.if_icmp .ne 82, 3) := by decide +kernel
theorem dL_isTold_25 : decode cL_isTold 25 = .ok (.aload_n 0, 1) := by decide +kernel
theorem dL_isTold_26 : decode cL_isTold 26 = .ok (.invokevirtual 53, 3) := by decide +kernel
theorem dL_isTold_29 : decode cL_isTold 29 = .ok (.aload 6, 2) := by decide +kernel
theorem dL_isTold_31 : decode cL_isTold 31 = .ok (.iconst 4, 1) := by decide +kernel
theorem dL_isTold_32 : decode cL_isTold 32 = .ok (.iaload, 1) := by decide +kernel
theorem dL_isTold_33 : decode cL_isTold 33 = .ok (.iconst 1, 1) := by decide +kernel
theorem dL_isTold_34 : decode cL_isTold 34 = .ok (.if_icmp .ne 7, 3) := by decide +kernel
theorem dL_isTold_37 : decode cL_isTold 37 = .ok (.iconst 1, 1) := by decide +kernel
theorem dL_isTold_38 : decode cL_isTold 38 = .ok (.goto 4, 3) := by decide +kernel
theorem dL_isTold_41 : decode cL_isTold 41 = .ok (.iconst 0, 1) := by decide +kernel
theorem dL_isTold_42 : decode cL_isTold 42 = .ok (.if_icmp .ne 62, 3) := by decide +kernel
theorem dL_isTold_45 : decode cL_isTold 45 = .ok (.aload_n 0, 1) := by decide +kernel
theorem dL_isTold_46 : decode cL_isTold 46 = .ok (.iload 7, 2) := by decide +kernel
theorem dL_isTold_48 : decode cL_isTold 48 = .ok (.iconst 2, 1) := by decide +kernel
theorem dL_isTold_49 : decode cL_isTold 49 = .ok (.irem, 1) := by decide +kernel
theorem dL_isTold_50 : decode cL_isTold 50 = .ok (.invokevirtual 57, 3) := by decide +kernel
theorem dL_isTold_53 : decode cL_isTold 53 = .ok (.aload 6, 2) := by decide +kernel
theorem dL_isTold_55 : decode cL_isTold 55 = .ok (.iconst 1, 1) := by decide +kernel
theorem dL_isTold_56 : decode cL_isTold 56 = .ok (.iaload, 1) := by decide +kernel
theorem dL_isTold_57 : decode cL_isTold 57 = .ok (.ifCond .ge 7, 3) := by decide +kernel
theorem dL_isTold_60 : decode cL_isTold 60 = .ok (.iconst (-1), 1) := by decide +kernel
theorem dL_isTold_61 : decode cL_isTold 61 = .ok (.goto 12, 3) := by decide +kernel
theorem dL_isTold_64 : decode cL_isTold 64 = .ok (.aload 6, 2) := by decide +kernel
theorem dL_isTold_66 : decode cL_isTold 66 = .ok (.iconst 2, 1) := by decide +kernel
theorem dL_isTold_67 : decode cL_isTold 67 = .ok (.iload 7, 2) := by decide +kernel
theorem dL_isTold_69 : decode cL_isTold 69 = .ok (.iconst 2, 1) := by decide +kernel
theorem dL_isTold_70 : decode cL_isTold 70 = .ok (.irem, 1) := by decide +kernel
theorem dL_isTold_71 : decode cL_isTold 71 = .ok (.iadd, 1) := by decide +kernel
theorem dL_isTold_72 : decode cL_isTold 72 = .ok (.iaload, 1) := by decide +kernel
theorem dL_isTold_73 : decode cL_isTold 73 = .ok (.if_icmp .ne 31, 3) := by decide +kernel
theorem dL_isTold_76 : decode cL_isTold 76 = .ok (.aload_n 0, 1) := by decide +kernel
theorem dL_isTold_77 : decode cL_isTold 77 = .ok (.invokevirtual 60, 3) := by decide +kernel
theorem dL_isTold_80 : decode cL_isTold 80 = .ok (.aload 6, 2) := by decide +kernel
theorem dL_isTold_82 : decode cL_isTold 82 = .ok (.bipush 7, 2) := by decide +kernel
theorem dL_isTold_84 : decode cL_isTold 84 = .ok (.iaload, 1) := by decide +kernel
theorem dL_isTold_85 : decode cL_isTold 85 = .ok (.if_icmp .ne 19, 3) := by decide +kernel
theorem dL_isTold_88 : decode cL_isTold 88 = .ok (.aload_n 0, 1) := by decide +kernel
theorem dL_isTold_89 : decode cL_isTold 89 = .ok (.invokevirtual 63, 3) := by decide +kernel
theorem dL_isTold_92 : decode cL_isTold 92 = .ok (.aload 6, 2) := by decide +kernel
theorem dL_isTold_94 : decode cL_isTold 94 = .ok (.bipush 8, 2) := by decide +kernel
theorem dL_isTold_96 : decode cL_isTold 96 = .ok (.iaload, 1) := by decide +kernel
theorem dL_isTold_97 : decode cL_isTold 97 = .ok (.if_icmp .ne 7, 3) := by decide +kernel
theorem dL_isTold_100 : decode cL_isTold 100 = .ok (.iconst 1, 1) := by decide +kernel
theorem dL_isTold_101 : decode cL_isTold 101 = .ok (.goto 4, 3) := by decide +kernel
theorem dL_isTold_104 : decode cL_isTold 104 = .ok (.iconst 0, 1) := by decide +kernel
theorem dL_isTold_105 : decode cL_isTold 105 = .ok (.istore 8, 2) := by decide +kernel
theorem dL_isTold_107 : decode cL_isTold 107 = .ok (.iconst 0, 1) := by decide +kernel
theorem dL_isTold_108 : decode cL_isTold 108 = .ok (.istore 9, 2) := by decide +kernel
theorem dL_isTold_110 : decode cL_isTold 110 = .ok (.iload 9, 2) := by decide +kernel
theorem dL_isTold_112 : decode cL_isTold 112 = .ok (.aload 6, 2) := by decide +kernel
theorem dL_isTold_114 : decode cL_isTold 114 = .ok (.bipush 7, 2) := by decide +kernel
theorem dL_isTold_116 : decode cL_isTold 116 = .ok (.iaload, 1) := by decide +kernel
theorem dL_isTold_117 : decode cL_isTold 117 = .ok (.ifCond .le 8, 3) := by decide +kernel
theorem dL_isTold_120 : decode cL_isTold 120 = .ok (.bipush 9, 2) := by decide +kernel
theorem dL_isTold_122 : decode cL_isTold 122 = .ok (.goto 5, 3) := by decide +kernel
theorem dL_isTold_125 : decode cL_isTold 125 = .ok (.bipush 6, 2) := by decide +kernel
theorem dL_isTold_127 : decode cL_isTold 127 = .ok (.if_icmp .ge 246, 3) := by decide +kernel
theorem dL_isTold_130 : decode cL_isTold 130 = .ok (.iload 8, 2) := by decide +kernel
theorem dL_isTold_132 : decode cL_isTold 132 = .ok (.ifCond .eq 241, 3) := by decide +kernel
theorem dL_isTold_135 : decode cL_isTold 135 = .ok (.aload_n 1, 1) := by decide +kernel
theorem dL_isTold_136 : decode cL_isTold 136 = .ok (.aload_n 2, 1) := by decide +kernel
theorem dL_isTold_137 : decode cL_isTold 137 = .ok (.aload_n 3, 1) := by decide +kernel
theorem dL_isTold_138 : decode cL_isTold 138 = .ok (.iload 9, 2) := by decide +kernel
theorem dL_isTold_140 : decode cL_isTold 140 = .ok (.invokestatic 23, 3) := by decide +kernel
theorem dL_isTold_143 : decode cL_isTold 143 = .ok (.istore 10, 2) := by decide +kernel
theorem dL_isTold_145 : decode cL_isTold 145 = .ok (.iload 7, 2) := by decide +kernel
theorem dL_isTold_147 : decode cL_isTold 147 = .ok (.iload 9, 2) := by decide +kernel
theorem dL_isTold_149 : decode cL_isTold 149 = .ok (.iadd, 1) := by decide +kernel
theorem dL_isTold_150 : decode cL_isTold 150 = .ok (.iconst 2, 1) := by decide +kernel
theorem dL_isTold_151 : decode cL_isTold 151 = .ok (.irem, 1) := by decide +kernel
theorem dL_isTold_152 : decode cL_isTold 152 = .ok (.istore 11, 2) := by decide +kernel
theorem dL_isTold_154 : decode cL_isTold 154 = .ok (.iload 9, 2) := by decide +kernel
theorem dL_isTold_156 : decode cL_isTold 156 = .ok (.invokestatic 49, 3) := by decide +kernel
theorem dL_isTold_159 : decode cL_isTold 159 = .ok (.istore 12, 2) := by decide +kernel
theorem dL_isTold_161 : decode cL_isTold 161 = .ok (.aload_n 0, 1) := by decide +kernel
theorem dL_isTold_162 : decode cL_isTold 162 = .ok (.iload 12, 2) := by decide +kernel
theorem dL_isTold_164 : decode cL_isTold 164 = .ok (.invokevirtual 66, 3) := by decide +kernel
theorem dL_isTold_167 : decode cL_isTold 167 = .ok (.aload_n 3, 1) := by decide +kernel
theorem dL_isTold_168 : decode cL_isTold 168 = .ok (.iload 9, 2) := by decide +kernel
theorem dL_isTold_170 : decode cL_isTold 170 = .ok (.iaload, 1) := by decide +kernel
theorem dL_isTold_171 : decode cL_isTold 171 = .ok (.if_icmp .ne 143, 3) := by decide +kernel
theorem dL_isTold_174 : decode cL_isTold 174 = .ok (.aload_n 0, 1) := by decide +kernel
theorem dL_isTold_175 : decode cL_isTold 175 = .ok (.iload 12, 2) := by decide +kernel
theorem dL_isTold_177 : decode cL_isTold 177 = .ok (.iload 11, 2) := by decide +kernel
theorem dL_isTold_179 : decode cL_isTold 179 = .ok (.invokevirtual 69, 3) := by decide +kernel
theorem dL_isTold_182 : decode cL_isTold 182 = .ok (.iload 11, 2) := by decide +kernel
theorem dL_isTold_184 : decode cL_isTold 184 = .ok (.ifCond .ne 14, 3) := by decide +kernel
theorem dL_isTold_187 : decode cL_isTold 187 = .ok (.iload 10, 2) := by decide +kernel
theorem dL_isTold_189 : decode cL_isTold 189 = .ok (.bipush 10, 2) := by decide +kernel
theorem dL_isTold_191 : decode cL_isTold 191 = .ok (.idiv, 1) := by decide +kernel
theorem dL_isTold_192 : decode cL_isTold 192 = .ok (.bipush 10, 2) := by decide +kernel
theorem dL_isTold_194 : decode cL_isTold 194 = .ok (.irem, 1) := by decide +kernel
theorem dL_isTold_195 : decode cL_isTold 195 = .ok (.goto 8, 3) := by decide +kernel
theorem dL_isTold_198 : decode cL_isTold 198 = .ok (.iload 10, 2) := by decide +kernel
theorem dL_isTold_200 : decode cL_isTold 200 = .ok (.bipush 10, 2) := by decide +kernel
theorem dL_isTold_202 : decode cL_isTold 202 = .ok (.irem, 1) := by decide +kernel
theorem dL_isTold_203 : decode cL_isTold 203 = .ok (.if_icmp .ne 111, 3) := by decide +kernel
theorem dL_isTold_206 : decode cL_isTold 206 = .ok (.iload 7, 2) := by decide +kernel
theorem dL_isTold_208 : decode cL_isTold 208 = .ok (.iconst 5, 1) := by decide +kernel
theorem dL_isTold_209 : decode cL_isTold 209 = .ok (.irem, 1) := by decide +kernel
theorem dL_isTold_210 : decode cL_isTold 210 = .ok (.ifCond .gt 22, 3) := by decide +kernel
theorem dL_isTold_213 : decode cL_isTold 213 = .ok (.aload_n 0, 1) := by decide +kernel
theorem dL_isTold_214 : decode cL_isTold 214 = .ok (.iload 12, 2) := by decide +kernel
theorem dL_isTold_216 : decode cL_isTold 216 = .ok (.iload 11, 2) := by decide +kernel
theorem dL_isTold_218 : decode cL_isTold 218 = .ok (.invokevirtual 73, 3) := by decide +kernel
theorem dL_isTold_221 : decode cL_isTold 221 = .ok (.aload_n 0, 1) := by decide +kernel
theorem dL_isTold_222 : decode cL_isTold 222 = .ok (.iload 12, 2) := by decide +kernel
theorem dL_isTold_224 : decode cL_isTold 224 = .ok (.iload 11, 2) := by decide +kernel
theorem dL_isTold_226 : decode cL_isTold 226 = .ok (.invokevirtual 69, 3) := by decide +kernel
theorem dL_isTold_229 : decode cL_isTold 229 = .ok (.if_icmp .ne 85, 3) := by decide +kernel
theorem dL_isTold_232 : decode cL_isTold 232 = .ok (.aload_n 0, 1) := by decide +kernel
theorem dL_isTold_233 : decode cL_isTold 233 = .ok (.iload 12, 2) := by decide +kernel
theorem dL_isTold_235 : decode cL_isTold 235 = .ok (.iload 11, 2) := by decide +kernel
theorem dL_isTold_237 : decode cL_isTold 237 = .ok (.invokevirtual 76, 3) := by decide +kernel
theorem dL_isTold_240 : decode cL_isTold 240 = .ok (.iconst 2, 1) := by decide +kernel
theorem dL_isTold_241 : decode cL_isTold 241 = .ok (.aload 4, 2) := by decide +kernel
theorem dL_isTold_243 : decode cL_isTold 243 = .ok (.iconst 2, 1) := by decide +kernel
theorem dL_isTold_244 : decode cL_isTold 244 = .ok (.iload 9, 2) := by decide +kernel
theorem dL_isTold_246 : decode cL_isTold 246 = .ok (.imul, 1) := by decide +kernel
theorem dL_isTold_247 : decode cL_isTold 247 = .ok (.iload 11, 2) := by decide +kernel
theorem dL_isTold_249 : decode cL_isTold 249 = .ok (.iadd, 1) := by decide +kernel
theorem dL_isTold_250 : decode cL_isTold 250 = .ok (.iaload, 1) := by decide +kernel
theorem dL_isTold_251 : decode cL_isTold 251 = .ok (.isub, 1) := by decide +kernel
theorem dL_isTold_252 : decode cL_isTold 252 = .ok (.if_icmp .ne 62, 3) := by decide +kernel
theorem dL_isTold_255 : decode cL_isTold 255 = .ok (.aload_n 0, 1) := by decide +kernel
theorem dL_isTold_256 : decode cL_isTold 256 = .ok (.iload 12, 2) := by decide +kernel
theorem dL_isTold_258 : decode cL_isTold 258 = .ok (.iload 11, 2) := by decide +kernel
theorem dL_isTold_260 : decode cL_isTold 260 = .ok (.invokevirtual 79, 3) := by decide +kernel
theorem dL_isTold_263 : decode cL_isTold 263 = .ok (.aload 5, 2) := by decide +kernel
theorem dL_isTold_265 : decode cL_isTold 265 = .ok (.iload 9, 2) := by decide +kernel
theorem dL_isTold_267 : decode cL_isTold 267 = .ok (.iload 11, 2) := by decide +kernel
theorem dL_isTold_269 : decode cL_isTold 269 = .ok (.invokestatic 27, 3) := by decide +kernel
theorem dL_isTold_272 : decode cL_isTold 272 = .ok (.if_icmp .ne 42, 3) := by decide +kernel
theorem dL_isTold_275 : decode cL_isTold 275 = .ok (.aload_n 0, 1) := by decide +kernel
theorem dL_isTold_276 : decode cL_isTold 276 = .ok (.iload 12, 2) := by decide +kernel
theorem dL_isTold_278 : decode cL_isTold 278 = .ok (.invokevirtual 82, 3) := by decide +kernel
theorem dL_isTold_281 : decode cL_isTold 281 = .ok (.iload 9, 2) := by decide +kernel
theorem dL_isTold_283 : decode cL_isTold 283 = .ok (.iconst 5, 1) := by decide +kernel
theorem dL_isTold_284 : decode cL_isTold 284 = .ok (.if_icmp .le 13, 3) := by decide +kernel
theorem dL_isTold_287 : decode cL_isTold 287 = .ok (.aload 5, 2) := by decide +kernel
theorem dL_isTold_289 : decode cL_isTold 289 = .ok (.iload 9, 2) := by decide +kernel
theorem dL_isTold_291 : decode cL_isTold 291 = .ok (.iconst 5, 1) := by decide +kernel
theorem dL_isTold_292 : decode cL_isTold 292 = .ok (.isub, 1) := by decide +kernel
theorem dL_isTold_293 : decode cL_isTold 293 = .ok (.iaload, 1) := by decide +kernel
theorem dL_isTold_294 : decode cL_isTold 294 = .ok (.goto 13, 3) := by decide +kernel
theorem dL_isTold_297 : decode cL_isTold 297 = .ok (.aload_n 1, 1) := by decide +kernel
theorem dL_isTold_298 : decode cL_isTold 298 = .ok (.aload_n 2, 1) := by decide +kernel
theorem dL_isTold_299 : decode cL_isTold 299 = .ok (.aload_n 3, 1) := by decide +kernel
theorem dL_isTold_300 : decode cL_isTold 300 = .ok (.aload 5, 2) := by decide +kernel
theorem dL_isTold_302 : decode cL_isTold 302 = .ok (.iload 9, 2) := by decide +kernel
theorem dL_isTold_304 : decode cL_isTold 304 = .ok (.invokestatic 31, 3) := by decide +kernel
theorem dL_isTold_307 : decode cL_isTold 307 = .ok (.if_icmp .ne 7, 3) := by decide +kernel
theorem dL_isTold_310 : decode cL_isTold 310 = .ok (.iconst 1, 1) := by decide +kernel
theorem dL_isTold_311 : decode cL_isTold 311 = .ok (.goto 4, 3) := by decide +kernel
theorem dL_isTold_314 : decode cL_isTold 314 = .ok (.iconst 0, 1) := by decide +kernel
theorem dL_isTold_315 : decode cL_isTold 315 = .ok (.istore 8, 2) := by decide +kernel
theorem dL_isTold_317 : decode cL_isTold 317 = .ok (.iconst 0, 1) := by decide +kernel
theorem dL_isTold_318 : decode cL_isTold 318 = .ok (.istore 13, 2) := by decide +kernel
theorem dL_isTold_320 : decode cL_isTold 320 = .ok (.iload 13, 2) := by decide +kernel
theorem dL_isTold_322 : decode cL_isTold 322 = .ok (.aload_n 3, 1) := by decide +kernel
theorem dL_isTold_323 : decode cL_isTold 323 = .ok (.iload 9, 2) := by decide +kernel
theorem dL_isTold_325 : decode cL_isTold 325 = .ok (.iaload, 1) := by decide +kernel
theorem dL_isTold_326 : decode cL_isTold 326 = .ok (.if_icmp .ge 41, 3) := by decide +kernel
theorem dL_isTold_329 : decode cL_isTold 329 = .ok (.iload 8, 2) := by decide +kernel
theorem dL_isTold_331 : decode cL_isTold 331 = .ok (.ifCond .eq 36, 3) := by decide +kernel
theorem dL_isTold_334 : decode cL_isTold 334 = .ok (.aload_n 0, 1) := by decide +kernel
theorem dL_isTold_335 : decode cL_isTold 335 = .ok (.iload 12, 2) := by decide +kernel
theorem dL_isTold_337 : decode cL_isTold 337 = .ok (.iload 13, 2) := by decide +kernel
theorem dL_isTold_339 : decode cL_isTold 339 = .ok (.invokevirtual 84, 3) := by decide +kernel
theorem dL_isTold_342 : decode cL_isTold 342 = .ok (.aload_n 1, 1) := by decide +kernel
theorem dL_isTold_343 : decode cL_isTold 343 = .ok (.aload_n 2, 1) := by decide +kernel
theorem dL_isTold_344 : decode cL_isTold 344 = .ok (.iload 9, 2) := by decide +kernel
theorem dL_isTold_346 : decode cL_isTold 346 = .ok (.iload 13, 2) := by decide +kernel
theorem dL_isTold_348 : decode cL_isTold 348 = .ok (.invokestatic 19, 3) := by decide +kernel
theorem dL_isTold_351 : decode cL_isTold 351 = .ok (.if_icmp .ne 7, 3) := by decide +kernel
theorem dL_isTold_354 : decode cL_isTold 354 = .ok (.iconst 1, 1) := by decide +kernel
theorem dL_isTold_355 : decode cL_isTold 355 = .ok (.goto 4, 3) := by decide +kernel
theorem dL_isTold_358 : decode cL_isTold 358 = .ok (.iconst 0, 1) := by decide +kernel
theorem dL_isTold_359 : decode cL_isTold 359 = .ok (.istore 8, 2) := by decide +kernel
theorem dL_isTold_361 : decode cL_isTold 361 = .ok (.iinc 13 1, 3) := by decide +kernel
theorem dL_isTold_364 : decode cL_isTold 364 = .ok (.goto (-44), 3) := by decide +kernel
theorem dL_isTold_367 : decode cL_isTold 367 = .ok (.iinc 9 1, 3) := by decide +kernel
theorem dL_isTold_370 : decode cL_isTold 370 = .ok (.goto (-260), 3) := by decide +kernel
theorem dL_isTold_373 : decode cL_isTold 373 = .ok (.iconst 1, 1) := by decide +kernel
theorem dL_isTold_374 : decode cL_isTold 374 = .ok (.istore 9, 2) := by decide +kernel
theorem dL_isTold_376 : decode cL_isTold 376 = .ok (.iload 9, 2) := by decide +kernel
theorem dL_isTold_378 : decode cL_isTold 378 = .ok (.bipush 8, 2) := by decide +kernel
theorem dL_isTold_380 : decode cL_isTold 380 = .ok (.if_icmp .ge 43, 3) := by decide +kernel
theorem dL_isTold_383 : decode cL_isTold 383 = .ok (.iload 8, 2) := by decide +kernel
theorem dL_isTold_385 : decode cL_isTold 385 = .ok (.ifCond .eq 38, 3) := by decide +kernel
theorem dL_isTold_388 : decode cL_isTold 388 = .ok (.aload 6, 2) := by decide +kernel
theorem dL_isTold_390 : decode cL_isTold 390 = .ok (.bipush 7, 2) := by decide +kernel
theorem dL_isTold_392 : decode cL_isTold 392 = .ok (.iaload, 1) := by decide +kernel
theorem dL_isTold_393 : decode cL_isTold 393 = .ok (.ifCond .le 30, 3) := by decide +kernel
theorem dL_isTold_396 : decode cL_isTold 396 = .ok (.aload_n 0, 1) := by decide +kernel
theorem dL_isTold_397 : decode cL_isTold 397 = .ok (.iload 9, 2) := by decide +kernel
theorem dL_isTold_399 : decode cL_isTold 399 = .ok (.invokevirtual 86, 3) := by decide +kernel
theorem dL_isTold_402 : decode cL_isTold 402 = .ok (.aload 5, 2) := by decide +kernel
theorem dL_isTold_404 : decode cL_isTold 404 = .ok (.iload 9, 2) := by decide +kernel
theorem dL_isTold_406 : decode cL_isTold 406 = .ok (.iaload, 1) := by decide +kernel
theorem dL_isTold_407 : decode cL_isTold 407 = .ok (.if_icmp .ne 7, 3) := by decide +kernel
theorem dL_isTold_410 : decode cL_isTold 410 = .ok (.iconst 1, 1) := by decide +kernel
theorem dL_isTold_411 : decode cL_isTold 411 = .ok (.goto 4, 3) := by decide +kernel
theorem dL_isTold_414 : decode cL_isTold 414 = .ok (.iconst 0, 1) := by decide +kernel
theorem dL_isTold_415 : decode cL_isTold 415 = .ok (.istore 8, 2) := by decide +kernel
theorem dL_isTold_417 : decode cL_isTold 417 = .ok (.iinc 9 1, 3) := by decide +kernel
theorem dL_isTold_420 : decode cL_isTold 420 = .ok (.goto (-44), 3) := by decide +kernel
theorem dL_isTold_423 : decode cL_isTold 423 = .ok (.iconst 0, 1) := by decide +kernel
theorem dL_isTold_424 : decode cL_isTold 424 = .ok (.istore 9, 2) := by decide +kernel
theorem dL_isTold_426 : decode cL_isTold 426 = .ok (.iload 9, 2) := by decide +kernel
theorem dL_isTold_428 : decode cL_isTold 428 = .ok (.aload 6, 2) := by decide +kernel
theorem dL_isTold_430 : decode cL_isTold 430 = .ok (.iconst 0, 1) := by decide +kernel
theorem dL_isTold_431 : decode cL_isTold 431 = .ok (.iaload, 1) := by decide +kernel
theorem dL_isTold_432 : decode cL_isTold 432 = .ok (.if_icmp .ge 69, 3) := by decide +kernel
theorem dL_isTold_435 : decode cL_isTold 435 = .ok (.iload 8, 2) := by decide +kernel
theorem dL_isTold_437 : decode cL_isTold 437 = .ok (.ifCond .eq 64, 3) := by decide +kernel
theorem dL_isTold_440 : decode cL_isTold 440 = .ok (.aload_n 0, 1) := by decide +kernel
theorem dL_isTold_441 : decode cL_isTold 441 = .ok (.iload 9, 2) := by decide +kernel
theorem dL_isTold_443 : decode cL_isTold 443 = .ok (.invokevirtual 89, 3) := by decide +kernel
theorem dL_isTold_446 : decode cL_isTold 446 = .ok (.aload_n 1, 1) := by decide +kernel
theorem dL_isTold_447 : decode cL_isTold 447 = .ok (.iconst 2, 1) := by decide +kernel
theorem dL_isTold_448 : decode cL_isTold 448 = .ok (.iload 9, 2) := by decide +kernel
theorem dL_isTold_450 : decode cL_isTold 450 = .ok (.imul, 1) := by decide +kernel
theorem dL_isTold_451 : decode cL_isTold 451 = .ok (.iaload, 1) := by decide +kernel
theorem dL_isTold_452 : decode cL_isTold 452 = .ok (.if_icmp .ne 40, 3) := by decide +kernel
theorem dL_isTold_455 : decode cL_isTold 455 = .ok (.aload_n 0, 1) := by decide +kernel
theorem dL_isTold_456 : decode cL_isTold 456 = .ok (.iload 9, 2) := by decide +kernel
theorem dL_isTold_458 : decode cL_isTold 458 = .ok (.invokevirtual 92, 3) := by decide +kernel
theorem dL_isTold_461 : decode cL_isTold 461 = .ok (.aload_n 1, 1) := by decide +kernel
theorem dL_isTold_462 : decode cL_isTold 462 = .ok (.iconst 2, 1) := by decide +kernel
theorem dL_isTold_463 : decode cL_isTold 463 = .ok (.iload 9, 2) := by decide +kernel
theorem dL_isTold_465 : decode cL_isTold 465 = .ok (.imul, 1) := by decide +kernel
theorem dL_isTold_466 : decode cL_isTold 466 = .ok (.iconst 1, 1) := by decide +kernel
theorem dL_isTold_467 : decode cL_isTold 467 = .ok (.iadd, 1) := by decide +kernel
theorem dL_isTold_468 : decode cL_isTold 468 = .ok (.iaload, 1) := by decide +kernel
theorem dL_isTold_469 : decode cL_isTold 469 = .ok (.iconst 3, 1) := by decide +kernel
theorem dL_isTold_470 : decode cL_isTold 470 = .ok (.if_icmp .ne 7, 3) := by decide +kernel
theorem dL_isTold_473 : decode cL_isTold 473 = .ok (.iconst 2, 1) := by decide +kernel
theorem dL_isTold_474 : decode cL_isTold 474 = .ok (.goto 11, 3) := by decide +kernel
theorem dL_isTold_477 : decode cL_isTold 477 = .ok (.aload_n 1, 1) := by decide +kernel
theorem dL_isTold_478 : decode cL_isTold 478 = .ok (.iconst 2, 1) := by decide +kernel
theorem dL_isTold_479 : decode cL_isTold 479 = .ok (.iload 9, 2) := by decide +kernel
theorem dL_isTold_481 : decode cL_isTold 481 = .ok (.imul, 1) := by decide +kernel
theorem dL_isTold_482 : decode cL_isTold 482 = .ok (.iconst 1, 1) := by decide +kernel
theorem dL_isTold_483 : decode cL_isTold 483 = .ok (.iadd, 1) := by decide +kernel
theorem dL_isTold_484 : decode cL_isTold 484 = .ok (.iaload, 1) := by decide +kernel
theorem dL_isTold_485 : decode cL_isTold 485 = .ok (.if_icmp .ne 7, 3) := by decide +kernel
theorem dL_isTold_488 : decode cL_isTold 488 = .ok (.iconst 1, 1) := by decide +kernel
theorem dL_isTold_489 : decode cL_isTold 489 = .ok (.goto 4, 3) := by decide +kernel
theorem dL_isTold_492 : decode cL_isTold 492 = .ok (.iconst 0, 1) := by decide +kernel
theorem dL_isTold_493 : decode cL_isTold 493 = .ok (.istore 8, 2) := by decide +kernel
theorem dL_isTold_495 : decode cL_isTold 495 = .ok (.iinc 9 1, 3) := by decide +kernel
theorem dL_isTold_498 : decode cL_isTold 498 = .ok (.goto (-72), 3) := by decide +kernel
theorem dL_isTold_501 : decode cL_isTold 501 = .ok (.iload 7, 2) := by decide +kernel
theorem dL_isTold_503 : decode cL_isTold 503 = .ok (.iconst 4, 1) := by decide +kernel
theorem dL_isTold_504 : decode cL_isTold 504 = .ok (.irem, 1) := by decide +kernel
theorem dL_isTold_505 : decode cL_isTold 505 = .ok (.istore 9, 2) := by decide +kernel
theorem dL_isTold_507 : decode cL_isTold 507 = .ok (.aload_n 1, 1) := by decide +kernel
theorem dL_isTold_508 : decode cL_isTold 508 = .ok (.aload_n 2, 1) := by decide +kernel
theorem dL_isTold_509 : decode cL_isTold 509 = .ok (.aload_n 3, 1) := by decide +kernel
theorem dL_isTold_510 : decode cL_isTold 510 = .ok (.aload 5, 2) := by decide +kernel
theorem dL_isTold_512 : decode cL_isTold 512 = .ok (.iload 9, 2) := by decide +kernel
theorem dL_isTold_514 : decode cL_isTold 514 = .ok (.iconst 0, 1) := by decide +kernel
theorem dL_isTold_515 : decode cL_isTold 515 = .ok (.invokestatic 35, 3) := by decide +kernel
theorem dL_isTold_518 : decode cL_isTold 518 = .ok (.istore 10, 2) := by decide +kernel
theorem dL_isTold_520 : decode cL_isTold 520 = .ok (.iload 8, 2) := by decide +kernel
theorem dL_isTold_522 : decode cL_isTold 522 = .ok (.ifCond .eq 69, 3) := by decide +kernel
theorem dL_isTold_525 : decode cL_isTold 525 = .ok (.aload_n 0, 1) := by decide +kernel
theorem dL_isTold_526 : decode cL_isTold 526 = .ok (.iload 9, 2) := by decide +kernel
theorem dL_isTold_528 : decode cL_isTold 528 = .ok (.invokevirtual 95, 3) := by decide +kernel
theorem dL_isTold_531 : decode cL_isTold 531 = .ok (.iload 10, 2) := by decide +kernel
theorem dL_isTold_533 : decode cL_isTold 533 = .ok (.sipush 1000, 3) := by decide +kernel
theorem dL_isTold_536 : decode cL_isTold 536 = .ok (.idiv, 1) := by decide +kernel
theorem dL_isTold_537 : decode cL_isTold 537 = .ok (.bipush 10, 2) := by decide +kernel
theorem dL_isTold_539 : decode cL_isTold 539 = .ok (.irem, 1) := by decide +kernel
theorem dL_isTold_540 : decode cL_isTold 540 = .ok (.if_icmp .ne 51, 3) := by decide +kernel
theorem dL_isTold_543 : decode cL_isTold 543 = .ok (.aload_n 0, 1) := by decide +kernel
theorem dL_isTold_544 : decode cL_isTold 544 = .ok (.iload 9, 2) := by decide +kernel
theorem dL_isTold_546 : decode cL_isTold 546 = .ok (.invokevirtual 98, 3) := by decide +kernel
theorem dL_isTold_549 : decode cL_isTold 549 = .ok (.iload 10, 2) := by decide +kernel
theorem dL_isTold_551 : decode cL_isTold 551 = .ok (.sipush 1000, 3) := by decide +kernel
theorem dL_isTold_554 : decode cL_isTold 554 = .ok (.irem, 1) := by decide +kernel
theorem dL_isTold_555 : decode cL_isTold 555 = .ok (.bipush 100, 2) := by decide +kernel
theorem dL_isTold_557 : decode cL_isTold 557 = .ok (.isub, 1) := by decide +kernel
theorem dL_isTold_558 : decode cL_isTold 558 = .ok (.if_icmp .ne 33, 3) := by decide +kernel
theorem dL_isTold_561 : decode cL_isTold 561 = .ok (.iload 7, 2) := by decide +kernel
theorem dL_isTold_563 : decode cL_isTold 563 = .ok (.iconst 3, 1) := by decide +kernel
theorem dL_isTold_564 : decode cL_isTold 564 = .ok (.irem, 1) := by decide +kernel
theorem dL_isTold_565 : decode cL_isTold 565 = .ok (.ifCond .gt 22, 3) := by decide +kernel
theorem dL_isTold_568 : decode cL_isTold 568 = .ok (.aload_n 0, 1) := by decide +kernel
theorem dL_isTold_569 : decode cL_isTold 569 = .ok (.iload 9, 2) := by decide +kernel
theorem dL_isTold_571 : decode cL_isTold 571 = .ok (.invokevirtual 101, 3) := by decide +kernel
theorem dL_isTold_574 : decode cL_isTold 574 = .ok (.aload_n 1, 1) := by decide +kernel
theorem dL_isTold_575 : decode cL_isTold 575 = .ok (.aload_n 2, 1) := by decide +kernel
theorem dL_isTold_576 : decode cL_isTold 576 = .ok (.aload_n 3, 1) := by decide +kernel
theorem dL_isTold_577 : decode cL_isTold 577 = .ok (.aload 5, 2) := by decide +kernel
theorem dL_isTold_579 : decode cL_isTold 579 = .ok (.iload 9, 2) := by decide +kernel
theorem dL_isTold_581 : decode cL_isTold 581 = .ok (.invokestatic 104, 3) := by decide +kernel
theorem dL_isTold_584 : decode cL_isTold 584 = .ok (.if_icmp .ne 7, 3) := by decide +kernel
theorem dL_isTold_587 : decode cL_isTold 587 = .ok (.iconst 1, 1) := by decide +kernel
theorem dL_isTold_588 : decode cL_isTold 588 = .ok (.goto 4, 3) := by decide +kernel
theorem dL_isTold_591 : decode cL_isTold 591 = .ok (.iconst 0, 1) := by decide +kernel
theorem dL_isTold_592 : decode cL_isTold 592 = .ok (.ireturn, 1) := by decide +kernel
theorem dL_begun_0 : decode cL_begun 0 = .ok (.aload_n 0, 1) := by decide +kernel
theorem dL_begun_1 : decode cL_begun 1 = .ok (.iload_n 1, 1) := by decide +kernel
theorem dL_begun_2 : decode cL_begun 2 = .ok (.iload_n 2, 1) := by decide +kernel
theorem dL_begun_3 : decode cL_begun 3 = .ok (.iload_n 3, 1) := by decide +kernel
theorem dL_begun_4 : decode cL_begun 4 = .ok (.invokevirtual 107, 3) := by decide +kernel
theorem dL_begun_7 : decode cL_begun 7 = .ok (.ireturn, 1) := by decide +kernel
theorem dL_begun_8 : decode cL_begun 8 = .ok (.astore 4, 2) := by decide +kernel
theorem dL_begun_10 : decode cL_begun 10 = .ok (.bipush (-8), 2) := by decide +kernel
theorem dL_begun_12 : decode cL_begun 12 = .ok (.ireturn, 1) := by decide +kernel
theorem dL_begun_13 : decode cL_begun 13 = .ok (.astore 4, 2) := by decide +kernel
theorem dL_begun_15 : decode cL_begun 15 = .ok (.bipush (-7), 2) := by decide +kernel
theorem dL_begun_17 : decode cL_begun 17 = .ok (.ireturn, 1) := by decide +kernel
theorem dL_tested_0 : decode cL_tested 0 = .ok (.aload_n 0, 1) := by decide +kernel
theorem dL_tested_1 : decode cL_tested 1 = .ok (.iload_n 1, 1) := by decide +kernel
theorem dL_tested_2 : decode cL_tested 2 = .ok (.iload_n 2, 1) := by decide +kernel
theorem dL_tested_3 : decode cL_tested 3 = .ok (.iload_n 3, 1) := by decide +kernel
theorem dL_tested_4 : decode cL_tested 4 = .ok (.invokevirtual 115, 3) := by decide +kernel
theorem dL_tested_7 : decode cL_tested 7 = .ok (.ifCond .eq 7, 3) := by decide +kernel
theorem dL_tested_10 : decode cL_tested 10 = .ok (.iconst 1, 1) := by decide +kernel
theorem dL_tested_11 : decode cL_tested 11 = .ok (.goto 4, 3) := by decide +kernel
theorem dL_tested_14 : decode cL_tested 14 = .ok (.iconst 0, 1) := by decide +kernel
theorem dL_tested_15 : decode cL_tested 15 = .ok (.ireturn, 1) := by decide +kernel
theorem dL_tested_16 : decode cL_tested 16 = .ok (.astore 4, 2) := by decide +kernel
theorem dL_tested_18 : decode cL_tested 18 = .ok (.bipush (-7), 2) := by decide +kernel
theorem dL_tested_20 : decode cL_tested 20 = .ok (.ireturn, 1) := by decide +kernel
theorem dL_changed_0 : decode cL_changed 0 = .ok (.aload_n 0, 1) := by decide +kernel
theorem dL_changed_1 : decode cL_changed 1 = .ok (.iload_n 1, 1) := by decide +kernel
theorem dL_changed_2 : decode cL_changed 2 = .ok (.iload_n 2, 1) := by decide +kernel
theorem dL_changed_3 : decode cL_changed 3 = .ok (.invokevirtual 119, 3) := by decide +kernel
theorem dL_changed_6 : decode cL_changed 6 = .ok (.ireturn, 1) := by decide +kernel
theorem dL_changed_7 : decode cL_changed 7 = .ok (.astore_n 3, 1) := by decide +kernel
theorem dL_changed_8 : decode cL_changed 8 = .ok (.bipush (-7), 2) := by decide +kernel
theorem dL_changed_10 : decode cL_changed 10 = .ok (.ireturn, 1) := by decide +kernel
theorem dL_allez_0 : decode cL_allez 0 = .ok (.aload_n 0, 1) := by decide +kernel
theorem dL_allez_1 : decode cL_allez 1 = .ok (.invokevirtual 122, 3) := by decide +kernel
theorem dL_allez_4 : decode cL_allez 4 = .ok (.ireturn, 1) := by decide +kernel
theorem dL_allez_5 : decode cL_allez 5 = .ok (.astore_n 1, 1) := by decide +kernel
theorem dL_allez_6 : decode cL_allez 6 = .ok (.bipush (-7), 2) := by decide +kernel
theorem dL_allez_8 : decode cL_allez 8 = .ok (.ireturn, 1) := by decide +kernel
theorem dL_heard_0 : decode cL_heard 0 = .ok (.iload_n 1, 1) := by decide +kernel
theorem dL_heard_1 : decode cL_heard 1 = .ok (.iconst 3, 1) := by decide +kernel
theorem dL_heard_2 : decode cL_heard 2 = .ok (.if_icmp .le 14, 3) := by decide +kernel
theorem dL_heard_5 : decode cL_heard 5 = .ok (.aload_n 0, 1) := by decide +kernel
theorem dL_heard_6 : decode cL_heard 6 = .ok (.iload_n 1, 1) := by decide +kernel
theorem dL_heard_7 : decode cL_heard 7 = .ok (.iconst 5, 1) := by decide +kernel
theorem dL_heard_8 : decode cL_heard 8 = .ok (.isub, 1) := by decide +kernel
theorem dL_heard_9 : decode cL_heard 9 = .ok (.iload_n 2, 1) := by decide +kernel
theorem dL_heard_10 : decode cL_heard 10 = .ok (.invokevirtual 125, 3) := by decide +kernel
theorem dL_heard_13 : decode cL_heard 13 = .ok (.goto 23, 3) := by decide +kernel
theorem dL_heard_16 : decode cL_heard 16 = .ok (.aload_n 0, 1) := by decide +kernel
theorem dL_heard_17 : decode cL_heard 17 = .ok (.iload_n 1, 1) := by decide +kernel
theorem dL_heard_18 : decode cL_heard 18 = .ok (.iconst 2, 1) := by decide +kernel
theorem dL_heard_19 : decode cL_heard 19 = .ok (.idiv, 1) := by decide +kernel
theorem dL_heard_20 : decode cL_heard 20 = .ok (.iload_n 1, 1) := by decide +kernel
theorem dL_heard_21 : decode cL_heard 21 = .ok (.iconst 2, 1) := by decide +kernel
theorem dL_heard_22 : decode cL_heard 22 = .ok (.irem, 1) := by decide +kernel
theorem dL_heard_23 : decode cL_heard 23 = .ok (.iconst 1, 1) := by decide +kernel
theorem dL_heard_24 : decode cL_heard 24 = .ok (.if_icmp .ne 7, 3) := by decide +kernel
theorem dL_heard_27 : decode cL_heard 27 = .ok (.iconst 1, 1) := by decide +kernel
theorem dL_heard_28 : decode cL_heard 28 = .ok (.goto 4, 3) := by decide +kernel
theorem dL_heard_31 : decode cL_heard 31 = .ok (.iconst 0, 1) := by decide +kernel
theorem dL_heard_32 : decode cL_heard 32 = .ok (.iload_n 2, 1) := by decide +kernel
theorem dL_heard_33 : decode cL_heard 33 = .ok (.invokevirtual 128, 3) := by decide +kernel
theorem dL_heard_36 : decode cL_heard 36 = .ok (.ireturn, 1) := by decide +kernel
theorem dL_heard_37 : decode cL_heard 37 = .ok (.astore_n 3, 1) := by decide +kernel
theorem dL_heard_38 : decode cL_heard 38 = .ok (.bipush (-7), 2) := by decide +kernel
theorem dL_heard_40 : decode cL_heard 40 = .ok (.ireturn, 1) := by decide +kernel
theorem dL_halted_0 : decode cL_halted 0 = .ok (.aload_n 0, 1) := by decide +kernel
theorem dL_halted_1 : decode cL_halted 1 = .ok (.invokevirtual 132, 3) := by decide +kernel
theorem dL_halted_4 : decode cL_halted 4 = .ok (.ireturn, 1) := by decide +kernel
theorem dL_halted_5 : decode cL_halted 5 = .ok (.astore_n 1, 1) := by decide +kernel
theorem dL_halted_6 : decode cL_halted 6 = .ok (.bipush (-7), 2) := by decide +kernel
theorem dL_halted_8 : decode cL_halted 8 = .ok (.ireturn, 1) := by decide +kernel
theorem dL_appealed_0 : decode cL_appealed 0 = .ok (.aload_n 0, 1) := by decide +kernel
theorem dL_appealed_1 : decode cL_appealed 1 = .ok (.iload_n 1, 1) := by decide +kernel
theorem dL_appealed_2 : decode cL_appealed 2 = .ok (.iload_n 2, 1) := by decide +kernel
theorem dL_appealed_3 : decode cL_appealed 3 = .ok (.invokevirtual 135, 3) := by decide +kernel
theorem dL_appealed_6 : decode cL_appealed 6 = .ok (.ireturn, 1) := by decide +kernel
theorem dL_appealed_7 : decode cL_appealed 7 = .ok (.astore_n 3, 1) := by decide +kernel
theorem dL_appealed_8 : decode cL_appealed 8 = .ok (.bipush (-7), 2) := by decide +kernel
theorem dL_appealed_10 : decode cL_appealed 10 = .ok (.ireturn, 1) := by decide +kernel
theorem dL_drawn_0 : decode cL_drawn 0 = .ok (.aload_n 0, 1) := by decide +kernel
theorem dL_drawn_1 : decode cL_drawn 1 = .ok (.invokevirtual 138, 3) := by decide +kernel
theorem dL_drawn_4 : decode cL_drawn 4 = .ok (.ireturn, 1) := by decide +kernel
theorem dL_drawn_5 : decode cL_drawn 5 = .ok (.astore_n 1, 1) := by decide +kernel
theorem dL_drawn_6 : decode cL_drawn 6 = .ok (.bipush (-7), 2) := by decide +kernel
theorem dL_drawn_8 : decode cL_drawn 8 = .ok (.ireturn, 1) := by decide +kernel
theorem dL_armed_0 : decode cL_armed 0 = .ok (.iconst 0, 1) := by decide +kernel
theorem dL_armed_1 : decode cL_armed 1 = .ok (.istore 5, 2) := by decide +kernel
theorem dL_armed_3 : decode cL_armed 3 = .ok (.iload 5, 2) := by decide +kernel
theorem dL_armed_5 : decode cL_armed 5 = .ok (.aload_n 2, 1) := by decide +kernel
theorem dL_armed_6 : decode cL_armed 6 = .ok (.iconst 0, 1) := by decide +kernel
theorem dL_armed_7 : decode cL_armed 7 = .ok (.iaload, 1) := by decide +kernel
theorem dL_armed_8 : decode cL_armed 8 = .ok (.if_icmp .ge 45, 3) := by decide +kernel
theorem dL_armed_11 : decode cL_armed 11 = .ok (.iload 5, 2) := by decide +kernel
theorem dL_armed_13 : decode cL_armed 13 = .ok (.iload 4, 2) := by decide +kernel
theorem dL_armed_15 : decode cL_armed 15 = .ok (.iadd, 1) := by decide +kernel
theorem dL_armed_16 : decode cL_armed 16 = .ok (.aload_n 2, 1) := by decide +kernel
theorem dL_armed_17 : decode cL_armed 17 = .ok (.iconst 0, 1) := by decide +kernel
theorem dL_armed_18 : decode cL_armed 18 = .ok (.iaload, 1) := by decide +kernel
theorem dL_armed_19 : decode cL_armed 19 = .ok (.irem, 1) := by decide +kernel
theorem dL_armed_20 : decode cL_armed 20 = .ok (.istore 6, 2) := by decide +kernel
theorem dL_armed_22 : decode cL_armed 22 = .ok (.aload_n 1, 1) := by decide +kernel
theorem dL_armed_23 : decode cL_armed 23 = .ok (.iconst 2, 1) := by decide +kernel
theorem dL_armed_24 : decode cL_armed 24 = .ok (.iload 6, 2) := by decide +kernel
theorem dL_armed_26 : decode cL_armed 26 = .ok (.imul, 1) := by decide +kernel
theorem dL_armed_27 : decode cL_armed 27 = .ok (.iaload, 1) := by decide +kernel
theorem dL_armed_28 : decode cL_armed 28 = .ok (.iload_n 3, 1) := by decide +kernel
theorem dL_armed_29 : decode cL_armed 29 = .ok (.if_icmp .ne 18, 3) := by decide +kernel
theorem dL_armed_32 : decode cL_armed 32 = .ok (.aload_n 1, 1) := by decide +kernel
theorem dL_armed_33 : decode cL_armed 33 = .ok (.iconst 2, 1) := by decide +kernel
theorem dL_armed_34 : decode cL_armed 34 = .ok (.iload 6, 2) := by decide +kernel
theorem dL_armed_36 : decode cL_armed 36 = .ok (.imul, 1) := by decide +kernel
theorem dL_armed_37 : decode cL_armed 37 = .ok (.iconst 1, 1) := by decide +kernel
theorem dL_armed_38 : decode cL_armed 38 = .ok (.iadd, 1) := by decide +kernel
theorem dL_armed_39 : decode cL_armed 39 = .ok (.iaload, 1) := by decide +kernel
theorem dL_armed_40 : decode cL_armed 40 = .ok (.iconst 1, 1) := by decide +kernel
theorem dL_armed_41 : decode cL_armed 41 = .ok (.if_icmp .ne 6, 3) := by decide +kernel
theorem dL_armed_44 : decode cL_armed 44 = .ok (.iload 6, 2) := by decide +kernel
theorem dL_armed_46 : decode cL_armed 46 = .ok (.ireturn, 1) := by decide +kernel
theorem dL_armed_47 : decode cL_armed 47 = .ok (.iinc 5 1, 3) := by decide +kernel
theorem dL_armed_50 : decode cL_armed 50 = .ok (.goto (-47), 3) := by decide +kernel
theorem dL_armed_53 : decode cL_armed 53 = .ok (.aload_n 2, 1) := by decide +kernel
theorem dL_armed_54 : decode cL_armed 54 = .ok (.iconst 0, 1) := by decide +kernel
theorem dL_armed_55 : decode cL_armed 55 = .ok (.iaload, 1) := by decide +kernel
theorem dL_armed_56 : decode cL_armed 56 = .ok (.bipush 16, 2) := by decide +kernel
theorem dL_armed_58 : decode cL_armed 58 = .ok (.if_icmp .eq 10, 3) := by decide +kernel
theorem dL_armed_61 : decode cL_armed 61 = .ok (.aload_n 2, 1) := by decide +kernel
theorem dL_armed_62 : decode cL_armed 62 = .ok (.iconst 4, 1) := by decide +kernel
theorem dL_armed_63 : decode cL_armed 63 = .ok (.iaload, 1) := by decide +kernel
theorem dL_armed_64 : decode cL_armed 64 = .ok (.iconst 1, 1) := by decide +kernel
theorem dL_armed_65 : decode cL_armed 65 = .ok (.if_icmp .ne 5, 3) := by decide +kernel
theorem dL_armed_68 : decode cL_armed 68 = .ok (.iconst (-1), 1) := by decide +kernel
theorem dL_armed_69 : decode cL_armed 69 = .ok (.ireturn, 1) := by decide +kernel
theorem dL_armed_70 : decode cL_armed 70 = .ok (.aload_n 1, 1) := by decide +kernel
theorem dL_armed_71 : decode cL_armed 71 = .ok (.iconst 2, 1) := by decide +kernel
theorem dL_armed_72 : decode cL_armed 72 = .ok (.aload_n 2, 1) := by decide +kernel
theorem dL_armed_73 : decode cL_armed 73 = .ok (.iconst 0, 1) := by decide +kernel
theorem dL_armed_74 : decode cL_armed 74 = .ok (.iaload, 1) := by decide +kernel
theorem dL_armed_75 : decode cL_armed 75 = .ok (.imul, 1) := by decide +kernel
theorem dL_armed_76 : decode cL_armed 76 = .ok (.iload_n 3, 1) := by decide +kernel
theorem dL_armed_77 : decode cL_armed 77 = .ok (.iastore, 1) := by decide +kernel
theorem dL_armed_78 : decode cL_armed 78 = .ok (.aload_n 1, 1) := by decide +kernel
theorem dL_armed_79 : decode cL_armed 79 = .ok (.iconst 2, 1) := by decide +kernel
theorem dL_armed_80 : decode cL_armed 80 = .ok (.aload_n 2, 1) := by decide +kernel
theorem dL_armed_81 : decode cL_armed 81 = .ok (.iconst 0, 1) := by decide +kernel
theorem dL_armed_82 : decode cL_armed 82 = .ok (.iaload, 1) := by decide +kernel
theorem dL_armed_83 : decode cL_armed 83 = .ok (.imul, 1) := by decide +kernel
theorem dL_armed_84 : decode cL_armed 84 = .ok (.iconst 1, 1) := by decide +kernel
theorem dL_armed_85 : decode cL_armed 85 = .ok (.iadd, 1) := by decide +kernel
theorem dL_armed_86 : decode cL_armed 86 = .ok (.iconst 1, 1) := by decide +kernel
theorem dL_armed_87 : decode cL_armed 87 = .ok (.iastore, 1) := by decide +kernel
theorem dL_armed_88 : decode cL_armed 88 = .ok (.aload_n 2, 1) := by decide +kernel
theorem dL_armed_89 : decode cL_armed 89 = .ok (.iconst 0, 1) := by decide +kernel
theorem dL_armed_90 : decode cL_armed 90 = .ok (.dup2, 1) := by decide +kernel
theorem dL_armed_91 : decode cL_armed 91 = .ok (.iaload, 1) := by decide +kernel
theorem dL_armed_92 : decode cL_armed 92 = .ok (.iconst 1, 1) := by decide +kernel
theorem dL_armed_93 : decode cL_armed 93 = .ok (.iadd, 1) := by decide +kernel
theorem dL_armed_94 : decode cL_armed 94 = .ok (.iastore, 1) := by decide +kernel
theorem dL_armed_95 : decode cL_armed 95 = .ok (.aload_n 0, 1) := by decide +kernel
theorem dL_armed_96 : decode cL_armed 96 = .ok (.iload_n 3, 1) := by decide +kernel
theorem dL_armed_97 : decode cL_armed 97 = .ok (.invokevirtual 141, 3) := by decide +kernel
theorem dL_armed_100 : decode cL_armed 100 = .ok (.aload_n 2, 1) := by decide +kernel
theorem dL_armed_101 : decode cL_armed 101 = .ok (.iconst 0, 1) := by decide +kernel
theorem dL_armed_102 : decode cL_armed 102 = .ok (.iaload, 1) := by decide +kernel
theorem dL_armed_103 : decode cL_armed 103 = .ok (.iconst 1, 1) := by decide +kernel
theorem dL_armed_104 : decode cL_armed 104 = .ok (.isub, 1) := by decide +kernel
