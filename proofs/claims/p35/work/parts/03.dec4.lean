theorem dL_armed_105 : decode cL_armed 105 = .ok (.if_icmp .ne 38, 3) := by decide +kernel
theorem dL_armed_108 : decode cL_armed 108 = .ok (.aload_n 0, 1) := by decide +kernel
theorem dL_armed_109 : decode cL_armed 109 = .ok (.aload_n 2, 1) := by decide +kernel
theorem dL_armed_110 : decode cL_armed 110 = .ok (.iconst 0, 1) := by decide +kernel
theorem dL_armed_111 : decode cL_armed 111 = .ok (.iaload, 1) := by decide +kernel
theorem dL_armed_112 : decode cL_armed 112 = .ok (.iconst 1, 1) := by decide +kernel
theorem dL_armed_113 : decode cL_armed 113 = .ok (.isub, 1) := by decide +kernel
theorem dL_armed_114 : decode cL_armed 114 = .ok (.sipush 500, 3) := by decide +kernel
theorem dL_armed_117 : decode cL_armed 117 = .ok (.iload 4, 2) := by decide +kernel
theorem dL_armed_119 : decode cL_armed 119 = .ok (.sipush 271, 3) := by decide +kernel
theorem dL_armed_122 : decode cL_armed 122 = .ok (.irem, 1) := by decide +kernel
theorem dL_armed_123 : decode cL_armed 123 = .ok (.iadd, 1) := by decide +kernel
theorem dL_armed_124 : decode cL_armed 124 = .ok (.iload 4, 2) := by decide +kernel
theorem dL_armed_126 : decode cL_armed 126 = .ok (.bipush 16, 2) := by decide +kernel
theorem dL_armed_128 : decode cL_armed 128 = .ok (.irem, 1) := by decide +kernel
theorem dL_armed_129 : decode cL_armed 129 = .ok (.invokevirtual 115, 3) := by decide +kernel
theorem dL_armed_132 : decode cL_armed 132 = .ok (.ifCond .eq 11, 3) := by decide +kernel
theorem dL_armed_135 : decode cL_armed 135 = .ok (.aload_n 2, 1) := by decide +kernel
theorem dL_armed_136 : decode cL_armed 136 = .ok (.iconst 0, 1) := by decide +kernel
theorem dL_armed_137 : decode cL_armed 137 = .ok (.iaload, 1) := by decide +kernel
theorem dL_armed_138 : decode cL_armed 138 = .ok (.iconst 1, 1) := by decide +kernel
theorem dL_armed_139 : decode cL_armed 139 = .ok (.isub, 1) := by decide +kernel
theorem dL_armed_140 : decode cL_armed 140 = .ok (.goto 4, 3) := by decide +kernel
theorem dL_armed_143 : decode cL_armed 143 = .ok (.iconst (-1), 1) := by decide +kernel
theorem dL_armed_144 : decode cL_armed 144 = .ok (.ireturn, 1) := by decide +kernel
theorem dL_isBegun_0 : decode cL_isBegun 0 = .ok (.iload 6, 2) := by decide +kernel
theorem dL_isBegun_2 : decode cL_isBegun 2 = .ok (.aload 5, 2) := by decide +kernel
theorem dL_isBegun_4 : decode cL_isBegun 4 = .ok (.bipush 7, 2) := by decide +kernel
theorem dL_isBegun_6 : decode cL_isBegun 6 = .ok (.iaload, 1) := by decide +kernel
theorem dL_isBegun_7 : decode cL_isBegun 7 = .ok (.ifCond .le 8, 3) := by decide +kernel
theorem dL_isBegun_10 : decode cL_isBegun 10 = .ok (.bipush 9, 2) := by decide +kernel
theorem dL_isBegun_12 : decode cL_isBegun 12 = .ok (.goto 5, 3) := by decide +kernel
theorem dL_isBegun_15 : decode cL_isBegun 15 = .ok (.bipush 6, 2) := by decide +kernel
theorem dL_isBegun_17 : decode cL_isBegun 17 = .ok (.irem, 1) := by decide +kernel
theorem dL_isBegun_18 : decode cL_isBegun 18 = .ok (.istore 7, 2) := by decide +kernel
theorem dL_isBegun_20 : decode cL_isBegun 20 = .ok (.iconst 0, 1) := by decide +kernel
theorem dL_isBegun_21 : decode cL_isBegun 21 = .ok (.istore 8, 2) := by decide +kernel
theorem dL_isBegun_23 : decode cL_isBegun 23 = .ok (.iload 8, 2) := by decide +kernel
theorem dL_isBegun_25 : decode cL_isBegun 25 = .ok (.bipush 9, 2) := by decide +kernel
theorem dL_isBegun_27 : decode cL_isBegun 27 = .ok (.if_icmp .ge 82, 3) := by decide +kernel
theorem dL_isBegun_30 : decode cL_isBegun 30 = .ok (.iload 6, 2) := by decide +kernel
theorem dL_isBegun_32 : decode cL_isBegun 32 = .ok (.bipush 9, 2) := by decide +kernel
theorem dL_isBegun_34 : decode cL_isBegun 34 = .ok (.idiv, 1) := by decide +kernel
theorem dL_isBegun_35 : decode cL_isBegun 35 = .ok (.iconst 5, 1) := by decide +kernel
theorem dL_isBegun_36 : decode cL_isBegun 36 = .ok (.irem, 1) := by decide +kernel
theorem dL_isBegun_37 : decode cL_isBegun 37 = .ok (.ifCond .le 72, 3) := by decide +kernel
theorem dL_isBegun_40 : decode cL_isBegun 40 = .ok (.aload_n 1, 1) := by decide +kernel
theorem dL_isBegun_41 : decode cL_isBegun 41 = .ok (.aload_n 2, 1) := by decide +kernel
theorem dL_isBegun_42 : decode cL_isBegun 42 = .ok (.aload_n 3, 1) := by decide +kernel
theorem dL_isBegun_43 : decode cL_isBegun 43 = .ok (.iload 7, 2) := by decide +kernel
theorem dL_isBegun_45 : decode cL_isBegun 45 = .ok (.invokestatic 23, 3) := by decide +kernel
theorem dL_isBegun_48 : decode cL_isBegun 48 = .ok (.bipush 100, 2) := by decide +kernel
theorem dL_isBegun_50 : decode cL_isBegun 50 = .ok (.if_icmp .ge 31, 3) := by decide +kernel
theorem dL_isBegun_53 : decode cL_isBegun 53 = .ok (.iload 7, 2) := by decide +kernel
theorem dL_isBegun_55 : decode cL_isBegun 55 = .ok (.iconst 5, 1) := by decide +kernel
theorem dL_isBegun_56 : decode cL_isBegun 56 = .ok (.if_icmp .le 53, 3) := by decide +kernel
theorem dL_isBegun_59 : decode cL_isBegun 59 = .ok (.aload 4, 2) := by decide +kernel
theorem dL_isBegun_61 : decode cL_isBegun 61 = .ok (.iload 7, 2) := by decide +kernel
theorem dL_isBegun_63 : decode cL_isBegun 63 = .ok (.iconst 0, 1) := by decide +kernel
theorem dL_isBegun_64 : decode cL_isBegun 64 = .ok (.invokestatic 27, 3) := by decide +kernel
theorem dL_isBegun_67 : decode cL_isBegun 67 = .ok (.ifCond .lt 14, 3) := by decide +kernel
theorem dL_isBegun_70 : decode cL_isBegun 70 = .ok (.aload 4, 2) := by decide +kernel
theorem dL_isBegun_72 : decode cL_isBegun 72 = .ok (.iload 7, 2) := by decide +kernel
theorem dL_isBegun_74 : decode cL_isBegun 74 = .ok (.iconst 1, 1) := by decide +kernel
theorem dL_isBegun_75 : decode cL_isBegun 75 = .ok (.invokestatic 27, 3) := by decide +kernel
theorem dL_isBegun_78 : decode cL_isBegun 78 = .ok (.ifCond .ge 31, 3) := by decide +kernel
theorem dL_isBegun_81 : decode cL_isBegun 81 = .ok (.iload 7, 2) := by decide +kernel
theorem dL_isBegun_83 : decode cL_isBegun 83 = .ok (.iconst 1, 1) := by decide +kernel
theorem dL_isBegun_84 : decode cL_isBegun 84 = .ok (.iadd, 1) := by decide +kernel
theorem dL_isBegun_85 : decode cL_isBegun 85 = .ok (.aload 5, 2) := by decide +kernel
theorem dL_isBegun_87 : decode cL_isBegun 87 = .ok (.bipush 7, 2) := by decide +kernel
theorem dL_isBegun_89 : decode cL_isBegun 89 = .ok (.iaload, 1) := by decide +kernel
theorem dL_isBegun_90 : decode cL_isBegun 90 = .ok (.ifCond .le 8, 3) := by decide +kernel
theorem dL_isBegun_93 : decode cL_isBegun 93 = .ok (.bipush 9, 2) := by decide +kernel
theorem dL_isBegun_95 : decode cL_isBegun 95 = .ok (.goto 5, 3) := by decide +kernel
theorem dL_isBegun_98 : decode cL_isBegun 98 = .ok (.bipush 6, 2) := by decide +kernel
theorem dL_isBegun_100 : decode cL_isBegun 100 = .ok (.irem, 1) := by decide +kernel
theorem dL_isBegun_101 : decode cL_isBegun 101 = .ok (.istore 7, 2) := by decide +kernel
theorem dL_isBegun_103 : decode cL_isBegun 103 = .ok (.iinc 8 1, 3) := by decide +kernel
theorem dL_isBegun_106 : decode cL_isBegun 106 = .ok (.goto (-83), 3) := by decide +kernel
theorem dL_isBegun_109 : decode cL_isBegun 109 = .ok (.aload 4, 2) := by decide +kernel
theorem dL_isBegun_111 : decode cL_isBegun 111 = .ok (.iload 7, 2) := by decide +kernel
theorem dL_isBegun_113 : decode cL_isBegun 113 = .ok (.iconst 0, 1) := by decide +kernel
theorem dL_isBegun_114 : decode cL_isBegun 114 = .ok (.invokestatic 27, 3) := by decide +kernel
theorem dL_isBegun_117 : decode cL_isBegun 117 = .ok (.istore 8, 2) := by decide +kernel
theorem dL_isBegun_119 : decode cL_isBegun 119 = .ok (.aload 4, 2) := by decide +kernel
theorem dL_isBegun_121 : decode cL_isBegun 121 = .ok (.iload 7, 2) := by decide +kernel
theorem dL_isBegun_123 : decode cL_isBegun 123 = .ok (.iconst 1, 1) := by decide +kernel
theorem dL_isBegun_124 : decode cL_isBegun 124 = .ok (.invokestatic 27, 3) := by decide +kernel
theorem dL_isBegun_127 : decode cL_isBegun 127 = .ok (.istore 9, 2) := by decide +kernel
theorem dL_isBegun_129 : decode cL_isBegun 129 = .ok (.iload 8, 2) := by decide +kernel
theorem dL_isBegun_131 : decode cL_isBegun 131 = .ok (.ifCond .lt 8, 3) := by decide +kernel
theorem dL_isBegun_134 : decode cL_isBegun 134 = .ok (.iload 9, 2) := by decide +kernel
theorem dL_isBegun_136 : decode cL_isBegun 136 = .ok (.ifCond .ge 44, 3) := by decide +kernel
theorem dL_isBegun_139 : decode cL_isBegun 139 = .ok (.aload 5, 2) := by decide +kernel
theorem dL_isBegun_141 : decode cL_isBegun 141 = .ok (.iconst 0, 1) := by decide +kernel
theorem dL_isBegun_142 : decode cL_isBegun 142 = .ok (.iaload, 1) := by decide +kernel
theorem dL_isBegun_143 : decode cL_isBegun 143 = .ok (.ifCond .eq 31, 3) := by decide +kernel
theorem dL_isBegun_146 : decode cL_isBegun 146 = .ok (.aload_n 0, 1) := by decide +kernel
theorem dL_isBegun_147 : decode cL_isBegun 147 = .ok (.iload 7, 2) := by decide +kernel
theorem dL_isBegun_149 : decode cL_isBegun 149 = .ok (.invokestatic 49, 3) := by decide +kernel
theorem dL_isBegun_152 : decode cL_isBegun 152 = .ok (.iload 6, 2) := by decide +kernel
theorem dL_isBegun_154 : decode cL_isBegun 154 = .ok (.aload 5, 2) := by decide +kernel
theorem dL_isBegun_156 : decode cL_isBegun 156 = .ok (.iconst 0, 1) := by decide +kernel
theorem dL_isBegun_157 : decode cL_isBegun 157 = .ok (.iaload, 1) := by decide +kernel
theorem dL_isBegun_158 : decode cL_isBegun 158 = .ok (.irem, 1) := by decide +kernel
theorem dL_isBegun_159 : decode cL_isBegun 159 = .ok (.iload 6, 2) := by decide +kernel
theorem dL_isBegun_161 : decode cL_isBegun 161 = .ok (.aload 5, 2) := by decide +kernel
theorem dL_isBegun_163 : decode cL_isBegun 163 = .ok (.iconst 0, 1) := by decide +kernel
theorem dL_isBegun_164 : decode cL_isBegun 164 = .ok (.iaload, 1) := by decide +kernel
theorem dL_isBegun_165 : decode cL_isBegun 165 = .ok (.irem, 1) := by decide +kernel
theorem dL_isBegun_166 : decode cL_isBegun 166 = .ok (.invokestatic 144, 3) := by decide +kernel
theorem dL_isBegun_169 : decode cL_isBegun 169 = .ok (.bipush (-7), 2) := by decide +kernel
theorem dL_isBegun_171 : decode cL_isBegun 171 = .ok (.if_icmp .ne 7, 3) := by decide +kernel
theorem dL_isBegun_174 : decode cL_isBegun 174 = .ok (.iconst 1, 1) := by decide +kernel
theorem dL_isBegun_175 : decode cL_isBegun 175 = .ok (.goto 4, 3) := by decide +kernel
theorem dL_isBegun_178 : decode cL_isBegun 178 = .ok (.iconst 0, 1) := by decide +kernel
theorem dL_isBegun_179 : decode cL_isBegun 179 = .ok (.ireturn, 1) := by decide +kernel
theorem dL_isBegun_180 : decode cL_isBegun 180 = .ok (.aload_n 0, 1) := by decide +kernel
theorem dL_isBegun_181 : decode cL_isBegun 181 = .ok (.aload_n 1, 1) := by decide +kernel
theorem dL_isBegun_182 : decode cL_isBegun 182 = .ok (.aload 5, 2) := by decide +kernel
theorem dL_isBegun_184 : decode cL_isBegun 184 = .ok (.iload 8, 2) := by decide +kernel
theorem dL_isBegun_186 : decode cL_isBegun 186 = .ok (.iload 6, 2) := by decide +kernel
theorem dL_isBegun_188 : decode cL_isBegun 188 = .ok (.invokestatic 148, 3) := by decide +kernel
theorem dL_isBegun_191 : decode cL_isBegun 191 = .ok (.istore 10, 2) := by decide +kernel
theorem dL_isBegun_193 : decode cL_isBegun 193 = .ok (.aload_n 0, 1) := by decide +kernel
theorem dL_isBegun_194 : decode cL_isBegun 194 = .ok (.aload_n 1, 1) := by decide +kernel
theorem dL_isBegun_195 : decode cL_isBegun 195 = .ok (.aload 5, 2) := by decide +kernel
theorem dL_isBegun_197 : decode cL_isBegun 197 = .ok (.iload 9, 2) := by decide +kernel
theorem dL_isBegun_199 : decode cL_isBegun 199 = .ok (.iload 6, 2) := by decide +kernel
theorem dL_isBegun_201 : decode cL_isBegun 201 = .ok (.bipush 7, 2) := by decide +kernel
theorem dL_isBegun_203 : decode cL_isBegun 203 = .ok (.idiv, 1) := by decide +kernel
theorem dL_isBegun_204 : decode cL_isBegun 204 = .ok (.invokestatic 148, 3) := by decide +kernel
theorem dL_isBegun_207 : decode cL_isBegun 207 = .ok (.istore 11, 2) := by decide +kernel
theorem dL_isBegun_209 : decode cL_isBegun 209 = .ok (.iload 10, 2) := by decide +kernel
theorem dL_isBegun_211 : decode cL_isBegun 211 = .ok (.ifCond .lt 8, 3) := by decide +kernel
theorem dL_isBegun_214 : decode cL_isBegun 214 = .ok (.iload 11, 2) := by decide +kernel
theorem dL_isBegun_216 : decode cL_isBegun 216 = .ok (.ifCond .ge 5, 3) := by decide +kernel
theorem dL_isBegun_219 : decode cL_isBegun 219 = .ok (.iconst 1, 1) := by decide +kernel
theorem dL_isBegun_220 : decode cL_isBegun 220 = .ok (.ireturn, 1) := by decide +kernel
theorem dL_isBegun_221 : decode cL_isBegun 221 = .ok (.aload 5, 2) := by decide +kernel
theorem dL_isBegun_223 : decode cL_isBegun 223 = .ok (.iconst 4, 1) := by decide +kernel
theorem dL_isBegun_224 : decode cL_isBegun 224 = .ok (.iaload, 1) := by decide +kernel
theorem dL_isBegun_225 : decode cL_isBegun 225 = .ok (.ifCond .ne 20, 3) := by decide +kernel
theorem dL_isBegun_228 : decode cL_isBegun 228 = .ok (.aload_n 1, 1) := by decide +kernel
theorem dL_isBegun_229 : decode cL_isBegun 229 = .ok (.aload_n 2, 1) := by decide +kernel
theorem dL_isBegun_230 : decode cL_isBegun 230 = .ok (.aload_n 3, 1) := by decide +kernel
theorem dL_isBegun_231 : decode cL_isBegun 231 = .ok (.iload 7, 2) := by decide +kernel
theorem dL_isBegun_233 : decode cL_isBegun 233 = .ok (.invokestatic 23, 3) := by decide +kernel
theorem dL_isBegun_236 : decode cL_isBegun 236 = .ok (.bipush 100, 2) := by decide +kernel
theorem dL_isBegun_238 : decode cL_isBegun 238 = .ok (.if_icmp .ge 7, 3) := by decide +kernel
theorem dL_isBegun_241 : decode cL_isBegun 241 = .ok (.iconst 1, 1) := by decide +kernel
theorem dL_isBegun_242 : decode cL_isBegun 242 = .ok (.goto 4, 3) := by decide +kernel
theorem dL_isBegun_245 : decode cL_isBegun 245 = .ok (.iconst 0, 1) := by decide +kernel
theorem dL_isBegun_246 : decode cL_isBegun 246 = .ok (.istore 12, 2) := by decide +kernel
theorem dL_isBegun_248 : decode cL_isBegun 248 = .ok (.iload 12, 2) := by decide +kernel
theorem dL_isBegun_250 : decode cL_isBegun 250 = .ok (.ifCond .eq 27, 3) := by decide +kernel
theorem dL_isBegun_253 : decode cL_isBegun 253 = .ok (.aload 5, 2) := by decide +kernel
theorem dL_isBegun_255 : decode cL_isBegun 255 = .ok (.iconst 1, 1) := by decide +kernel
theorem dL_isBegun_256 : decode cL_isBegun 256 = .ok (.iload 7, 2) := by decide +kernel
theorem dL_isBegun_258 : decode cL_isBegun 258 = .ok (.iastore, 1) := by decide +kernel
theorem dL_isBegun_259 : decode cL_isBegun 259 = .ok (.aload 5, 2) := by decide +kernel
theorem dL_isBegun_261 : decode cL_isBegun 261 = .ok (.iconst 2, 1) := by decide +kernel
theorem dL_isBegun_262 : decode cL_isBegun 262 = .ok (.iload 10, 2) := by decide +kernel
theorem dL_isBegun_264 : decode cL_isBegun 264 = .ok (.iastore, 1) := by decide +kernel
theorem dL_isBegun_265 : decode cL_isBegun 265 = .ok (.aload 5, 2) := by decide +kernel
theorem dL_isBegun_267 : decode cL_isBegun 267 = .ok (.iconst 3, 1) := by decide +kernel
theorem dL_isBegun_268 : decode cL_isBegun 268 = .ok (.iload 11, 2) := by decide +kernel
theorem dL_isBegun_270 : decode cL_isBegun 270 = .ok (.iastore, 1) := by decide +kernel
theorem dL_isBegun_271 : decode cL_isBegun 271 = .ok (.aload 5, 2) := by decide +kernel
theorem dL_isBegun_273 : decode cL_isBegun 273 = .ok (.bipush 6, 2) := by decide +kernel
theorem dL_isBegun_275 : decode cL_isBegun 275 = .ok (.iconst 0, 1) := by decide +kernel
theorem dL_isBegun_276 : decode cL_isBegun 276 = .ok (.iastore, 1) := by decide +kernel
theorem dL_isBegun_277 : decode cL_isBegun 277 = .ok (.aload_n 0, 1) := by decide +kernel
theorem dL_isBegun_278 : decode cL_isBegun 278 = .ok (.iload 7, 2) := by decide +kernel
theorem dL_isBegun_280 : decode cL_isBegun 280 = .ok (.invokestatic 49, 3) := by decide +kernel
theorem dL_isBegun_283 : decode cL_isBegun 283 = .ok (.iload 10, 2) := by decide +kernel
theorem dL_isBegun_285 : decode cL_isBegun 285 = .ok (.iload 11, 2) := by decide +kernel
theorem dL_isBegun_287 : decode cL_isBegun 287 = .ok (.invokestatic 144, 3) := by decide +kernel
theorem dL_isBegun_290 : decode cL_isBegun 290 = .ok (.iload 12, 2) := by decide +kernel
theorem dL_isBegun_292 : decode cL_isBegun 292 = .ok (.ifCond .eq 10, 3) := by decide +kernel
theorem dL_isBegun_295 : decode cL_isBegun 295 = .ok (.aload_n 3, 1) := by decide +kernel
theorem dL_isBegun_296 : decode cL_isBegun 296 = .ok (.iload 7, 2) := by decide +kernel
theorem dL_isBegun_298 : decode cL_isBegun 298 = .ok (.iaload, 1) := by decide +kernel
theorem dL_isBegun_299 : decode cL_isBegun 299 = .ok (.goto 5, 3) := by decide +kernel
theorem dL_isBegun_302 : decode cL_isBegun 302 = .ok (.bipush (-7), 2) := by decide +kernel
theorem dL_isBegun_304 : decode cL_isBegun 304 = .ok (.if_icmp .ne 7, 3) := by decide +kernel
theorem dL_isBegun_307 : decode cL_isBegun 307 = .ok (.iconst 1, 1) := by decide +kernel
theorem dL_isBegun_308 : decode cL_isBegun 308 = .ok (.goto 4, 3) := by decide +kernel
theorem dL_isBegun_311 : decode cL_isBegun 311 = .ok (.iconst 0, 1) := by decide +kernel
theorem dL_isBegun_312 : decode cL_isBegun 312 = .ok (.ireturn, 1) := by decide +kernel
theorem dL_isFenced_0 : decode cL_isFenced 0 = .ok (.aload 8, 2) := by decide +kernel
theorem dL_isFenced_2 : decode cL_isFenced 2 = .ok (.iconst 1, 1) := by decide +kernel
theorem dL_isFenced_3 : decode cL_isFenced 3 = .ok (.iaload, 1) := by decide +kernel
theorem dL_isFenced_4 : decode cL_isFenced 4 = .ok (.ifCond .lt 57, 3) := by decide +kernel
theorem dL_isFenced_7 : decode cL_isFenced 7 = .ok (.aload 8, 2) := by decide +kernel
theorem dL_isFenced_9 : decode cL_isFenced 9 = .ok (.iconst 4, 1) := by decide +kernel
theorem dL_isFenced_10 : decode cL_isFenced 10 = .ok (.iaload, 1) := by decide +kernel
theorem dL_isFenced_11 : decode cL_isFenced 11 = .ok (.ifCond .ne 50, 3) := by decide +kernel
theorem dL_isFenced_14 : decode cL_isFenced 14 = .ok (.aload_n 1, 1) := by decide +kernel
theorem dL_isFenced_15 : decode cL_isFenced 15 = .ok (.iconst 2, 1) := by decide +kernel
theorem dL_isFenced_16 : decode cL_isFenced 16 = .ok (.aload 8, 2) := by decide +kernel
theorem dL_isFenced_18 : decode cL_isFenced 18 = .ok (.iconst 2, 1) := by decide +kernel
theorem dL_isFenced_19 : decode cL_isFenced 19 = .ok (.iaload, 1) := by decide +kernel
theorem dL_isFenced_20 : decode cL_isFenced 20 = .ok (.imul, 1) := by decide +kernel
theorem dL_isFenced_21 : decode cL_isFenced 21 = .ok (.iconst 1, 1) := by decide +kernel
theorem dL_isFenced_22 : decode cL_isFenced 22 = .ok (.iadd, 1) := by decide +kernel
theorem dL_isFenced_23 : decode cL_isFenced 23 = .ok (.iaload, 1) := by decide +kernel
theorem dL_isFenced_24 : decode cL_isFenced 24 = .ok (.iconst 1, 1) := by decide +kernel
theorem dL_isFenced_25 : decode cL_isFenced 25 = .ok (.if_icmp .ne 36, 3) := by decide +kernel
theorem dL_isFenced_28 : decode cL_isFenced 28 = .ok (.aload_n 1, 1) := by decide +kernel
theorem dL_isFenced_29 : decode cL_isFenced 29 = .ok (.iconst 2, 1) := by decide +kernel
theorem dL_isFenced_30 : decode cL_isFenced 30 = .ok (.aload 8, 2) := by decide +kernel
theorem dL_isFenced_32 : decode cL_isFenced 32 = .ok (.iconst 3, 1) := by decide +kernel
theorem dL_isFenced_33 : decode cL_isFenced 33 = .ok (.iaload, 1) := by decide +kernel
theorem dL_isFenced_34 : decode cL_isFenced 34 = .ok (.imul, 1) := by decide +kernel
theorem dL_isFenced_35 : decode cL_isFenced 35 = .ok (.iconst 1, 1) := by decide +kernel
theorem dL_isFenced_36 : decode cL_isFenced 36 = .ok (.iadd, 1) := by decide +kernel
theorem dL_isFenced_37 : decode cL_isFenced 37 = .ok (.iaload, 1) := by decide +kernel
theorem dL_isFenced_38 : decode cL_isFenced 38 = .ok (.iconst 1, 1) := by decide +kernel
theorem dL_isFenced_39 : decode cL_isFenced 39 = .ok (.if_icmp .ne 22, 3) := by decide +kernel
theorem dL_isFenced_42 : decode cL_isFenced 42 = .ok (.aload_n 1, 1) := by decide +kernel
theorem dL_isFenced_43 : decode cL_isFenced 43 = .ok (.aload_n 2, 1) := by decide +kernel
theorem dL_isFenced_44 : decode cL_isFenced 44 = .ok (.aload_n 3, 1) := by decide +kernel
theorem dL_isFenced_45 : decode cL_isFenced 45 = .ok (.aload 8, 2) := by decide +kernel
theorem dL_isFenced_47 : decode cL_isFenced 47 = .ok (.iconst 1, 1) := by decide +kernel
theorem dL_isFenced_48 : decode cL_isFenced 48 = .ok (.iaload, 1) := by decide +kernel
theorem dL_isFenced_49 : decode cL_isFenced 49 = .ok (.invokestatic 23, 3) := by decide +kernel
theorem dL_isFenced_52 : decode cL_isFenced 52 = .ok (.bipush 100, 2) := by decide +kernel
theorem dL_isFenced_54 : decode cL_isFenced 54 = .ok (.if_icmp .ge 7, 3) := by decide +kernel
theorem dL_isFenced_57 : decode cL_isFenced 57 = .ok (.iconst 1, 1) := by decide +kernel
theorem dL_isFenced_58 : decode cL_isFenced 58 = .ok (.goto 4, 3) := by decide +kernel
theorem dL_isFenced_61 : decode cL_isFenced 61 = .ok (.iconst 0, 1) := by decide +kernel
theorem dL_isFenced_62 : decode cL_isFenced 62 = .ok (.istore 12, 2) := by decide +kernel
theorem dL_isFenced_64 : decode cL_isFenced 64 = .ok (.iload 12, 2) := by decide +kernel
theorem dL_isFenced_66 : decode cL_isFenced 66 = .ok (.ifCond .ne 46, 3) := by decide +kernel
theorem dL_isFenced_69 : decode cL_isFenced 69 = .ok (.aload_n 0, 1) := by decide +kernel
theorem dL_isFenced_70 : decode cL_isFenced 70 = .ok (.invokestatic 152, 3) := by decide +kernel
theorem dL_isFenced_73 : decode cL_isFenced 73 = .ok (.bipush (-7), 2) := by decide +kernel
theorem dL_isFenced_75 : decode cL_isFenced 75 = .ok (.if_icmp .ne 35, 3) := by decide +kernel
theorem dL_isFenced_78 : decode cL_isFenced 78 = .ok (.aload 8, 2) := by decide +kernel
theorem dL_isFenced_80 : decode cL_isFenced 80 = .ok (.iconst 4, 1) := by decide +kernel
theorem dL_isFenced_81 : decode cL_isFenced 81 = .ok (.iaload, 1) := by decide +kernel
theorem dL_isFenced_82 : decode cL_isFenced 82 = .ok (.iconst 1, 1) := by decide +kernel
theorem dL_isFenced_83 : decode cL_isFenced 83 = .ok (.if_icmp .eq 23, 3) := by decide +kernel
theorem dL_isFenced_86 : decode cL_isFenced 86 = .ok (.aload_n 0, 1) := by decide +kernel
theorem dL_isFenced_87 : decode cL_isFenced 87 = .ok (.invokestatic 155, 3) := by decide +kernel
theorem dL_isFenced_90 : decode cL_isFenced 90 = .ok (.bipush (-7), 2) := by decide +kernel
theorem dL_isFenced_92 : decode cL_isFenced 92 = .ok (.if_icmp .ne 18, 3) := by decide +kernel
theorem dL_isFenced_95 : decode cL_isFenced 95 = .ok (.aload_n 0, 1) := by decide +kernel
theorem dL_isFenced_96 : decode cL_isFenced 96 = .ok (.iconst 1, 1) := by decide +kernel
theorem dL_isFenced_97 : decode cL_isFenced 97 = .ok (.iconst 5, 1) := by decide +kernel
theorem dL_isFenced_98 : decode cL_isFenced 98 = .ok (.invokestatic 158, 3) := by decide +kernel
theorem dL_isFenced_101 : decode cL_isFenced 101 = .ok (.bipush (-7), 2) := by decide +kernel
theorem dL_isFenced_103 : decode cL_isFenced 103 = .ok (.if_icmp .ne 7, 3) := by decide +kernel
theorem dL_isFenced_106 : decode cL_isFenced 106 = .ok (.iconst 1, 1) := by decide +kernel
theorem dL_isFenced_107 : decode cL_isFenced 107 = .ok (.goto 4, 3) := by decide +kernel
theorem dL_isFenced_110 : decode cL_isFenced 110 = .ok (.iconst 0, 1) := by decide +kernel
theorem dL_isFenced_111 : decode cL_isFenced 111 = .ok (.ireturn, 1) := by decide +kernel
theorem dL_isFenced_112 : decode cL_isFenced 112 = .ok (.iconst 1, 1) := by decide +kernel
theorem dL_isFenced_113 : decode cL_isFenced 113 = .ok (.iload 11, 2) := by decide +kernel
theorem dL_isFenced_115 : decode cL_isFenced 115 = .ok (.bipush 6, 2) := by decide +kernel
theorem dL_isFenced_117 : decode cL_isFenced 117 = .ok (.irem, 1) := by decide +kernel
theorem dL_isFenced_118 : decode cL_isFenced 118 = .ok (.iadd, 1) := by decide +kernel
theorem dL_isFenced_119 : decode cL_isFenced 119 = .ok (.istore 13, 2) := by decide +kernel
theorem dL_isFenced_121 : decode cL_isFenced 121 = .ok (.iload 11, 2) := by decide +kernel
theorem dL_isFenced_123 : decode cL_isFenced 123 = .ok (.bipush 6, 2) := by decide +kernel
theorem dL_isFenced_125 : decode cL_isFenced 125 = .ok (.idiv, 1) := by decide +kernel
theorem dL_isFenced_126 : decode cL_isFenced 126 = .ok (.bipush 50, 2) := by decide +kernel
theorem dL_isFenced_128 : decode cL_isFenced 128 = .ok (.irem, 1) := by decide +kernel
theorem dL_isFenced_129 : decode cL_isFenced 129 = .ok (.istore 14, 2) := by decide +kernel
theorem dL_isFenced_131 : decode cL_isFenced 131 = .ok (.aload 8, 2) := by decide +kernel
theorem dL_isFenced_133 : decode cL_isFenced 133 = .ok (.iconst 1, 1) := by decide +kernel
theorem dL_isFenced_134 : decode cL_isFenced 134 = .ok (.iaload, 1) := by decide +kernel
theorem dL_isFenced_135 : decode cL_isFenced 135 = .ok (.istore 15, 2) := by decide +kernel
theorem dL_isFenced_137 : decode cL_isFenced 137 = .ok (.aload_n 0, 1) := by decide +kernel
theorem dL_isFenced_138 : decode cL_isFenced 138 = .ok (.invokestatic 152, 3) := by decide +kernel
theorem dL_isFenced_141 : decode cL_isFenced 141 = .ok (.aload_n 3, 1) := by decide +kernel
theorem dL_isFenced_142 : decode cL_isFenced 142 = .ok (.iload 15, 2) := by decide +kernel
theorem dL_isFenced_144 : decode cL_isFenced 144 = .ok (.iaload, 1) := by decide +kernel
theorem dL_isFenced_145 : decode cL_isFenced 145 = .ok (.if_icmp .ne 7, 3) := by decide +kernel
theorem dL_isFenced_148 : decode cL_isFenced 148 = .ok (.iconst 1, 1) := by decide +kernel
theorem dL_isFenced_149 : decode cL_isFenced 149 = .ok (.goto 4, 3) := by decide +kernel
theorem dL_isFenced_152 : decode cL_isFenced 152 = .ok (.iconst 0, 1) := by decide +kernel
theorem dL_isFenced_153 : decode cL_isFenced 153 = .ok (.istore 16, 2) := by decide +kernel
theorem dL_isFenced_155 : decode cL_isFenced 155 = .ok (.aload 8, 2) := by decide +kernel
theorem dL_isFenced_157 : decode cL_isFenced 157 = .ok (.iconst 5, 1) := by decide +kernel
theorem dL_isFenced_158 : decode cL_isFenced 158 = .ok (.iconst 0, 1) := by decide +kernel
theorem dL_isFenced_159 : decode cL_isFenced 159 = .ok (.iastore, 1) := by decide +kernel
theorem dL_isFenced_160 : decode cL_isFenced 160 = .ok (.aload 8, 2) := by decide +kernel
theorem dL_isFenced_162 : decode cL_isFenced 162 = .ok (.bipush 6, 2) := by decide +kernel
theorem dL_isFenced_164 : decode cL_isFenced 164 = .ok (.iconst 0, 1) := by decide +kernel
theorem dL_isFenced_165 : decode cL_isFenced 165 = .ok (.iastore, 1) := by decide +kernel
theorem dL_isFenced_166 : decode cL_isFenced 166 = .ok (.iconst 0, 1) := by decide +kernel
theorem dL_isFenced_167 : decode cL_isFenced 167 = .ok (.istore 17, 2) := by decide +kernel
theorem dL_isFenced_169 : decode cL_isFenced 169 = .ok (.iload 17, 2) := by decide +kernel
theorem dL_isFenced_171 : decode cL_isFenced 171 = .ok (.iload 13, 2) := by decide +kernel
theorem dL_isFenced_173 : decode cL_isFenced 173 = .ok (.if_icmp .ge 138, 3) := by decide +kernel
theorem dL_isFenced_176 : decode cL_isFenced 176 = .ok (.iload 16, 2) := by decide +kernel
theorem dL_isFenced_178 : decode cL_isFenced 178 = .ok (.ifCond .eq 133, 3) := by decide +kernel
theorem dL_isFenced_181 : decode cL_isFenced 181 = .ok (.aload 9, 2) := by decide +kernel
theorem dL_isFenced_183 : decode cL_isFenced 183 = .ok (.iload 10, 2) := by decide +kernel
theorem dL_isFenced_185 : decode cL_isFenced 185 = .ok (.iload 17, 2) := by decide +kernel
theorem dL_isFenced_187 : decode cL_isFenced 187 = .ok (.iadd, 1) := by decide +kernel
theorem dL_isFenced_188 : decode cL_isFenced 188 = .ok (.ldc 162, 2) := by decide +kernel
theorem dL_isFenced_190 : decode cL_isFenced 190 = .ok (.invokestatic 163, 3) := by decide +kernel
theorem dL_isFenced_193 : decode cL_isFenced 193 = .ok (.istore 18, 2) := by decide +kernel
theorem dL_isFenced_195 : decode cL_isFenced 195 = .ok (.aload 5, 2) := by decide +kernel
theorem dL_isFenced_197 : decode cL_isFenced 197 = .ok (.iload 17, 2) := by decide +kernel
theorem dL_isFenced_199 : decode cL_isFenced 199 = .ok (.iload 18, 2) := by decide +kernel
theorem dL_isFenced_201 : decode cL_isFenced 201 = .ok (.bipush 9, 2) := by decide +kernel
theorem dL_isFenced_203 : decode cL_isFenced 203 = .ok (.irem, 1) := by decide +kernel
theorem dL_isFenced_204 : decode cL_isFenced 204 = .ok (.bipush 7, 2) := by decide +kernel
theorem dL_isFenced_206 : decode cL_isFenced 206 = .ok (.if_icmp .ge 11, 3) := by decide +kernel
theorem dL_isFenced_209 : decode cL_isFenced 209 = .ok (.iload 18, 2) := by decide +kernel
theorem dL_isFenced_211 : decode cL_isFenced 211 = .ok (.bipush 9, 2) := by decide +kernel
theorem dL_isFenced_213 : decode cL_isFenced 213 = .ok (.irem, 1) := by decide +kernel
theorem dL_isFenced_214 : decode cL_isFenced 214 = .ok (.goto 15, 3) := by decide +kernel
theorem dL_isFenced_217 : decode cL_isFenced 217 = .ok (.iload 18, 2) := by decide +kernel
theorem dL_isFenced_219 : decode cL_isFenced 219 = .ok (.iconst 2, 1) := by decide +kernel
theorem dL_isFenced_220 : decode cL_isFenced 220 = .ok (.irem, 1) := by decide +kernel
theorem dL_isFenced_221 : decode cL_isFenced 221 = .ok (.ifCond .ne 7, 3) := by decide +kernel
theorem dL_isFenced_224 : decode cL_isFenced 224 = .ok (.iconst 1, 1) := by decide +kernel
theorem dL_isFenced_225 : decode cL_isFenced 225 = .ok (.goto 4, 3) := by decide +kernel
theorem dL_isFenced_228 : decode cL_isFenced 228 = .ok (.iconst 3, 1) := by decide +kernel
theorem dL_isFenced_229 : decode cL_isFenced 229 = .ok (.iastore, 1) := by decide +kernel
theorem dL_isFenced_230 : decode cL_isFenced 230 = .ok (.iload 14, 2) := by decide +kernel
theorem dL_isFenced_232 : decode cL_isFenced 232 = .ok (.iload 18, 2) := by decide +kernel
theorem dL_isFenced_234 : decode cL_isFenced 234 = .ok (.bipush 9, 2) := by decide +kernel
theorem dL_isFenced_236 : decode cL_isFenced 236 = .ok (.idiv, 1) := by decide +kernel
theorem dL_isFenced_237 : decode cL_isFenced 237 = .ok (.iconst 4, 1) := by decide +kernel
theorem dL_isFenced_238 : decode cL_isFenced 238 = .ok (.irem, 1) := by decide +kernel
theorem dL_isFenced_239 : decode cL_isFenced 239 = .ok (.ifCond .ne 15, 3) := by decide +kernel
theorem dL_isFenced_242 : decode cL_isFenced 242 = .ok (.iload 18, 2) := by decide +kernel
theorem dL_isFenced_244 : decode cL_isFenced 244 = .ok (.bipush 36, 2) := by decide +kernel
theorem dL_isFenced_246 : decode cL_isFenced 246 = .ok (.idiv, 1) := by decide +kernel
theorem dL_isFenced_247 : decode cL_isFenced 247 = .ok (.sipush 400, 3) := by decide +kernel
theorem dL_isFenced_250 : decode cL_isFenced 250 = .ok (.irem, 1) := by decide +kernel
theorem dL_isFenced_251 : decode cL_isFenced 251 = .ok (.goto 11, 3) := by decide +kernel
theorem dL_isFenced_254 : decode cL_isFenced 254 = .ok (.iload 18, 2) := by decide +kernel
theorem dL_isFenced_256 : decode cL_isFenced 256 = .ok (.bipush 36, 2) := by decide +kernel
theorem dL_isFenced_258 : decode cL_isFenced 258 = .ok (.idiv, 1) := by decide +kernel
theorem dL_isFenced_259 : decode cL_isFenced 259 = .ok (.bipush 45, 2) := by decide +kernel
theorem dL_isFenced_261 : decode cL_isFenced 261 = .ok (.irem, 1) := by decide +kernel
theorem dL_isFenced_262 : decode cL_isFenced 262 = .ok (.iadd, 1) := by decide +kernel
theorem dL_isFenced_263 : decode cL_isFenced 263 = .ok (.istore 14, 2) := by decide +kernel
theorem dL_isFenced_265 : decode cL_isFenced 265 = .ok (.aload 6, 2) := by decide +kernel
theorem dL_isFenced_267 : decode cL_isFenced 267 = .ok (.iload 17, 2) := by decide +kernel
theorem dL_isFenced_269 : decode cL_isFenced 269 = .ok (.iload 14, 2) := by decide +kernel
theorem dL_isFenced_271 : decode cL_isFenced 271 = .ok (.iastore, 1) := by decide +kernel
theorem dL_isFenced_272 : decode cL_isFenced 272 = .ok (.aload 8, 2) := by decide +kernel
theorem dL_isFenced_274 : decode cL_isFenced 274 = .ok (.iconst 5, 1) := by decide +kernel
theorem dL_isFenced_275 : decode cL_isFenced 275 = .ok (.dup2, 1) := by decide +kernel
theorem dL_isFenced_276 : decode cL_isFenced 276 = .ok (.iaload, 1) := by decide +kernel
theorem dL_isFenced_277 : decode cL_isFenced 277 = .ok (.iconst 1, 1) := by decide +kernel
theorem dL_isFenced_278 : decode cL_isFenced 278 = .ok (.iadd, 1) := by decide +kernel
theorem dL_isFenced_279 : decode cL_isFenced 279 = .ok (.iastore, 1) := by decide +kernel
theorem dL_isFenced_280 : decode cL_isFenced 280 = .ok (.aload_n 0, 1) := by decide +kernel
theorem dL_isFenced_281 : decode cL_isFenced 281 = .ok (.aload 5, 2) := by decide +kernel
theorem dL_isFenced_283 : decode cL_isFenced 283 = .ok (.iload 17, 2) := by decide +kernel
theorem dL_isFenced_285 : decode cL_isFenced 285 = .ok (.iaload, 1) := by decide +kernel
theorem dL_isFenced_286 : decode cL_isFenced 286 = .ok (.iload 14, 2) := by decide +kernel
theorem dL_isFenced_288 : decode cL_isFenced 288 = .ok (.invokestatic 158, 3) := by decide +kernel
theorem dL_isFenced_291 : decode cL_isFenced 291 = .ok (.aload 8, 2) := by decide +kernel
theorem dL_isFenced_293 : decode cL_isFenced 293 = .ok (.iconst 5, 1) := by decide +kernel
theorem dL_isFenced_294 : decode cL_isFenced 294 = .ok (.iaload, 1) := by decide +kernel
theorem dL_isFenced_295 : decode cL_isFenced 295 = .ok (.if_icmp .ne 7, 3) := by decide +kernel
theorem dL_isFenced_298 : decode cL_isFenced 298 = .ok (.iconst 1, 1) := by decide +kernel
theorem dL_isFenced_299 : decode cL_isFenced 299 = .ok (.goto 4, 3) := by decide +kernel
theorem dL_isFenced_302 : decode cL_isFenced 302 = .ok (.iconst 0, 1) := by decide +kernel
theorem dL_isFenced_303 : decode cL_isFenced 303 = .ok (.istore 16, 2) := by decide +kernel
theorem dL_isFenced_305 : decode cL_isFenced 305 = .ok (.iinc 17 1, 3) := by decide +kernel
theorem dL_isFenced_308 : decode cL_isFenced 308 = .ok (.goto (-139), 3) := by decide +kernel
theorem dL_isFenced_311 : decode cL_isFenced 311 = .ok (.iload 16, 2) := by decide +kernel
theorem dL_isFenced_313 : decode cL_isFenced 313 = .ok (.ifCond .eq 44, 3) := by decide +kernel
theorem dL_isFenced_316 : decode cL_isFenced 316 = .ok (.aload_n 0, 1) := by decide +kernel
theorem dL_isFenced_317 : decode cL_isFenced 317 = .ok (.invokevirtual 53, 3) := by decide +kernel
theorem dL_isFenced_320 : decode cL_isFenced 320 = .ok (.ifCond .eq 37, 3) := by decide +kernel
theorem dL_isFenced_323 : decode cL_isFenced 323 = .ok (.aload_n 0, 1) := by decide +kernel
theorem dL_isFenced_324 : decode cL_isFenced 324 = .ok (.invokestatic 152, 3) := by decide +kernel
theorem dL_isFenced_327 : decode cL_isFenced 327 = .ok (.bipush (-7), 2) := by decide +kernel
theorem dL_isFenced_329 : decode cL_isFenced 329 = .ok (.if_icmp .ne 28, 3) := by decide +kernel
theorem dL_isFenced_332 : decode cL_isFenced 332 = .ok (.aload 8, 2) := by decide +kernel
theorem dL_isFenced_334 : decode cL_isFenced 334 = .ok (.iconst 0, 1) := by decide +kernel
theorem dL_isFenced_335 : decode cL_isFenced 335 = .ok (.iaload, 1) := by decide +kernel
theorem dL_isFenced_336 : decode cL_isFenced 336 = .ok (.ifCond .eq 17, 3) := by decide +kernel
theorem dL_isFenced_339 : decode cL_isFenced 339 = .ok (.aload_n 0, 1) := by decide +kernel
theorem dL_isFenced_340 : decode cL_isFenced 340 = .ok (.iconst 0, 1) := by decide +kernel
theorem dL_isFenced_341 : decode cL_isFenced 341 = .ok (.sipush 600, 3) := by decide +kernel
theorem dL_isFenced_344 : decode cL_isFenced 344 = .ok (.iconst 1, 1) := by decide +kernel
theorem dL_isFenced_345 : decode cL_isFenced 345 = .ok (.invokestatic 166, 3) := by decide +kernel
theorem dL_isFenced_348 : decode cL_isFenced 348 = .ok (.bipush (-7), 2) := by decide +kernel
theorem dL_isFenced_350 : decode cL_isFenced 350 = .ok (.if_icmp .ne 7, 3) := by decide +kernel
theorem dL_isFenced_353 : decode cL_isFenced 353 = .ok (.iconst 1, 1) := by decide +kernel
theorem dL_isFenced_354 : decode cL_isFenced 354 = .ok (.goto 4, 3) := by decide +kernel
theorem dL_isFenced_357 : decode cL_isFenced 357 = .ok (.iconst 0, 1) := by decide +kernel
theorem dL_isFenced_358 : decode cL_isFenced 358 = .ok (.istore 16, 2) := by decide +kernel
theorem dL_isFenced_360 : decode cL_isFenced 360 = .ok (.aload_n 3, 1) := by decide +kernel
theorem dL_isFenced_361 : decode cL_isFenced 361 = .ok (.iload 15, 2) := by decide +kernel
theorem dL_isFenced_363 : decode cL_isFenced 363 = .ok (.iaload, 1) := by decide +kernel
theorem dL_isFenced_364 : decode cL_isFenced 364 = .ok (.istore 17, 2) := by decide +kernel
theorem dL_isFenced_366 : decode cL_isFenced 366 = .ok (.iconst 3, 1) := by decide +kernel
theorem dL_isFenced_367 : decode cL_isFenced 367 = .ok (.istore 18, 2) := by decide +kernel
theorem dL_isFenced_369 : decode cL_isFenced 369 = .ok (.aload 5, 2) := by decide +kernel
theorem dL_isFenced_371 : decode cL_isFenced 371 = .ok (.aload 6, 2) := by decide +kernel
theorem dL_isFenced_373 : decode cL_isFenced 373 = .ok (.aload 8, 2) := by decide +kernel
theorem dL_isFenced_375 : decode cL_isFenced 375 = .ok (.iconst (-1), 1) := by decide +kernel
theorem dL_isFenced_376 : decode cL_isFenced 376 = .ok (.invokestatic 169, 3) := by decide +kernel
theorem dL_isFenced_379 : decode cL_isFenced 379 = .ok (.istore 19, 2) := by decide +kernel
theorem dL_isFenced_381 : decode cL_isFenced 381 = .ok (.aload 5, 2) := by decide +kernel
theorem dL_isFenced_383 : decode cL_isFenced 383 = .ok (.aload 6, 2) := by decide +kernel
theorem dL_isFenced_385 : decode cL_isFenced 385 = .ok (.aload 8, 2) := by decide +kernel
theorem dL_isFenced_387 : decode cL_isFenced 387 = .ok (.iconst 0, 1) := by decide +kernel
theorem dL_isFenced_388 : decode cL_isFenced 388 = .ok (.invokestatic 169, 3) := by decide +kernel
theorem dL_isFenced_391 : decode cL_isFenced 391 = .ok (.istore 20, 2) := by decide +kernel
theorem dL_isFenced_393 : decode cL_isFenced 393 = .ok (.aload 5, 2) := by decide +kernel
theorem dL_isFenced_395 : decode cL_isFenced 395 = .ok (.aload 6, 2) := by decide +kernel
theorem dL_isFenced_397 : decode cL_isFenced 397 = .ok (.aload 8, 2) := by decide +kernel
theorem dL_isFenced_399 : decode cL_isFenced 399 = .ok (.iconst 1, 1) := by decide +kernel
theorem dL_isFenced_400 : decode cL_isFenced 400 = .ok (.invokestatic 169, 3) := by decide +kernel
theorem dL_isFenced_403 : decode cL_isFenced 403 = .ok (.istore 21, 2) := by decide +kernel
theorem dL_isFenced_405 : decode cL_isFenced 405 = .ok (.aload 5, 2) := by decide +kernel
theorem dL_isFenced_407 : decode cL_isFenced 407 = .ok (.aload 6, 2) := by decide +kernel
theorem dL_isFenced_409 : decode cL_isFenced 409 = .ok (.aload 8, 2) := by decide +kernel
theorem dL_isFenced_411 : decode cL_isFenced 411 = .ok (.bipush (-2), 2) := by decide +kernel
theorem dL_isFenced_413 : decode cL_isFenced 413 = .ok (.invokestatic 169, 3) := by decide +kernel
theorem dL_isFenced_416 : decode cL_isFenced 416 = .ok (.istore 22, 2) := by decide +kernel
theorem dL_isFenced_418 : decode cL_isFenced 418 = .ok (.iload 22, 2) := by decide +kernel
theorem dL_isFenced_420 : decode cL_isFenced 420 = .ok (.iload 19, 2) := by decide +kernel
theorem dL_isFenced_422 : decode cL_isFenced 422 = .ok (.if_icmp .ne 7, 3) := by decide +kernel
theorem dL_isFenced_425 : decode cL_isFenced 425 = .ok (.iconst 0, 1) := by decide +kernel
theorem dL_isFenced_426 : decode cL_isFenced 426 = .ok (.goto 15, 3) := by decide +kernel
theorem dL_isFenced_429 : decode cL_isFenced 429 = .ok (.iload 22, 2) := by decide +kernel
theorem dL_isFenced_431 : decode cL_isFenced 431 = .ok (.iload 20, 2) := by decide +kernel
theorem dL_isFenced_433 : decode cL_isFenced 433 = .ok (.if_icmp .ne 7, 3) := by decide +kernel
theorem dL_isFenced_436 : decode cL_isFenced 436 = .ok (.iconst 1, 1) := by decide +kernel
theorem dL_isFenced_437 : decode cL_isFenced 437 = .ok (.goto 4, 3) := by decide +kernel
theorem dL_isFenced_440 : decode cL_isFenced 440 = .ok (.iconst 2, 1) := by decide +kernel
theorem dL_isFenced_441 : decode cL_isFenced 441 = .ok (.istore 18, 2) := by decide +kernel
theorem dL_isFenced_443 : decode cL_isFenced 443 = .ok (.aload 8, 2) := by decide +kernel
theorem dL_isFenced_445 : decode cL_isFenced 445 = .ok (.iconst 2, 1) := by decide +kernel
theorem dL_isFenced_446 : decode cL_isFenced 446 = .ok (.iaload, 1) := by decide +kernel
theorem dL_isFenced_447 : decode cL_isFenced 447 = .ok (.i2l, 1) := by decide +kernel
theorem dL_isFenced_448 : decode cL_isFenced 448 = .ok (.ldc2_w 173, 3) := by decide +kernel
theorem dL_isFenced_451 : decode cL_isFenced 451 = .ok (.aload 8, 2) := by decide +kernel
theorem dL_isFenced_453 : decode cL_isFenced 453 = .ok (.iconst 3, 1) := by decide +kernel
theorem dL_isFenced_454 : decode cL_isFenced 454 = .ok (.iaload, 1) := by decide +kernel
theorem dL_isFenced_455 : decode cL_isFenced 455 = .ok (.i2l, 1) := by decide +kernel
theorem dL_isFenced_456 : decode cL_isFenced 456 = .ok (.lmul, 1) := by decide +kernel
theorem dL_isFenced_457 : decode cL_isFenced 457 = .ok (.ladd, 1) := by decide +kernel
theorem dL_isFenced_458 : decode cL_isFenced 458 = .ok (.ldc2_w 175, 3) := by decide +kernel
theorem dL_isFenced_461 : decode cL_isFenced 461 = .ok (.iload 19, 2) := by decide +kernel
theorem dL_isFenced_463 : decode cL_isFenced 463 = .ok (.i2l, 1) := by decide +kernel
theorem dL_isFenced_464 : decode cL_isFenced 464 = .ok (.lmul, 1) := by decide +kernel
theorem dL_isFenced_465 : decode cL_isFenced 465 = .ok (.ladd, 1) := by decide +kernel
theorem dL_isFenced_466 : decode cL_isFenced 466 = .ok (.ldc2_w 177, 3) := by decide +kernel
theorem dL_isFenced_469 : decode cL_isFenced 469 = .ok (.iload 20, 2) := by decide +kernel
theorem dL_isFenced_471 : decode cL_isFenced 471 = .ok (.i2l, 1) := by decide +kernel
theorem dL_isFenced_472 : decode cL_isFenced 472 = .ok (.lmul, 1) := by decide +kernel
theorem dL_isFenced_473 : decode cL_isFenced 473 = .ok (.ladd, 1) := by decide +kernel
theorem dL_isFenced_474 : decode cL_isFenced 474 = .ok (.ldc2_w 179, 3) := by decide +kernel
theorem dL_isFenced_477 : decode cL_isFenced 477 = .ok (.iload 21, 2) := by decide +kernel
theorem dL_isFenced_479 : decode cL_isFenced 479 = .ok (.i2l, 1) := by decide +kernel
theorem dL_isFenced_480 : decode cL_isFenced 480 = .ok (.lmul, 1) := by decide +kernel
theorem dL_isFenced_481 : decode cL_isFenced 481 = .ok (.ladd, 1) := by decide +kernel
theorem dL_isFenced_482 : decode cL_isFenced 482 = .ok (.ldc2_w 181, 3) := by decide +kernel
theorem dL_isFenced_485 : decode cL_isFenced 485 = .ok (.iload 18, 2) := by decide +kernel
theorem dL_isFenced_487 : decode cL_isFenced 487 = .ok (.i2l, 1) := by decide +kernel
theorem dL_isFenced_488 : decode cL_isFenced 488 = .ok (.lmul, 1) := by decide +kernel
theorem dL_isFenced_489 : decode cL_isFenced 489 = .ok (.ladd, 1) := by decide +kernel
theorem dL_isFenced_490 : decode cL_isFenced 490 = .ok (.lstore 23, 2) := by decide +kernel
theorem dL_isFenced_492 : decode cL_isFenced 492 = .ok (.bipush 16, 2) := by decide +kernel
theorem dL_isFenced_494 : decode cL_isFenced 494 = .ok (.iload 17, 2) := by decide +kernel
theorem dL_isFenced_496 : decode cL_isFenced 496 = .ok (.iconst 4, 1) := by decide +kernel
theorem dL_isFenced_497 : decode cL_isFenced 497 = .ok (.irem, 1) := by decide +kernel
theorem dL_isFenced_498 : decode cL_isFenced 498 = .ok (.imul, 1) := by decide +kernel
theorem dL_isFenced_499 : decode cL_isFenced 499 = .ok (.istore 25, 2) := by decide +kernel
theorem dL_isFenced_501 : decode cL_isFenced 501 = .ok (.aload_n 2, 1) := by decide +kernel
theorem dL_isFenced_502 : decode cL_isFenced 502 = .ok (.iconst 3, 1) := by decide +kernel
theorem dL_isFenced_503 : decode cL_isFenced 503 = .ok (.iload 15, 2) := by decide +kernel
theorem dL_isFenced_505 : decode cL_isFenced 505 = .ok (.imul, 1) := by decide +kernel
theorem dL_isFenced_506 : decode cL_isFenced 506 = .ok (.iload 17, 2) := by decide +kernel
theorem dL_isFenced_508 : decode cL_isFenced 508 = .ok (.iconst 4, 1) := by decide +kernel
theorem dL_isFenced_509 : decode cL_isFenced 509 = .ok (.idiv, 1) := by decide +kernel
theorem dL_isFenced_510 : decode cL_isFenced 510 = .ok (.iadd, 1) := by decide +kernel
theorem dL_isFenced_511 : decode cL_isFenced 511 = .ok (.aload_n 2, 1) := by decide +kernel
theorem dL_isFenced_512 : decode cL_isFenced 512 = .ok (.iconst 3, 1) := by decide +kernel
theorem dL_isFenced_513 : decode cL_isFenced 513 = .ok (.iload 15, 2) := by decide +kernel
theorem dL_isFenced_515 : decode cL_isFenced 515 = .ok (.imul, 1) := by decide +kernel
theorem dL_isFenced_516 : decode cL_isFenced 516 = .ok (.iload 17, 2) := by decide +kernel
theorem dL_isFenced_518 : decode cL_isFenced 518 = .ok (.iconst 4, 1) := by decide +kernel
theorem dL_isFenced_519 : decode cL_isFenced 519 = .ok (.idiv, 1) := by decide +kernel
theorem dL_isFenced_520 : decode cL_isFenced 520 = .ok (.iadd, 1) := by decide +kernel
theorem dL_isFenced_521 : decode cL_isFenced 521 = .ok (.laload, 1) := by decide +kernel
theorem dL_isFenced_522 : decode cL_isFenced 522 = .ok (.ldc2_w 183, 3) := by decide +kernel
theorem dL_isFenced_525 : decode cL_isFenced 525 = .ok (.iload 25, 2) := by decide +kernel
theorem dL_isFenced_527 : decode cL_isFenced 527 = .ok (.lshl, 1) := by decide +kernel
theorem dL_isFenced_528 : decode cL_isFenced 528 = .ok (.ldc2_w 185, 3) := by decide +kernel
theorem dL_isFenced_531 : decode cL_isFenced 531 = .ok (.lxor, 1) := by decide +kernel
theorem dL_isFenced_532 : decode cL_isFenced 532 = .ok (.land, 1) := by decide +kernel
theorem dL_isFenced_533 : decode cL_isFenced 533 = .ok (.lload 23, 2) := by decide +kernel
theorem dL_isFenced_535 : decode cL_isFenced 535 = .ok (.iload 25, 2) := by decide +kernel
theorem dL_isFenced_537 : decode cL_isFenced 537 = .ok (.lshl, 1) := by decide +kernel
theorem dL_isFenced_538 : decode cL_isFenced 538 = .ok (.lor, 1) := by decide +kernel
theorem dL_isFenced_539 : decode cL_isFenced 539 = .ok (.lastore, 1) := by decide +kernel
theorem dL_isFenced_540 : decode cL_isFenced 540 = .ok (.aload_n 3, 1) := by decide +kernel
theorem dL_isFenced_541 : decode cL_isFenced 541 = .ok (.iload 15, 2) := by decide +kernel
theorem dL_isFenced_543 : decode cL_isFenced 543 = .ok (.dup2, 1) := by decide +kernel
theorem dL_isFenced_544 : decode cL_isFenced 544 = .ok (.iaload, 1) := by decide +kernel
theorem dL_isFenced_545 : decode cL_isFenced 545 = .ok (.iconst 1, 1) := by decide +kernel
theorem dL_isFenced_546 : decode cL_isFenced 546 = .ok (.iadd, 1) := by decide +kernel
theorem dL_isFenced_547 : decode cL_isFenced 547 = .ok (.iastore, 1) := by decide +kernel
theorem dL_isFenced_548 : decode cL_isFenced 548 = .ok (.aload 8, 2) := by decide +kernel
theorem dL_isFenced_550 : decode cL_isFenced 550 = .ok (.bipush 6, 2) := by decide +kernel
theorem dL_isFenced_552 : decode cL_isFenced 552 = .ok (.iconst 1, 1) := by decide +kernel
theorem dL_isFenced_553 : decode cL_isFenced 553 = .ok (.iastore, 1) := by decide +kernel
theorem dL_isFenced_554 : decode cL_isFenced 554 = .ok (.iload 16, 2) := by decide +kernel
theorem dL_isFenced_556 : decode cL_isFenced 556 = .ok (.ifCond .eq 16, 3) := by decide +kernel
theorem dL_isFenced_559 : decode cL_isFenced 559 = .ok (.aload_n 0, 1) := by decide +kernel
theorem dL_isFenced_560 : decode cL_isFenced 560 = .ok (.invokestatic 155, 3) := by decide +kernel
theorem dL_isFenced_563 : decode cL_isFenced 563 = .ok (.iload 22, 2) := by decide +kernel
theorem dL_isFenced_565 : decode cL_isFenced 565 = .ok (.if_icmp .ne 7, 3) := by decide +kernel
theorem dL_isFenced_568 : decode cL_isFenced 568 = .ok (.iconst 1, 1) := by decide +kernel
theorem dL_isFenced_569 : decode cL_isFenced 569 = .ok (.goto 4, 3) := by decide +kernel
theorem dL_isFenced_572 : decode cL_isFenced 572 = .ok (.iconst 0, 1) := by decide +kernel
theorem dL_isFenced_573 : decode cL_isFenced 573 = .ok (.istore 16, 2) := by decide +kernel
theorem dL_isFenced_575 : decode cL_isFenced 575 = .ok (.aload_n 1, 1) := by decide +kernel
theorem dL_isFenced_576 : decode cL_isFenced 576 = .ok (.aload_n 2, 1) := by decide +kernel
theorem dL_isFenced_577 : decode cL_isFenced 577 = .ok (.aload_n 3, 1) := by decide +kernel
theorem dL_isFenced_578 : decode cL_isFenced 578 = .ok (.aload 4, 2) := by decide +kernel
theorem dL_isFenced_580 : decode cL_isFenced 580 = .ok (.aload 7, 2) := by decide +kernel
theorem dL_isFenced_582 : decode cL_isFenced 582 = .ok (.aload 8, 2) := by decide +kernel
theorem dL_isFenced_584 : decode cL_isFenced 584 = .ok (.invokestatic 187, 3) := by decide +kernel
theorem dL_isFenced_587 : decode cL_isFenced 587 = .ok (.iload 16, 2) := by decide +kernel
theorem dL_isFenced_589 : decode cL_isFenced 589 = .ok (.ireturn, 1) := by decide +kernel
theorem dL_isAppealed_0 : decode cL_isAppealed 0 = .ok (.iload 7, 2) := by decide +kernel
theorem dL_isAppealed_2 : decode cL_isAppealed 2 = .ok (.iconst 2, 1) := by decide +kernel
theorem dL_isAppealed_3 : decode cL_isAppealed 3 = .ok (.irem, 1) := by decide +kernel
theorem dL_isAppealed_4 : decode cL_isAppealed 4 = .ok (.istore 8, 2) := by decide +kernel
theorem dL_isAppealed_6 : decode cL_isAppealed 6 = .ok (.iload 7, 2) := by decide +kernel
theorem dL_isAppealed_8 : decode cL_isAppealed 8 = .ok (.iconst 2, 1) := by decide +kernel
theorem dL_isAppealed_9 : decode cL_isAppealed 9 = .ok (.idiv, 1) := by decide +kernel
theorem dL_isAppealed_10 : decode cL_isAppealed 10 = .ok (.iconst 3, 1) := by decide +kernel
theorem dL_isAppealed_11 : decode cL_isAppealed 11 = .ok (.irem, 1) := by decide +kernel
theorem dL_isAppealed_12 : decode cL_isAppealed 12 = .ok (.iconst 1, 1) := by decide +kernel
theorem dL_isAppealed_13 : decode cL_isAppealed 13 = .ok (.isub, 1) := by decide +kernel
theorem dL_isAppealed_14 : decode cL_isAppealed 14 = .ok (.istore 9, 2) := by decide +kernel
theorem dL_isAppealed_16 : decode cL_isAppealed 16 = .ok (.aload 6, 2) := by decide +kernel
theorem dL_isAppealed_18 : decode cL_isAppealed 18 = .ok (.iconst 1, 1) := by decide +kernel
theorem dL_isAppealed_19 : decode cL_isAppealed 19 = .ok (.iaload, 1) := by decide +kernel
theorem dL_isAppealed_20 : decode cL_isAppealed 20 = .ok (.ifCond .lt 35, 3) := by decide +kernel
theorem dL_isAppealed_23 : decode cL_isAppealed 23 = .ok (.aload 6, 2) := by decide +kernel
theorem dL_isAppealed_25 : decode cL_isAppealed 25 = .ok (.iconst 4, 1) := by decide +kernel
theorem dL_isAppealed_26 : decode cL_isAppealed 26 = .ok (.iaload, 1) := by decide +kernel
theorem dL_isAppealed_27 : decode cL_isAppealed 27 = .ok (.iconst 1, 1) := by decide +kernel
theorem dL_isAppealed_28 : decode cL_isAppealed 28 = .ok (.if_icmp .eq 27, 3) := by decide +kernel
theorem dL_isAppealed_31 : decode cL_isAppealed 31 = .ok (.aload 6, 2) := by decide +kernel
theorem dL_isAppealed_33 : decode cL_isAppealed 33 = .ok (.bipush 6, 2) := by decide +kernel
theorem dL_isAppealed_35 : decode cL_isAppealed 35 = .ok (.iaload, 1) := by decide +kernel
theorem dL_isAppealed_36 : decode cL_isAppealed 36 = .ok (.ifCond .eq 19, 3) := by decide +kernel
theorem dL_isAppealed_39 : decode cL_isAppealed 39 = .ok (.aload 4, 2) := by decide +kernel
theorem dL_isAppealed_41 : decode cL_isAppealed 41 = .ok (.iconst 2, 1) := by decide +kernel
theorem dL_isAppealed_42 : decode cL_isAppealed 42 = .ok (.aload 6, 2) := by decide +kernel
theorem dL_isAppealed_44 : decode cL_isAppealed 44 = .ok (.iconst 1, 1) := by decide +kernel
theorem dL_isAppealed_45 : decode cL_isAppealed 45 = .ok (.iaload, 1) := by decide +kernel
theorem dL_isAppealed_46 : decode cL_isAppealed 46 = .ok (.imul, 1) := by decide +kernel
theorem dL_isAppealed_47 : decode cL_isAppealed 47 = .ok (.iload 8, 2) := by decide +kernel
theorem dL_isAppealed_49 : decode cL_isAppealed 49 = .ok (.iadd, 1) := by decide +kernel
theorem dL_isAppealed_50 : decode cL_isAppealed 50 = .ok (.iaload, 1) := by decide +kernel
theorem dL_isAppealed_51 : decode cL_isAppealed 51 = .ok (.iconst 2, 1) := by decide +kernel
theorem dL_isAppealed_52 : decode cL_isAppealed 52 = .ok (.if_icmp .ne 22, 3) := by decide +kernel
theorem dL_isAppealed_55 : decode cL_isAppealed 55 = .ok (.aload_n 0, 1) := by decide +kernel
theorem dL_isAppealed_56 : decode cL_isAppealed 56 = .ok (.iload 8, 2) := by decide +kernel
theorem dL_isAppealed_58 : decode cL_isAppealed 58 = .ok (.iload 9, 2) := by decide +kernel
theorem dL_isAppealed_60 : decode cL_isAppealed 60 = .ok (.invokestatic 191, 3) := by decide +kernel
theorem dL_isAppealed_63 : decode cL_isAppealed 63 = .ok (.bipush (-7), 2) := by decide +kernel
theorem dL_isAppealed_65 : decode cL_isAppealed 65 = .ok (.if_icmp .ne 7, 3) := by decide +kernel
theorem dL_isAppealed_68 : decode cL_isAppealed 68 = .ok (.iconst 1, 1) := by decide +kernel
theorem dL_isAppealed_69 : decode cL_isAppealed 69 = .ok (.goto 4, 3) := by decide +kernel
theorem dL_isAppealed_72 : decode cL_isAppealed 72 = .ok (.iconst 0, 1) := by decide +kernel
theorem dL_isAppealed_73 : decode cL_isAppealed 73 = .ok (.ireturn, 1) := by decide +kernel
theorem dL_isAppealed_74 : decode cL_isAppealed 74 = .ok (.aload 6, 2) := by decide +kernel
theorem dL_isAppealed_76 : decode cL_isAppealed 76 = .ok (.iconst 1, 1) := by decide +kernel
theorem dL_isAppealed_77 : decode cL_isAppealed 77 = .ok (.iaload, 1) := by decide +kernel
theorem dL_isAppealed_78 : decode cL_isAppealed 78 = .ok (.istore 10, 2) := by decide +kernel
theorem dL_isAppealed_80 : decode cL_isAppealed 80 = .ok (.aload_n 3, 1) := by decide +kernel
theorem dL_isAppealed_81 : decode cL_isAppealed 81 = .ok (.iload 10, 2) := by decide +kernel
theorem dL_isAppealed_83 : decode cL_isAppealed 83 = .ok (.iaload, 1) := by decide +kernel
theorem dL_isAppealed_84 : decode cL_isAppealed 84 = .ok (.iconst 1, 1) := by decide +kernel
theorem dL_isAppealed_85 : decode cL_isAppealed 85 = .ok (.isub, 1) := by decide +kernel
theorem dL_isAppealed_86 : decode cL_isAppealed 86 = .ok (.istore 11, 2) := by decide +kernel
theorem dL_isAppealed_88 : decode cL_isAppealed 88 = .ok (.aload_n 1, 1) := by decide +kernel
theorem dL_isAppealed_89 : decode cL_isAppealed 89 = .ok (.aload_n 2, 1) := by decide +kernel
theorem dL_isAppealed_90 : decode cL_isAppealed 90 = .ok (.iload 10, 2) := by decide +kernel
theorem dL_isAppealed_92 : decode cL_isAppealed 92 = .ok (.iload 11, 2) := by decide +kernel
theorem dL_isAppealed_94 : decode cL_isAppealed 94 = .ok (.invokestatic 19, 3) := by decide +kernel
theorem dL_isAppealed_97 : decode cL_isAppealed 97 = .ok (.istore 12, 2) := by decide +kernel
theorem dL_isAppealed_99 : decode cL_isAppealed 99 = .ok (.bipush 16, 2) := by decide +kernel
theorem dL_isAppealed_101 : decode cL_isAppealed 101 = .ok (.iload 11, 2) := by decide +kernel
theorem dL_isAppealed_103 : decode cL_isAppealed 103 = .ok (.iconst 4, 1) := by decide +kernel
theorem dL_isAppealed_104 : decode cL_isAppealed 104 = .ok (.irem, 1) := by decide +kernel
theorem dL_isAppealed_105 : decode cL_isAppealed 105 = .ok (.imul, 1) := by decide +kernel
theorem dL_isAppealed_106 : decode cL_isAppealed 106 = .ok (.bipush 14, 2) := by decide +kernel
theorem dL_isAppealed_108 : decode cL_isAppealed 108 = .ok (.iadd, 1) := by decide +kernel
theorem dL_isAppealed_109 : decode cL_isAppealed 109 = .ok (.istore 13, 2) := by decide +kernel
theorem dL_isAppealed_111 : decode cL_isAppealed 111 = .ok (.aload_n 2, 1) := by decide +kernel
theorem dL_isAppealed_112 : decode cL_isAppealed 112 = .ok (.iconst 3, 1) := by decide +kernel
theorem dL_isAppealed_113 : decode cL_isAppealed 113 = .ok (.iload 10, 2) := by decide +kernel
theorem dL_isAppealed_115 : decode cL_isAppealed 115 = .ok (.imul, 1) := by decide +kernel
theorem dL_isAppealed_116 : decode cL_isAppealed 116 = .ok (.iload 11, 2) := by decide +kernel
theorem dL_isAppealed_118 : decode cL_isAppealed 118 = .ok (.iconst 4, 1) := by decide +kernel
theorem dL_isAppealed_119 : decode cL_isAppealed 119 = .ok (.idiv, 1) := by decide +kernel
theorem dL_isAppealed_120 : decode cL_isAppealed 120 = .ok (.iadd, 1) := by decide +kernel
theorem dL_isAppealed_121 : decode cL_isAppealed 121 = .ok (.aload_n 2, 1) := by decide +kernel
theorem dL_isAppealed_122 : decode cL_isAppealed 122 = .ok (.iconst 3, 1) := by decide +kernel
theorem dL_isAppealed_123 : decode cL_isAppealed 123 = .ok (.iload 10, 2) := by decide +kernel
theorem dL_isAppealed_125 : decode cL_isAppealed 125 = .ok (.imul, 1) := by decide +kernel
theorem dL_isAppealed_126 : decode cL_isAppealed 126 = .ok (.iload 11, 2) := by decide +kernel
theorem dL_isAppealed_128 : decode cL_isAppealed 128 = .ok (.iconst 4, 1) := by decide +kernel
theorem dL_isAppealed_129 : decode cL_isAppealed 129 = .ok (.idiv, 1) := by decide +kernel
theorem dL_isAppealed_130 : decode cL_isAppealed 130 = .ok (.iadd, 1) := by decide +kernel
theorem dL_isAppealed_131 : decode cL_isAppealed 131 = .ok (.laload, 1) := by decide +kernel
theorem dL_isAppealed_132 : decode cL_isAppealed 132 = .ok (.ldc2_w 194, 3) := by decide +kernel
theorem dL_isAppealed_135 : decode cL_isAppealed 135 = .ok (.iload 13, 2) := by decide +kernel
theorem dL_isAppealed_137 : decode cL_isAppealed 137 = .ok (.lshl, 1) := by decide +kernel
theorem dL_isAppealed_138 : decode cL_isAppealed 138 = .ok (.ldc2_w 185, 3) := by decide +kernel
theorem dL_isAppealed_141 : decode cL_isAppealed 141 = .ok (.lxor, 1) := by decide +kernel
theorem dL_isAppealed_142 : decode cL_isAppealed 142 = .ok (.land, 1) := by decide +kernel
theorem dL_isAppealed_143 : decode cL_isAppealed 143 = .ok (.iload 9, 2) := by decide +kernel
theorem dL_isAppealed_145 : decode cL_isAppealed 145 = .ok (.iconst 1, 1) := by decide +kernel
theorem dL_isAppealed_146 : decode cL_isAppealed 146 = .ok (.iadd, 1) := by decide +kernel
theorem dL_isAppealed_147 : decode cL_isAppealed 147 = .ok (.i2l, 1) := by decide +kernel
theorem dL_isAppealed_148 : decode cL_isAppealed 148 = .ok (.iload 13, 2) := by decide +kernel
theorem dL_isAppealed_150 : decode cL_isAppealed 150 = .ok (.lshl, 1) := by decide +kernel
theorem dL_isAppealed_151 : decode cL_isAppealed 151 = .ok (.lor, 1) := by decide +kernel
theorem dL_isAppealed_152 : decode cL_isAppealed 152 = .ok (.lastore, 1) := by decide +kernel
theorem dL_isAppealed_153 : decode cL_isAppealed 153 = .ok (.aload_n 1, 1) := by decide +kernel
theorem dL_isAppealed_154 : decode cL_isAppealed 154 = .ok (.aload_n 2, 1) := by decide +kernel
theorem dL_isAppealed_155 : decode cL_isAppealed 155 = .ok (.iload 10, 2) := by decide +kernel
theorem dL_isAppealed_157 : decode cL_isAppealed 157 = .ok (.iload 11, 2) := by decide +kernel
theorem dL_isAppealed_159 : decode cL_isAppealed 159 = .ok (.invokestatic 19, 3) := by decide +kernel
theorem dL_isAppealed_162 : decode cL_isAppealed 162 = .ok (.istore 14, 2) := by decide +kernel
theorem dL_isAppealed_164 : decode cL_isAppealed 164 = .ok (.aload 4, 2) := by decide +kernel
theorem dL_isAppealed_166 : decode cL_isAppealed 166 = .ok (.iconst 2, 1) := by decide +kernel
theorem dL_isAppealed_167 : decode cL_isAppealed 167 = .ok (.iload 10, 2) := by decide +kernel
theorem dL_isAppealed_169 : decode cL_isAppealed 169 = .ok (.imul, 1) := by decide +kernel
theorem dL_isAppealed_170 : decode cL_isAppealed 170 = .ok (.iload 8, 2) := by decide +kernel
theorem dL_isAppealed_172 : decode cL_isAppealed 172 = .ok (.iadd, 1) := by decide +kernel
theorem dL_isAppealed_173 : decode cL_isAppealed 173 = .ok (.dup2, 1) := by decide +kernel
theorem dL_isAppealed_174 : decode cL_isAppealed 174 = .ok (.iaload, 1) := by decide +kernel
theorem dL_isAppealed_175 : decode cL_isAppealed 175 = .ok (.iload 14, 2) := by decide +kernel
theorem dL_isAppealed_177 : decode cL_isAppealed 177 = .ok (.iload 12, 2) := by decide +kernel
theorem dL_isAppealed_179 : decode cL_isAppealed 179 = .ok (.if_icmp .ne 7, 3) := by decide +kernel
theorem dL_isAppealed_182 : decode cL_isAppealed 182 = .ok (.iconst 1, 1) := by decide +kernel
theorem dL_isAppealed_183 : decode cL_isAppealed 183 = .ok (.goto 4, 3) := by decide +kernel
theorem dL_isAppealed_186 : decode cL_isAppealed 186 = .ok (.iconst 0, 1) := by decide +kernel
theorem dL_isAppealed_187 : decode cL_isAppealed 187 = .ok (.iadd, 1) := by decide +kernel
theorem dL_isAppealed_188 : decode cL_isAppealed 188 = .ok (.iastore, 1) := by decide +kernel
theorem dL_isAppealed_189 : decode cL_isAppealed 189 = .ok (.aload_n 1, 1) := by decide +kernel
theorem dL_isAppealed_190 : decode cL_isAppealed 190 = .ok (.aload_n 2, 1) := by decide +kernel
theorem dL_isAppealed_191 : decode cL_isAppealed 191 = .ok (.aload_n 3, 1) := by decide +kernel
theorem dL_isAppealed_192 : decode cL_isAppealed 192 = .ok (.aload 4, 2) := by decide +kernel
theorem dL_isAppealed_194 : decode cL_isAppealed 194 = .ok (.aload 5, 2) := by decide +kernel
theorem dL_isAppealed_196 : decode cL_isAppealed 196 = .ok (.aload 6, 2) := by decide +kernel
theorem dL_isAppealed_198 : decode cL_isAppealed 198 = .ok (.invokestatic 187, 3) := by decide +kernel
theorem dL_isAppealed_201 : decode cL_isAppealed 201 = .ok (.aload_n 0, 1) := by decide +kernel
theorem dL_isAppealed_202 : decode cL_isAppealed 202 = .ok (.iload 8, 2) := by decide +kernel
theorem dL_isAppealed_204 : decode cL_isAppealed 204 = .ok (.iload 9, 2) := by decide +kernel
theorem dL_isAppealed_206 : decode cL_isAppealed 206 = .ok (.invokestatic 191, 3) := by decide +kernel
theorem dL_isAppealed_209 : decode cL_isAppealed 209 = .ok (.iload 14, 2) := by decide +kernel
theorem dL_isAppealed_211 : decode cL_isAppealed 211 = .ok (.if_icmp .ne 7, 3) := by decide +kernel
theorem dL_isAppealed_214 : decode cL_isAppealed 214 = .ok (.iconst 1, 1) := by decide +kernel
theorem dL_isAppealed_215 : decode cL_isAppealed 215 = .ok (.goto 4, 3) := by decide +kernel
theorem dL_isAppealed_218 : decode cL_isAppealed 218 = .ok (.iconst 0, 1) := by decide +kernel
theorem dL_isAppealed_219 : decode cL_isAppealed 219 = .ok (.ireturn, 1) := by decide +kernel
theorem dL_acts_0 : decode cL_acts 0 = .ok (.iload 11, 2) := by decide +kernel
theorem dL_acts_2 : decode cL_acts 2 = .ok (.iconst 4, 1) := by decide +kernel
theorem dL_acts_3 : decode cL_acts 3 = .ok (.if_icmp .ge 17, 3) := by decide +kernel
theorem dL_acts_6 : decode cL_acts 6 = .ok (.aload_n 0, 1) := by decide +kernel
theorem dL_acts_7 : decode cL_acts 7 = .ok (.aload_n 1, 1) := by decide +kernel
theorem dL_acts_8 : decode cL_acts 8 = .ok (.aload_n 2, 1) := by decide +kernel
theorem dL_acts_9 : decode cL_acts 9 = .ok (.aload_n 3, 1) := by decide +kernel
theorem dL_acts_10 : decode cL_acts 10 = .ok (.aload 7, 2) := by decide +kernel
theorem dL_acts_12 : decode cL_acts 12 = .ok (.aload 8, 2) := by decide +kernel
theorem dL_acts_14 : decode cL_acts 14 = .ok (.iload 12, 2) := by decide +kernel
theorem dL_acts_16 : decode cL_acts 16 = .ok (.invokestatic 196, 3) := by decide +kernel
theorem dL_acts_19 : decode cL_acts 19 = .ok (.ireturn, 1) := by decide +kernel
theorem dL_acts_20 : decode cL_acts 20 = .ok (.iload 11, 2) := by decide +kernel
theorem dL_acts_22 : decode cL_acts 22 = .ok (.bipush 14, 2) := by decide +kernel
theorem dL_acts_24 : decode cL_acts 24 = .ok (.if_icmp .ge 81, 3) := by decide +kernel
theorem dL_acts_27 : decode cL_acts 27 = .ok (.aload_n 0, 1) := by decide +kernel
theorem dL_acts_28 : decode cL_acts 28 = .ok (.aload_n 1, 1) := by decide +kernel
theorem dL_acts_29 : decode cL_acts 29 = .ok (.aload_n 2, 1) := by decide +kernel
theorem dL_acts_30 : decode cL_acts 30 = .ok (.aload_n 3, 1) := by decide +kernel
theorem dL_acts_31 : decode cL_acts 31 = .ok (.aload 4, 2) := by decide +kernel
theorem dL_acts_33 : decode cL_acts 33 = .ok (.aload 5, 2) := by decide +kernel
theorem dL_acts_35 : decode cL_acts 35 = .ok (.aload 6, 2) := by decide +kernel
theorem dL_acts_37 : decode cL_acts 37 = .ok (.aload 7, 2) := by decide +kernel
theorem dL_acts_39 : decode cL_acts 39 = .ok (.aload 8, 2) := by decide +kernel
theorem dL_acts_41 : decode cL_acts 41 = .ok (.aload 9, 2) := by decide +kernel
theorem dL_acts_43 : decode cL_acts 43 = .ok (.iload 10, 2) := by decide +kernel
theorem dL_acts_45 : decode cL_acts 45 = .ok (.iload 12, 2) := by decide +kernel
theorem dL_acts_47 : decode cL_acts 47 = .ok (.invokestatic 200, 3) := by decide +kernel
theorem dL_acts_50 : decode cL_acts 50 = .ok (.ifCond .eq 53, 3) := by decide +kernel
theorem dL_acts_53 : decode cL_acts 53 = .ok (.aload 8, 2) := by decide +kernel
theorem dL_acts_55 : decode cL_acts 55 = .ok (.iconst 1, 1) := by decide +kernel
theorem dL_acts_56 : decode cL_acts 56 = .ok (.iaload, 1) := by decide +kernel
theorem dL_acts_57 : decode cL_acts 57 = .ok (.ifCond .lt 42, 3) := by decide +kernel
theorem dL_acts_60 : decode cL_acts 60 = .ok (.aload_n 1, 1) := by decide +kernel
theorem dL_acts_61 : decode cL_acts 61 = .ok (.aload_n 2, 1) := by decide +kernel
theorem dL_acts_62 : decode cL_acts 62 = .ok (.aload_n 3, 1) := by decide +kernel
theorem dL_acts_63 : decode cL_acts 63 = .ok (.aload 8, 2) := by decide +kernel
theorem dL_acts_65 : decode cL_acts 65 = .ok (.iconst 1, 1) := by decide +kernel
theorem dL_acts_66 : decode cL_acts 66 = .ok (.iaload, 1) := by decide +kernel
theorem dL_acts_67 : decode cL_acts 67 = .ok (.invokestatic 23, 3) := by decide +kernel
theorem dL_acts_70 : decode cL_acts 70 = .ok (.bipush 100, 2) := by decide +kernel
theorem dL_acts_72 : decode cL_acts 72 = .ok (.if_icmp .lt 27, 3) := by decide +kernel
theorem dL_acts_75 : decode cL_acts 75 = .ok (.aload_n 0, 1) := by decide +kernel
theorem dL_acts_76 : decode cL_acts 76 = .ok (.aload_n 1, 1) := by decide +kernel
theorem dL_acts_77 : decode cL_acts 77 = .ok (.aload_n 2, 1) := by decide +kernel
theorem dL_acts_78 : decode cL_acts 78 = .ok (.aload_n 3, 1) := by decide +kernel
theorem dL_acts_79 : decode cL_acts 79 = .ok (.aload 7, 2) := by decide +kernel
theorem dL_acts_81 : decode cL_acts 81 = .ok (.aload 8, 2) := by decide +kernel
theorem dL_acts_83 : decode cL_acts 83 = .ok (.iload 12, 2) := by decide +kernel
theorem dL_acts_85 : decode cL_acts 85 = .ok (.iconst 3, 1) := by decide +kernel
theorem dL_acts_86 : decode cL_acts 86 = .ok (.idiv, 1) := by decide +kernel
theorem dL_acts_87 : decode cL_acts 87 = .ok (.bipush 45, 2) := by decide +kernel
theorem dL_acts_89 : decode cL_acts 89 = .ok (.imul, 1) := by decide +kernel
theorem dL_acts_90 : decode cL_acts 90 = .ok (.bipush 9, 2) := by decide +kernel
theorem dL_acts_92 : decode cL_acts 92 = .ok (.iadd, 1) := by decide +kernel
theorem dL_acts_93 : decode cL_acts 93 = .ok (.invokestatic 196, 3) := by decide +kernel
theorem dL_acts_96 : decode cL_acts 96 = .ok (.ifCond .eq 7, 3) := by decide +kernel
theorem dL_acts_99 : decode cL_acts 99 = .ok (.iconst 1, 1) := by decide +kernel
theorem dL_acts_100 : decode cL_acts 100 = .ok (.goto 4, 3) := by decide +kernel
theorem dL_acts_103 : decode cL_acts 103 = .ok (.iconst 0, 1) := by decide +kernel
theorem dL_acts_104 : decode cL_acts 104 = .ok (.ireturn, 1) := by decide +kernel
theorem dL_acts_105 : decode cL_acts 105 = .ok (.iload 11, 2) := by decide +kernel
theorem dL_acts_107 : decode cL_acts 107 = .ok (.bipush 16, 2) := by decide +kernel
theorem dL_acts_109 : decode cL_acts 109 = .ok (.if_icmp .ge 19, 3) := by decide +kernel
theorem dL_acts_112 : decode cL_acts 112 = .ok (.aload_n 0, 1) := by decide +kernel
theorem dL_acts_113 : decode cL_acts 113 = .ok (.aload_n 1, 1) := by decide +kernel
theorem dL_acts_114 : decode cL_acts 114 = .ok (.aload_n 2, 1) := by decide +kernel
theorem dL_acts_115 : decode cL_acts 115 = .ok (.aload_n 3, 1) := by decide +kernel
theorem dL_acts_116 : decode cL_acts 116 = .ok (.aload 4, 2) := by decide +kernel
theorem dL_acts_118 : decode cL_acts 118 = .ok (.aload 7, 2) := by decide +kernel
theorem dL_acts_120 : decode cL_acts 120 = .ok (.aload 8, 2) := by decide +kernel
theorem dL_acts_122 : decode cL_acts 122 = .ok (.iload 12, 2) := by decide +kernel
theorem dL_acts_124 : decode cL_acts 124 = .ok (.invokestatic 204, 3) := by decide +kernel
theorem dL_acts_127 : decode cL_acts 127 = .ok (.ireturn, 1) := by decide +kernel
theorem dL_acts_128 : decode cL_acts 128 = .ok (.iload 11, 2) := by decide +kernel
theorem dL_acts_130 : decode cL_acts 130 = .ok (.bipush 16, 2) := by decide +kernel
theorem dL_acts_132 : decode cL_acts 132 = .ok (.if_icmp .ne 224, 3) := by decide +kernel
theorem dL_acts_135 : decode cL_acts 135 = .ok (.aload 8, 2) := by decide +kernel
theorem dL_acts_137 : decode cL_acts 137 = .ok (.iconst 0, 1) := by decide +kernel
theorem dL_acts_138 : decode cL_acts 138 = .ok (.iaload, 1) := by decide +kernel
theorem dL_acts_139 : decode cL_acts 139 = .ok (.ifCond .le 217, 3) := by decide +kernel
theorem dL_acts_142 : decode cL_acts 142 = .ok (.iload 12, 2) := by decide +kernel
theorem dL_acts_144 : decode cL_acts 144 = .ok (.aload 8, 2) := by decide +kernel
theorem dL_acts_146 : decode cL_acts 146 = .ok (.iconst 0, 1) := by decide +kernel
theorem dL_acts_147 : decode cL_acts 147 = .ok (.iaload, 1) := by decide +kernel
theorem dL_acts_148 : decode cL_acts 148 = .ok (.irem, 1) := by decide +kernel
theorem dL_acts_149 : decode cL_acts 149 = .ok (.istore 13, 2) := by decide +kernel
theorem dL_acts_151 : decode cL_acts 151 = .ok (.iload 12, 2) := by decide +kernel
theorem dL_acts_153 : decode cL_acts 153 = .ok (.bipush 16, 2) := by decide +kernel
theorem dL_acts_155 : decode cL_acts 155 = .ok (.idiv, 1) := by decide +kernel
theorem dL_acts_156 : decode cL_acts 156 = .ok (.iconst 4, 1) := by decide +kernel
theorem dL_acts_157 : decode cL_acts 157 = .ok (.irem, 1) := by decide +kernel
theorem dL_acts_158 : decode cL_acts 158 = .ok (.ifCond .ne 21, 3) := by decide +kernel
theorem dL_acts_161 : decode cL_acts 161 = .ok (.sipush 499, 3) := by decide +kernel
theorem dL_acts_164 : decode cL_acts 164 = .ok (.iload 12, 2) := by decide +kernel
theorem dL_acts_166 : decode cL_acts 166 = .ok (.bipush 64, 2) := by decide +kernel
theorem dL_acts_168 : decode cL_acts 168 = .ok (.idiv, 1) := by decide +kernel
theorem dL_acts_169 : decode cL_acts 169 = .ok (.iconst 2, 1) := by decide +kernel
theorem dL_acts_170 : decode cL_acts 170 = .ok (.irem, 1) := by decide +kernel
theorem dL_acts_171 : decode cL_acts 171 = .ok (.sipush 272, 3) := by decide +kernel
theorem dL_acts_174 : decode cL_acts 174 = .ok (.imul, 1) := by decide +kernel
theorem dL_acts_175 : decode cL_acts 175 = .ok (.iadd, 1) := by decide +kernel
theorem dL_acts_176 : decode cL_acts 176 = .ok (.goto 16, 3) := by decide +kernel
theorem dL_acts_179 : decode cL_acts 179 = .ok (.sipush 500, 3) := by decide +kernel
theorem dL_acts_182 : decode cL_acts 182 = .ok (.iload 12, 2) := by decide +kernel
theorem dL_acts_184 : decode cL_acts 184 = .ok (.bipush 64, 2) := by decide +kernel
theorem dL_acts_186 : decode cL_acts 186 = .ok (.idiv, 1) := by decide +kernel
theorem dL_acts_187 : decode cL_acts 187 = .ok (.sipush 271, 3) := by decide +kernel
theorem dL_acts_190 : decode cL_acts 190 = .ok (.irem, 1) := by decide +kernel
theorem dL_acts_191 : decode cL_acts 191 = .ok (.iadd, 1) := by decide +kernel
theorem dL_acts_192 : decode cL_acts 192 = .ok (.istore 14, 2) := by decide +kernel
theorem dL_acts_194 : decode cL_acts 194 = .ok (.iload 12, 2) := by decide +kernel
theorem dL_acts_196 : decode cL_acts 196 = .ok (.sipush 200, 3) := by decide +kernel
theorem dL_acts_199 : decode cL_acts 199 = .ok (.idiv, 1) := by decide +kernel
theorem dL_acts_200 : decode cL_acts 200 = .ok (.iconst 3, 1) := by decide +kernel
theorem dL_acts_201 : decode cL_acts 201 = .ok (.irem, 1) := by decide +kernel
theorem dL_acts_202 : decode cL_acts 202 = .ok (.ifCond .ne 8, 3) := by decide +kernel
theorem dL_acts_205 : decode cL_acts 205 = .ok (.bipush 16, 2) := by decide +kernel
theorem dL_acts_207 : decode cL_acts 207 = .ok (.goto 12, 3) := by decide +kernel
theorem dL_acts_210 : decode cL_acts 210 = .ok (.iload 12, 2) := by decide +kernel
theorem dL_acts_212 : decode cL_acts 212 = .ok (.sipush 600, 3) := by decide +kernel
theorem dL_acts_215 : decode cL_acts 215 = .ok (.idiv, 1) := by decide +kernel
theorem dL_acts_216 : decode cL_acts 216 = .ok (.bipush 16, 2) := by decide +kernel
theorem dL_acts_218 : decode cL_acts 218 = .ok (.irem, 1) := by decide +kernel
theorem dL_acts_219 : decode cL_acts 219 = .ok (.istore 15, 2) := by decide +kernel
theorem dL_acts_221 : decode cL_acts 221 = .ok (.iload 14, 2) := by decide +kernel
theorem dL_acts_223 : decode cL_acts 223 = .ok (.sipush 500, 3) := by decide +kernel
theorem dL_acts_226 : decode cL_acts 226 = .ok (.if_icmp .lt 22, 3) := by decide +kernel
theorem dL_acts_229 : decode cL_acts 229 = .ok (.iload 14, 2) := by decide +kernel
theorem dL_acts_231 : decode cL_acts 231 = .ok (.sipush 770, 3) := by decide +kernel
theorem dL_acts_234 : decode cL_acts 234 = .ok (.if_icmp .gt 14, 3) := by decide +kernel
theorem dL_acts_237 : decode cL_acts 237 = .ok (.iload 15, 2) := by decide +kernel
theorem dL_acts_239 : decode cL_acts 239 = .ok (.bipush 16, 2) := by decide +kernel
theorem dL_acts_241 : decode cL_acts 241 = .ok (.if_icmp .ge 7, 3) := by decide +kernel
theorem dL_acts_244 : decode cL_acts 244 = .ok (.iconst 1, 1) := by decide +kernel
theorem dL_acts_245 : decode cL_acts 245 = .ok (.goto 4, 3) := by decide +kernel
theorem dL_acts_248 : decode cL_acts 248 = .ok (.iconst 0, 1) := by decide +kernel
theorem dL_acts_249 : decode cL_acts 249 = .ok (.istore 16, 2) := by decide +kernel
theorem dL_acts_251 : decode cL_acts 251 = .ok (.aload_n 1, 1) := by decide +kernel
theorem dL_acts_252 : decode cL_acts 252 = .ok (.iconst 2, 1) := by decide +kernel
theorem dL_acts_253 : decode cL_acts 253 = .ok (.iload 13, 2) := by decide +kernel
theorem dL_acts_255 : decode cL_acts 255 = .ok (.imul, 1) := by decide +kernel
theorem dL_acts_256 : decode cL_acts 256 = .ok (.iconst 1, 1) := by decide +kernel
theorem dL_acts_257 : decode cL_acts 257 = .ok (.iadd, 1) := by decide +kernel
theorem dL_acts_258 : decode cL_acts 258 = .ok (.iaload, 1) := by decide +kernel
theorem dL_acts_259 : decode cL_acts 259 = .ok (.iconst 2, 1) := by decide +kernel
theorem dL_acts_260 : decode cL_acts 260 = .ok (.if_icmp .ge 7, 3) := by decide +kernel
theorem dL_acts_263 : decode cL_acts 263 = .ok (.iconst 1, 1) := by decide +kernel
theorem dL_acts_264 : decode cL_acts 264 = .ok (.goto 4, 3) := by decide +kernel
theorem dL_acts_267 : decode cL_acts 267 = .ok (.iconst 0, 1) := by decide +kernel
theorem dL_acts_268 : decode cL_acts 268 = .ok (.istore 17, 2) := by decide +kernel
theorem dL_acts_270 : decode cL_acts 270 = .ok (.iload 17, 2) := by decide +kernel
theorem dL_acts_272 : decode cL_acts 272 = .ok (.ifCond .eq 45, 3) := by decide +kernel
theorem dL_acts_275 : decode cL_acts 275 = .ok (.aload_n 1, 1) := by decide +kernel
theorem dL_acts_276 : decode cL_acts 276 = .ok (.iconst 2, 1) := by decide +kernel
theorem dL_acts_277 : decode cL_acts 277 = .ok (.iload 13, 2) := by decide +kernel
theorem dL_acts_279 : decode cL_acts 279 = .ok (.imul, 1) := by decide +kernel
theorem dL_acts_280 : decode cL_acts 280 = .ok (.iconst 1, 1) := by decide +kernel
theorem dL_acts_281 : decode cL_acts 281 = .ok (.iadd, 1) := by decide +kernel
theorem dL_acts_282 : decode cL_acts 282 = .ok (.iload 16, 2) := by decide +kernel
theorem dL_acts_284 : decode cL_acts 284 = .ok (.ifCond .eq 7, 3) := by decide +kernel
theorem dL_acts_287 : decode cL_acts 287 = .ok (.iconst 1, 1) := by decide +kernel
theorem dL_acts_288 : decode cL_acts 288 = .ok (.goto 16, 3) := by decide +kernel
theorem dL_acts_291 : decode cL_acts 291 = .ok (.aload 8, 2) := by decide +kernel
theorem dL_acts_293 : decode cL_acts 293 = .ok (.bipush 7, 2) := by decide +kernel
theorem dL_acts_295 : decode cL_acts 295 = .ok (.iaload, 1) := by decide +kernel
theorem dL_acts_296 : decode cL_acts 296 = .ok (.ifCond .ne 7, 3) := by decide +kernel
theorem dL_acts_299 : decode cL_acts 299 = .ok (.iconst 3, 1) := by decide +kernel
theorem dL_acts_300 : decode cL_acts 300 = .ok (.goto 4, 3) := by decide +kernel
theorem dL_acts_303 : decode cL_acts 303 = .ok (.iconst 2, 1) := by decide +kernel
theorem dL_acts_304 : decode cL_acts 304 = .ok (.iastore, 1) := by decide +kernel
theorem dL_acts_305 : decode cL_acts 305 = .ok (.aload_n 1, 1) := by decide +kernel
theorem dL_acts_306 : decode cL_acts 306 = .ok (.aload_n 2, 1) := by decide +kernel
theorem dL_acts_307 : decode cL_acts 307 = .ok (.aload_n 3, 1) := by decide +kernel
theorem dL_acts_308 : decode cL_acts 308 = .ok (.aload 4, 2) := by decide +kernel
theorem dL_acts_310 : decode cL_acts 310 = .ok (.aload 7, 2) := by decide +kernel
theorem dL_acts_312 : decode cL_acts 312 = .ok (.aload 8, 2) := by decide +kernel
theorem dL_acts_314 : decode cL_acts 314 = .ok (.invokestatic 187, 3) := by decide +kernel
theorem dL_acts_317 : decode cL_acts 317 = .ok (.aload_n 0, 1) := by decide +kernel
theorem dL_acts_318 : decode cL_acts 318 = .ok (.iload 13, 2) := by decide +kernel
theorem dL_acts_320 : decode cL_acts 320 = .ok (.iload 14, 2) := by decide +kernel
theorem dL_acts_322 : decode cL_acts 322 = .ok (.iload 15, 2) := by decide +kernel
theorem dL_acts_324 : decode cL_acts 324 = .ok (.invokestatic 166, 3) := by decide +kernel
theorem dL_acts_327 : decode cL_acts 327 = .ok (.iload 17, 2) := by decide +kernel
theorem dL_acts_329 : decode cL_acts 329 = .ok (.ifCond .ne 8, 3) := by decide +kernel
theorem dL_acts_332 : decode cL_acts 332 = .ok (.bipush (-7), 2) := by decide +kernel
theorem dL_acts_334 : decode cL_acts 334 = .ok (.goto 13, 3) := by decide +kernel
theorem dL_acts_337 : decode cL_acts 337 = .ok (.iload 16, 2) := by decide +kernel
theorem dL_acts_339 : decode cL_acts 339 = .ok (.ifCond .eq 7, 3) := by decide +kernel
theorem dL_acts_342 : decode cL_acts 342 = .ok (.iconst 1, 1) := by decide +kernel
theorem dL_acts_343 : decode cL_acts 343 = .ok (.goto 4, 3) := by decide +kernel
theorem dL_acts_346 : decode cL_acts 346 = .ok (.iconst 0, 1) := by decide +kernel
theorem dL_acts_347 : decode cL_acts 347 = .ok (.if_icmp .ne 7, 3) := by decide +kernel
theorem dL_acts_350 : decode cL_acts 350 = .ok (.iconst 1, 1) := by decide +kernel
theorem dL_acts_351 : decode cL_acts 351 = .ok (.goto 4, 3) := by decide +kernel
theorem dL_acts_354 : decode cL_acts 354 = .ok (.iconst 0, 1) := by decide +kernel
theorem dL_acts_355 : decode cL_acts 355 = .ok (.ireturn, 1) := by decide +kernel
theorem dL_acts_356 : decode cL_acts 356 = .ok (.iload 11, 2) := by decide +kernel
theorem dL_acts_358 : decode cL_acts 358 = .ok (.bipush 17, 2) := by decide +kernel
theorem dL_acts_360 : decode cL_acts 360 = .ok (.if_icmp .ne 130, 3) := by decide +kernel
theorem dL_acts_363 : decode cL_acts 363 = .ok (.aload 8, 2) := by decide +kernel
theorem dL_acts_365 : decode cL_acts 365 = .ok (.iconst 0, 1) := by decide +kernel
theorem dL_acts_366 : decode cL_acts 366 = .ok (.iaload, 1) := by decide +kernel
theorem dL_acts_367 : decode cL_acts 367 = .ok (.ifCond .le 123, 3) := by decide +kernel
theorem dL_acts_370 : decode cL_acts 370 = .ok (.iload 12, 2) := by decide +kernel
theorem dL_acts_372 : decode cL_acts 372 = .ok (.iconst 2, 1) := by decide +kernel
theorem dL_acts_373 : decode cL_acts 373 = .ok (.irem, 1) := by decide +kernel
theorem dL_acts_374 : decode cL_acts 374 = .ok (.istore 13, 2) := by decide +kernel
theorem dL_acts_376 : decode cL_acts 376 = .ok (.iload 12, 2) := by decide +kernel
theorem dL_acts_378 : decode cL_acts 378 = .ok (.iconst 2, 1) := by decide +kernel
theorem dL_acts_379 : decode cL_acts 379 = .ok (.idiv, 1) := by decide +kernel
theorem dL_acts_380 : decode cL_acts 380 = .ok (.aload 8, 2) := by decide +kernel
theorem dL_acts_382 : decode cL_acts 382 = .ok (.iconst 0, 1) := by decide +kernel
theorem dL_acts_383 : decode cL_acts 383 = .ok (.iaload, 1) := by decide +kernel
theorem dL_acts_384 : decode cL_acts 384 = .ok (.irem, 1) := by decide +kernel
theorem dL_acts_385 : decode cL_acts 385 = .ok (.istore 14, 2) := by decide +kernel
theorem dL_acts_387 : decode cL_acts 387 = .ok (.aload 8, 2) := by decide +kernel
theorem dL_acts_389 : decode cL_acts 389 = .ok (.iconst 1, 1) := by decide +kernel
theorem dL_acts_390 : decode cL_acts 390 = .ok (.iaload, 1) := by decide +kernel
theorem dL_acts_391 : decode cL_acts 391 = .ok (.ifCond .lt 39, 3) := by decide +kernel
theorem dL_acts_394 : decode cL_acts 394 = .ok (.aload_n 1, 1) := by decide +kernel
theorem dL_acts_395 : decode cL_acts 395 = .ok (.iconst 2, 1) := by decide +kernel
theorem dL_acts_396 : decode cL_acts 396 = .ok (.iload 14, 2) := by decide +kernel
theorem dL_acts_398 : decode cL_acts 398 = .ok (.imul, 1) := by decide +kernel
theorem dL_acts_399 : decode cL_acts 399 = .ok (.iconst 1, 1) := by decide +kernel
theorem dL_acts_400 : decode cL_acts 400 = .ok (.iadd, 1) := by decide +kernel
theorem dL_acts_401 : decode cL_acts 401 = .ok (.iaload, 1) := by decide +kernel
theorem dL_acts_402 : decode cL_acts 402 = .ok (.iconst 1, 1) := by decide +kernel
theorem dL_acts_403 : decode cL_acts 403 = .ok (.if_icmp .ne 27, 3) := by decide +kernel
theorem dL_acts_406 : decode cL_acts 406 = .ok (.aload_n 1, 1) := by decide +kernel
theorem dL_acts_407 : decode cL_acts 407 = .ok (.iconst 2, 1) := by decide +kernel
theorem dL_acts_408 : decode cL_acts 408 = .ok (.iload 14, 2) := by decide +kernel
theorem dL_acts_410 : decode cL_acts 410 = .ok (.imul, 1) := by decide +kernel
theorem dL_acts_411 : decode cL_acts 411 = .ok (.iaload, 1) := by decide +kernel
theorem dL_acts_412 : decode cL_acts 412 = .ok (.aload 7, 2) := by decide +kernel
theorem dL_acts_414 : decode cL_acts 414 = .ok (.aload 8, 2) := by decide +kernel
theorem dL_acts_416 : decode cL_acts 416 = .ok (.iconst 1, 1) := by decide +kernel
theorem dL_acts_417 : decode cL_acts 417 = .ok (.iaload, 1) := by decide +kernel
theorem dL_acts_418 : decode cL_acts 418 = .ok (.iload 13, 2) := by decide +kernel
theorem dL_acts_420 : decode cL_acts 420 = .ok (.invokestatic 27, 3) := by decide +kernel
theorem dL_acts_423 : decode cL_acts 423 = .ok (.if_icmp .ne 7, 3) := by decide +kernel
theorem dL_acts_426 : decode cL_acts 426 = .ok (.iconst 1, 1) := by decide +kernel
theorem dL_acts_427 : decode cL_acts 427 = .ok (.goto 4, 3) := by decide +kernel
theorem dL_acts_430 : decode cL_acts 430 = .ok (.iconst 0, 1) := by decide +kernel
theorem dL_acts_431 : decode cL_acts 431 = .ok (.istore 15, 2) := by decide +kernel
theorem dL_acts_433 : decode cL_acts 433 = .ok (.aload 8, 2) := by decide +kernel
theorem dL_acts_435 : decode cL_acts 435 = .ok (.iconst 2, 1) := by decide +kernel
theorem dL_acts_436 : decode cL_acts 436 = .ok (.iload 13, 2) := by decide +kernel
theorem dL_acts_438 : decode cL_acts 438 = .ok (.iadd, 1) := by decide +kernel
theorem dL_acts_439 : decode cL_acts 439 = .ok (.iaload, 1) := by decide +kernel
theorem dL_acts_440 : decode cL_acts 440 = .ok (.istore 16, 2) := by decide +kernel
theorem dL_acts_442 : decode cL_acts 442 = .ok (.aload 8, 2) := by decide +kernel
theorem dL_acts_444 : decode cL_acts 444 = .ok (.iconst 2, 1) := by decide +kernel
theorem dL_acts_445 : decode cL_acts 445 = .ok (.iload 13, 2) := by decide +kernel
theorem dL_acts_447 : decode cL_acts 447 = .ok (.iadd, 1) := by decide +kernel
theorem dL_acts_448 : decode cL_acts 448 = .ok (.iload 15, 2) := by decide +kernel
theorem dL_acts_450 : decode cL_acts 450 = .ok (.ifCond .eq 8, 3) := by decide +kernel
theorem dL_acts_453 : decode cL_acts 453 = .ok (.iload 14, 2) := by decide +kernel
theorem dL_acts_455 : decode cL_acts 455 = .ok (.goto 5, 3) := by decide +kernel
theorem dL_acts_458 : decode cL_acts 458 = .ok (.iload 16, 2) := by decide +kernel
theorem dL_acts_460 : decode cL_acts 460 = .ok (.iastore, 1) := by decide +kernel
theorem dL_acts_461 : decode cL_acts 461 = .ok (.aload_n 0, 1) := by decide +kernel
theorem dL_acts_462 : decode cL_acts 462 = .ok (.iload 13, 2) := by decide +kernel
theorem dL_acts_464 : decode cL_acts 464 = .ok (.iload 14, 2) := by decide +kernel
theorem dL_acts_466 : decode cL_acts 466 = .ok (.invokestatic 208, 3) := by decide +kernel
theorem dL_acts_469 : decode cL_acts 469 = .ok (.iload 15, 2) := by decide +kernel
theorem dL_acts_471 : decode cL_acts 471 = .ok (.ifCond .eq 8, 3) := by decide +kernel
theorem dL_acts_474 : decode cL_acts 474 = .ok (.iload 16, 2) := by decide +kernel
theorem dL_acts_476 : decode cL_acts 476 = .ok (.goto 5, 3) := by decide +kernel
theorem dL_acts_479 : decode cL_acts 479 = .ok (.bipush (-7), 2) := by decide +kernel
theorem dL_acts_481 : decode cL_acts 481 = .ok (.if_icmp .ne 7, 3) := by decide +kernel
theorem dL_acts_484 : decode cL_acts 484 = .ok (.iconst 1, 1) := by decide +kernel
theorem dL_acts_485 : decode cL_acts 485 = .ok (.goto 4, 3) := by decide +kernel
theorem dL_acts_488 : decode cL_acts 488 = .ok (.iconst 0, 1) := by decide +kernel
theorem dL_acts_489 : decode cL_acts 489 = .ok (.ireturn, 1) := by decide +kernel
theorem dL_acts_490 : decode cL_acts 490 = .ok (.aload 8, 2) := by decide +kernel
theorem dL_acts_492 : decode cL_acts 492 = .ok (.bipush 7, 2) := by decide +kernel
theorem dL_acts_494 : decode cL_acts 494 = .ok (.iaload, 1) := by decide +kernel
theorem dL_acts_495 : decode cL_acts 495 = .ok (.ifCond .ne 7, 3) := by decide +kernel
theorem dL_acts_498 : decode cL_acts 498 = .ok (.iconst 1, 1) := by decide +kernel
theorem dL_acts_499 : decode cL_acts 499 = .ok (.goto 4, 3) := by decide +kernel
theorem dL_acts_502 : decode cL_acts 502 = .ok (.iconst 0, 1) := by decide +kernel
theorem dL_acts_503 : decode cL_acts 503 = .ok (.istore 13, 2) := by decide +kernel
theorem dL_acts_505 : decode cL_acts 505 = .ok (.iconst 0, 1) := by decide +kernel
theorem dL_acts_506 : decode cL_acts 506 = .ok (.istore 14, 2) := by decide +kernel
theorem dL_acts_508 : decode cL_acts 508 = .ok (.iload 14, 2) := by decide +kernel
theorem dL_acts_510 : decode cL_acts 510 = .ok (.bipush 6, 2) := by decide +kernel
theorem dL_acts_512 : decode cL_acts 512 = .ok (.if_icmp .ge 34, 3) := by decide +kernel
theorem dL_acts_515 : decode cL_acts 515 = .ok (.iload 13, 2) := by decide +kernel
theorem dL_acts_517 : decode cL_acts 517 = .ok (.ifCond .eq 20, 3) := by decide +kernel
theorem dL_acts_520 : decode cL_acts 520 = .ok (.aload_n 1, 1) := by decide +kernel
theorem dL_acts_521 : decode cL_acts 521 = .ok (.aload_n 2, 1) := by decide +kernel
theorem dL_acts_522 : decode cL_acts 522 = .ok (.aload_n 3, 1) := by decide +kernel
theorem dL_acts_523 : decode cL_acts 523 = .ok (.iload 14, 2) := by decide +kernel
theorem dL_acts_525 : decode cL_acts 525 = .ok (.invokestatic 23, 3) := by decide +kernel
theorem dL_acts_528 : decode cL_acts 528 = .ok (.bipush 100, 2) := by decide +kernel
theorem dL_acts_530 : decode cL_acts 530 = .ok (.if_icmp .lt 7, 3) := by decide +kernel
theorem dL_acts_533 : decode cL_acts 533 = .ok (.iconst 1, 1) := by decide +kernel
theorem dL_acts_534 : decode cL_acts 534 = .ok (.goto 4, 3) := by decide +kernel
theorem dL_acts_537 : decode cL_acts 537 = .ok (.iconst 0, 1) := by decide +kernel
theorem dL_acts_538 : decode cL_acts 538 = .ok (.istore 13, 2) := by decide +kernel
theorem dL_acts_540 : decode cL_acts 540 = .ok (.iinc 14 1, 3) := by decide +kernel
theorem dL_acts_543 : decode cL_acts 543 = .ok (.goto (-35), 3) := by decide +kernel
theorem dL_acts_546 : decode cL_acts 546 = .ok (.iload 13, 2) := by decide +kernel
theorem dL_acts_548 : decode cL_acts 548 = .ok (.ifCond .eq 72, 3) := by decide +kernel
theorem dL_acts_551 : decode cL_acts 551 = .ok (.aload_n 1, 1) := by decide +kernel
theorem dL_acts_552 : decode cL_acts 552 = .ok (.aload_n 2, 1) := by decide +kernel
theorem dL_acts_553 : decode cL_acts 553 = .ok (.aload_n 3, 1) := by decide +kernel
theorem dL_acts_554 : decode cL_acts 554 = .ok (.aload 7, 2) := by decide +kernel
theorem dL_acts_556 : decode cL_acts 556 = .ok (.iconst 3, 1) := by decide +kernel
theorem dL_acts_557 : decode cL_acts 557 = .ok (.invokestatic 104, 3) := by decide +kernel
theorem dL_acts_560 : decode cL_acts 560 = .ok (.istore 14, 2) := by decide +kernel
theorem dL_acts_562 : decode cL_acts 562 = .ok (.aload 7, 2) := by decide +kernel
theorem dL_acts_564 : decode cL_acts 564 = .ok (.iconst 4, 1) := by decide +kernel
theorem dL_acts_565 : decode cL_acts 565 = .ok (.aload_n 1, 1) := by decide +kernel
theorem dL_acts_566 : decode cL_acts 566 = .ok (.aload_n 2, 1) := by decide +kernel
theorem dL_acts_567 : decode cL_acts 567 = .ok (.aload_n 3, 1) := by decide +kernel
theorem dL_acts_568 : decode cL_acts 568 = .ok (.aload 7, 2) := by decide +kernel
theorem dL_acts_570 : decode cL_acts 570 = .ok (.iconst 0, 1) := by decide +kernel
theorem dL_acts_571 : decode cL_acts 571 = .ok (.invokestatic 104, 3) := by decide +kernel
theorem dL_acts_574 : decode cL_acts 574 = .ok (.iastore, 1) := by decide +kernel
theorem dL_acts_575 : decode cL_acts 575 = .ok (.aload 7, 2) := by decide +kernel
theorem dL_acts_577 : decode cL_acts 577 = .ok (.bipush 6, 2) := by decide +kernel
theorem dL_acts_579 : decode cL_acts 579 = .ok (.aload_n 1, 1) := by decide +kernel
theorem dL_acts_580 : decode cL_acts 580 = .ok (.aload_n 2, 1) := by decide +kernel
theorem dL_acts_581 : decode cL_acts 581 = .ok (.aload_n 3, 1) := by decide +kernel
theorem dL_acts_582 : decode cL_acts 582 = .ok (.aload 7, 2) := by decide +kernel
theorem dL_acts_584 : decode cL_acts 584 = .ok (.iconst 1, 1) := by decide +kernel
theorem dL_acts_585 : decode cL_acts 585 = .ok (.invokestatic 104, 3) := by decide +kernel
theorem dL_acts_588 : decode cL_acts 588 = .ok (.iastore, 1) := by decide +kernel
theorem dL_acts_589 : decode cL_acts 589 = .ok (.aload 7, 2) := by decide +kernel
theorem dL_acts_591 : decode cL_acts 591 = .ok (.bipush 7, 2) := by decide +kernel
theorem dL_acts_593 : decode cL_acts 593 = .ok (.aload_n 1, 1) := by decide +kernel
theorem dL_acts_594 : decode cL_acts 594 = .ok (.aload_n 2, 1) := by decide +kernel
theorem dL_acts_595 : decode cL_acts 595 = .ok (.aload_n 3, 1) := by decide +kernel
theorem dL_acts_596 : decode cL_acts 596 = .ok (.aload 7, 2) := by decide +kernel
theorem dL_acts_598 : decode cL_acts 598 = .ok (.iconst 2, 1) := by decide +kernel
theorem dL_acts_599 : decode cL_acts 599 = .ok (.invokestatic 104, 3) := by decide +kernel
theorem dL_acts_602 : decode cL_acts 602 = .ok (.iastore, 1) := by decide +kernel
theorem dL_acts_603 : decode cL_acts 603 = .ok (.aload 7, 2) := by decide +kernel
theorem dL_acts_605 : decode cL_acts 605 = .ok (.iconst 5, 1) := by decide +kernel
theorem dL_acts_606 : decode cL_acts 606 = .ok (.iload 14, 2) := by decide +kernel
theorem dL_acts_608 : decode cL_acts 608 = .ok (.iastore, 1) := by decide +kernel
theorem dL_acts_609 : decode cL_acts 609 = .ok (.aload 8, 2) := by decide +kernel
theorem dL_acts_611 : decode cL_acts 611 = .ok (.bipush 7, 2) := by decide +kernel
theorem dL_acts_613 : decode cL_acts 613 = .ok (.iconst 4, 1) := by decide +kernel
theorem dL_acts_614 : decode cL_acts 614 = .ok (.iastore, 1) := by decide +kernel
theorem dL_acts_615 : decode cL_acts 615 = .ok (.aload 8, 2) := by decide +kernel
theorem dL_acts_617 : decode cL_acts 617 = .ok (.iconst 1, 1) := by decide +kernel
theorem dL_acts_618 : decode cL_acts 618 = .ok (.iconst (-1), 1) := by decide +kernel
theorem dL_acts_619 : decode cL_acts 619 = .ok (.iastore, 1) := by decide +kernel
theorem dL_acts_620 : decode cL_acts 620 = .ok (.aload_n 0, 1) := by decide +kernel
theorem dL_acts_621 : decode cL_acts 621 = .ok (.invokestatic 211, 3) := by decide +kernel
theorem dL_acts_624 : decode cL_acts 624 = .ok (.iload 13, 2) := by decide +kernel
theorem dL_acts_626 : decode cL_acts 626 = .ok (.ifCond .eq 7, 3) := by decide +kernel
theorem dL_acts_629 : decode cL_acts 629 = .ok (.iconst 4, 1) := by decide +kernel
theorem dL_acts_630 : decode cL_acts 630 = .ok (.goto 5, 3) := by decide +kernel
theorem dL_acts_633 : decode cL_acts 633 = .ok (.bipush (-7), 2) := by decide +kernel
theorem dL_acts_635 : decode cL_acts 635 = .ok (.if_icmp .ne 7, 3) := by decide +kernel
theorem dL_acts_638 : decode cL_acts 638 = .ok (.iconst 1, 1) := by decide +kernel
theorem dL_acts_639 : decode cL_acts 639 = .ok (.goto 4, 3) := by decide +kernel
theorem dL_acts_642 : decode cL_acts 642 = .ok (.iconst 0, 1) := by decide +kernel
theorem dL_acts_643 : decode cL_acts 643 = .ok (.ireturn, 1) := by decide +kernel
theorem dL_holds_0 : decode cL_holds 0 = .ok (.aload_n 0, 1) := by decide +kernel
theorem dL_holds_1 : decode cL_holds 1 = .ok (.arraylength, 1) := by decide +kernel
theorem dL_holds_2 : decode cL_holds 2 = .ok (.ifCond .ne 7, 3) := by decide +kernel
theorem dL_holds_5 : decode cL_holds 5 = .ok (.iconst 1, 1) := by decide +kernel
theorem dL_holds_6 : decode cL_holds 6 = .ok (.goto 8, 3) := by decide +kernel
theorem dL_holds_9 : decode cL_holds 9 = .ok (.aload_n 0, 1) := by decide +kernel
theorem dL_holds_10 : decode cL_holds 10 = .ok (.iconst 0, 1) := by decide +kernel
theorem dL_holds_11 : decode cL_holds 11 = .ok (.iaload, 1) := by decide +kernel
theorem dL_holds_12 : decode cL_holds 12 = .ok (.iconst 1, 1) := by decide +kernel
theorem dL_holds_13 : decode cL_holds 13 = .ok (.iand, 1) := by decide +kernel
theorem dL_holds_14 : decode cL_holds 14 = .ok (.istore_n 1, 1) := by decide +kernel
theorem dL_holds_15 : decode cL_holds 15 = .ok (.new 44, 3) := by decide +kernel
theorem dL_holds_18 : decode cL_holds 18 = .ok (.dup, 1) := by decide +kernel
theorem dL_holds_19 : decode cL_holds 19 = .ok (.iload_n 1, 1) := by decide +kernel
theorem dL_holds_20 : decode cL_holds 20 = .ok (.ifCond .ne 7, 3) := by decide +kernel
theorem dL_holds_23 : decode cL_holds 23 = .ok (.iconst 0, 1) := by decide +kernel
theorem dL_holds_24 : decode cL_holds 24 = .ok (.goto 15, 3) := by decide +kernel
theorem dL_holds_27 : decode cL_holds 27 = .ok (.aload_n 0, 1) := by decide +kernel
theorem dL_holds_28 : decode cL_holds 28 = .ok (.arraylength, 1) := by decide +kernel
theorem dL_holds_29 : decode cL_holds 29 = .ok (.ifCond .ne 7, 3) := by decide +kernel
theorem dL_holds_32 : decode cL_holds 32 = .ok (.iconst 1, 1) := by decide +kernel
theorem dL_holds_33 : decode cL_holds 33 = .ok (.goto 6, 3) := by decide +kernel
theorem dL_holds_36 : decode cL_holds 36 = .ok (.aload_n 0, 1) := by decide +kernel
theorem dL_holds_37 : decode cL_holds 37 = .ok (.iconst 0, 1) := by decide +kernel
theorem dL_holds_38 : decode cL_holds 38 = .ok (.iaload, 1) := by decide +kernel
theorem dL_holds_39 : decode cL_holds 39 = .ok (.invokespecial 214, 3) := by decide +kernel
theorem dL_holds_42 : decode cL_holds 42 = .ok (.astore_n 2, 1) := by decide +kernel
theorem dL_holds_43 : decode cL_holds 43 = .ok (.bipush 32, 2) := by decide +kernel
theorem dL_holds_45 : decode cL_holds 45 = .ok (.newarray .int, 2) := by decide +kernel
theorem dL_holds_47 : decode cL_holds 47 = .ok (.astore_n 3, 1) := by decide +kernel
theorem dL_holds_48 : decode cL_holds 48 = .ok (.bipush 27, 2) := by decide +kernel
theorem dL_holds_50 : decode cL_holds 50 = .ok (.newarray .long, 2) := by decide +kernel
theorem dL_holds_52 : decode cL_holds 52 = .ok (.astore 4, 2) := by decide +kernel
theorem dL_holds_54 : decode cL_holds 54 = .ok (.bipush 9, 2) := by decide +kernel
theorem dL_holds_56 : decode cL_holds 56 = .ok (.newarray .int, 2) := by decide +kernel
theorem dL_holds_58 : decode cL_holds 58 = .ok (.astore 5, 2) := by decide +kernel
theorem dL_holds_60 : decode cL_holds 60 = .ok (.bipush 18, 2) := by decide +kernel
theorem dL_holds_62 : decode cL_holds 62 = .ok (.newarray .int, 2) := by decide +kernel
theorem dL_holds_64 : decode cL_holds 64 = .ok (.astore 6, 2) := by decide +kernel
theorem dL_holds_66 : decode cL_holds 66 = .ok (.bipush 8, 2) := by decide +kernel
theorem dL_holds_68 : decode cL_holds 68 = .ok (.newarray .int, 2) := by decide +kernel
theorem dL_holds_70 : decode cL_holds 70 = .ok (.astore 7, 2) := by decide +kernel
theorem dL_holds_72 : decode cL_holds 72 = .ok (.bipush 8, 2) := by decide +kernel
theorem dL_holds_74 : decode cL_holds 74 = .ok (.newarray .int, 2) := by decide +kernel
theorem dL_holds_76 : decode cL_holds 76 = .ok (.astore 8, 2) := by decide +kernel
theorem dL_holds_78 : decode cL_holds 78 = .ok (.bipush 8, 2) := by decide +kernel
theorem dL_holds_80 : decode cL_holds 80 = .ok (.newarray .int, 2) := by decide +kernel
theorem dL_holds_82 : decode cL_holds 82 = .ok (.astore 9, 2) := by decide +kernel
theorem dL_holds_84 : decode cL_holds 84 = .ok (.bipush 10, 2) := by decide +kernel
theorem dL_holds_86 : decode cL_holds 86 = .ok (.newarray .int, 2) := by decide +kernel
theorem dL_holds_88 : decode cL_holds 88 = .ok (.astore 10, 2) := by decide +kernel
theorem dL_holds_90 : decode cL_holds 90 = .ok (.iconst 1, 1) := by decide +kernel
theorem dL_holds_91 : decode cL_holds 91 = .ok (.istore 11, 2) := by decide +kernel
theorem dL_holds_93 : decode cL_holds 93 = .ok (.aload 10, 2) := by decide +kernel
theorem dL_holds_95 : decode cL_holds 95 = .ok (.iconst 1, 1) := by decide +kernel
theorem dL_holds_96 : decode cL_holds 96 = .ok (.iconst (-1), 1) := by decide +kernel
theorem dL_holds_97 : decode cL_holds 97 = .ok (.iastore, 1) := by decide +kernel
theorem dL_holds_98 : decode cL_holds 98 = .ok (.aload 10, 2) := by decide +kernel
theorem dL_holds_100 : decode cL_holds 100 = .ok (.bipush 9, 2) := by decide +kernel
theorem dL_holds_102 : decode cL_holds 102 = .ok (.iload_n 1, 1) := by decide +kernel
theorem dL_holds_103 : decode cL_holds 103 = .ok (.iastore, 1) := by decide +kernel
theorem dL_holds_104 : decode cL_holds 104 = .ok (.iconst 0, 1) := by decide +kernel
theorem dL_holds_105 : decode cL_holds 105 = .ok (.istore 12, 2) := by decide +kernel
theorem dL_holds_107 : decode cL_holds 107 = .ok (.iload 12, 2) := by decide +kernel
theorem dL_holds_109 : decode cL_holds 109 = .ok (.bipush 8, 2) := by decide +kernel
theorem dL_holds_111 : decode cL_holds 111 = .ok (.if_icmp .ge 42, 3) := by decide +kernel
theorem dL_holds_114 : decode cL_holds 114 = .ok (.aload 9, 2) := by decide +kernel
theorem dL_holds_116 : decode cL_holds 116 = .ok (.iload 12, 2) := by decide +kernel
theorem dL_holds_118 : decode cL_holds 118 = .ok (.iconst (-1), 1) := by decide +kernel
theorem dL_holds_119 : decode cL_holds 119 = .ok (.iastore, 1) := by decide +kernel
theorem dL_holds_120 : decode cL_holds 120 = .ok (.iload 11, 2) := by decide +kernel
theorem dL_holds_122 : decode cL_holds 122 = .ok (.ifCond .eq 22, 3) := by decide +kernel
theorem dL_holds_125 : decode cL_holds 125 = .ok (.iload 12, 2) := by decide +kernel
theorem dL_holds_127 : decode cL_holds 127 = .ok (.iconst 3, 1) := by decide +kernel
theorem dL_holds_128 : decode cL_holds 128 = .ok (.if_icmp .gt 12, 3) := by decide +kernel
theorem dL_holds_131 : decode cL_holds 131 = .ok (.aload_n 2, 1) := by decide +kernel
theorem dL_holds_132 : decode cL_holds 132 = .ok (.invokevirtual 217, 3) := by decide +kernel
theorem dL_holds_135 : decode cL_holds 135 = .ok (.iload 12, 2) := by decide +kernel
theorem dL_holds_137 : decode cL_holds 137 = .ok (.if_icmp .ne 7, 3) := by decide +kernel
theorem dL_holds_140 : decode cL_holds 140 = .ok (.iconst 1, 1) := by decide +kernel
theorem dL_holds_141 : decode cL_holds 141 = .ok (.goto 4, 3) := by decide +kernel
theorem dL_holds_144 : decode cL_holds 144 = .ok (.iconst 0, 1) := by decide +kernel
theorem dL_holds_145 : decode cL_holds 145 = .ok (.istore 11, 2) := by decide +kernel
theorem dL_holds_147 : decode cL_holds 147 = .ok (.iinc 12 1, 3) := by decide +kernel
theorem dL_holds_150 : decode cL_holds 150 = .ok (.goto (-43), 3) := by decide +kernel
theorem dL_holds_153 : decode cL_holds 153 = .ok (.iload 11, 2) := by decide +kernel
theorem dL_holds_155 : decode cL_holds 155 = .ok (.ifCond .eq 30, 3) := by decide +kernel
theorem dL_holds_158 : decode cL_holds 158 = .ok (.aload_n 2, 1) := by decide +kernel
theorem dL_holds_159 : decode cL_holds 159 = .ok (.iconst 1, 1) := by decide +kernel
theorem dL_holds_160 : decode cL_holds 160 = .ok (.invokevirtual 219, 3) := by decide +kernel
theorem dL_holds_163 : decode cL_holds 163 = .ok (.bipush 6, 2) := by decide +kernel
theorem dL_holds_165 : decode cL_holds 165 = .ok (.if_icmp .ne 20, 3) := by decide +kernel
theorem dL_holds_168 : decode cL_holds 168 = .ok (.aload_n 2, 1) := by decide +kernel
theorem dL_holds_169 : decode cL_holds 169 = .ok (.bipush 6, 2) := by decide +kernel
theorem dL_holds_171 : decode cL_holds 171 = .ok (.iconst 0, 1) := by decide +kernel
theorem dL_holds_172 : decode cL_holds 172 = .ok (.iconst 0, 1) := by decide +kernel
theorem dL_holds_173 : decode cL_holds 173 = .ok (.invokestatic 144, 3) := by decide +kernel
theorem dL_holds_176 : decode cL_holds 176 = .ok (.bipush (-8), 2) := by decide +kernel
theorem dL_holds_178 : decode cL_holds 178 = .ok (.if_icmp .ne 7, 3) := by decide +kernel
theorem dL_holds_181 : decode cL_holds 181 = .ok (.iconst 1, 1) := by decide +kernel
theorem dL_holds_182 : decode cL_holds 182 = .ok (.goto 4, 3) := by decide +kernel
theorem dL_holds_185 : decode cL_holds 185 = .ok (.iconst 0, 1) := by decide +kernel
theorem dL_holds_186 : decode cL_holds 186 = .ok (.istore 11, 2) := by decide +kernel
theorem dL_holds_188 : decode cL_holds 188 = .ok (.iconst 0, 1) := by decide +kernel
theorem dL_holds_189 : decode cL_holds 189 = .ok (.istore 12, 2) := by decide +kernel
theorem dL_holds_191 : decode cL_holds 191 = .ok (.iload 12, 2) := by decide +kernel
theorem dL_holds_193 : decode cL_holds 193 = .ok (.bipush 90, 2) := by decide +kernel
theorem dL_holds_195 : decode cL_holds 195 = .ok (.if_icmp .ge 117, 3) := by decide +kernel
theorem dL_holds_198 : decode cL_holds 198 = .ok (.iload 11, 2) := by decide +kernel
theorem dL_holds_200 : decode cL_holds 200 = .ok (.ifCond .eq 112, 3) := by decide +kernel
theorem dL_holds_203 : decode cL_holds 203 = .ok (.aload_n 0, 1) := by decide +kernel
theorem dL_holds_204 : decode cL_holds 204 = .ok (.iconst 2, 1) := by decide +kernel
theorem dL_holds_205 : decode cL_holds 205 = .ok (.iload 12, 2) := by decide +kernel
theorem dL_holds_207 : decode cL_holds 207 = .ok (.imul, 1) := by decide +kernel
theorem dL_holds_208 : decode cL_holds 208 = .ok (.iconst 1, 1) := by decide +kernel
theorem dL_holds_209 : decode cL_holds 209 = .ok (.iadd, 1) := by decide +kernel
theorem dL_holds_210 : decode cL_holds 210 = .ok (.ldc 222, 2) := by decide +kernel
theorem dL_holds_212 : decode cL_holds 212 = .ok (.invokestatic 163, 3) := by decide +kernel
theorem dL_holds_215 : decode cL_holds 215 = .ok (.istore 13, 2) := by decide +kernel
theorem dL_holds_217 : decode cL_holds 217 = .ok (.aload_n 2, 1) := by decide +kernel
theorem dL_holds_218 : decode cL_holds 218 = .ok (.aload_n 3, 1) := by decide +kernel
theorem dL_holds_219 : decode cL_holds 219 = .ok (.aload 4, 2) := by decide +kernel
theorem dL_holds_221 : decode cL_holds 221 = .ok (.aload 5, 2) := by decide +kernel
theorem dL_holds_223 : decode cL_holds 223 = .ok (.aload 6, 2) := by decide +kernel
theorem dL_holds_225 : decode cL_holds 225 = .ok (.aload 7, 2) := by decide +kernel
theorem dL_holds_227 : decode cL_holds 227 = .ok (.aload 8, 2) := by decide +kernel
theorem dL_holds_229 : decode cL_holds 229 = .ok (.aload 9, 2) := by decide +kernel
theorem dL_holds_231 : decode cL_holds 231 = .ok (.aload 10, 2) := by decide +kernel
theorem dL_holds_233 : decode cL_holds 233 = .ok (.aload_n 0, 1) := by decide +kernel
theorem dL_holds_234 : decode cL_holds 234 = .ok (.sipush 300, 3) := by decide +kernel
theorem dL_holds_237 : decode cL_holds 237 = .ok (.bipush 7, 2) := by decide +kernel
theorem dL_holds_239 : decode cL_holds 239 = .ok (.iload 12, 2) := by decide +kernel
theorem dL_holds_241 : decode cL_holds 241 = .ok (.imul, 1) := by decide +kernel
theorem dL_holds_242 : decode cL_holds 242 = .ok (.iadd, 1) := by decide +kernel
theorem dL_holds_243 : decode cL_holds 243 = .ok (.iload 12, 2) := by decide +kernel
theorem dL_holds_245 : decode cL_holds 245 = .ok (.iconst 1, 1) := by decide +kernel
theorem dL_holds_246 : decode cL_holds 246 = .ok (.if_icmp .ge 7, 3) := by decide +kernel
theorem dL_holds_249 : decode cL_holds 249 = .ok (.iconst 0, 1) := by decide +kernel
theorem dL_holds_250 : decode cL_holds 250 = .ok (.goto 13, 3) := by decide +kernel
theorem dL_holds_253 : decode cL_holds 253 = .ok (.aload_n 0, 1) := by decide +kernel
theorem dL_holds_254 : decode cL_holds 254 = .ok (.iconst 2, 1) := by decide +kernel
theorem dL_holds_255 : decode cL_holds 255 = .ok (.iload 12, 2) := by decide +kernel
theorem dL_holds_257 : decode cL_holds 257 = .ok (.imul, 1) := by decide +kernel
theorem dL_holds_258 : decode cL_holds 258 = .ok (.bipush 20, 2) := by decide +kernel
theorem dL_holds_260 : decode cL_holds 260 = .ok (.invokestatic 163, 3) := by decide +kernel
theorem dL_holds_263 : decode cL_holds 263 = .ok (.iload 13, 2) := by decide +kernel
theorem dL_holds_265 : decode cL_holds 265 = .ok (.invokestatic 223, 3) := by decide +kernel
theorem dL_holds_268 : decode cL_holds 268 = .ok (.ifCond .eq 35, 3) := by decide +kernel
theorem dL_holds_271 : decode cL_holds 271 = .ok (.iload 12, 2) := by decide +kernel
theorem dL_holds_273 : decode cL_holds 273 = .ok (.iconst 5, 1) := by decide +kernel
theorem dL_holds_274 : decode cL_holds 274 = .ok (.irem, 1) := by decide +kernel
theorem dL_holds_275 : decode cL_holds 275 = .ok (.iconst 4, 1) := by decide +kernel
theorem dL_holds_276 : decode cL_holds 276 = .ok (.if_icmp .lt 23, 3) := by decide +kernel
theorem dL_holds_279 : decode cL_holds 279 = .ok (.aload_n 2, 1) := by decide +kernel
theorem dL_holds_280 : decode cL_holds 280 = .ok (.aload_n 3, 1) := by decide +kernel
theorem dL_holds_281 : decode cL_holds 281 = .ok (.aload 4, 2) := by decide +kernel
theorem dL_holds_283 : decode cL_holds 283 = .ok (.aload 5, 2) := by decide +kernel
theorem dL_holds_285 : decode cL_holds 285 = .ok (.aload 6, 2) := by decide +kernel
theorem dL_holds_287 : decode cL_holds 287 = .ok (.aload 9, 2) := by decide +kernel
theorem dL_holds_289 : decode cL_holds 289 = .ok (.aload 10, 2) := by decide +kernel
theorem dL_holds_291 : decode cL_holds 291 = .ok (.iload 13, 2) := by decide +kernel
theorem dL_holds_293 : decode cL_holds 293 = .ok (.invokestatic 227, 3) := by decide +kernel
theorem dL_holds_296 : decode cL_holds 296 = .ok (.ifCond .eq 7, 3) := by decide +kernel
theorem dL_holds_299 : decode cL_holds 299 = .ok (.iconst 1, 1) := by decide +kernel
theorem dL_holds_300 : decode cL_holds 300 = .ok (.goto 4, 3) := by decide +kernel
theorem dL_holds_303 : decode cL_holds 303 = .ok (.iconst 0, 1) := by decide +kernel
theorem dL_holds_304 : decode cL_holds 304 = .ok (.istore 11, 2) := by decide +kernel
theorem dL_holds_306 : decode cL_holds 306 = .ok (.iinc 12 1, 3) := by decide +kernel
theorem dL_holds_309 : decode cL_holds 309 = .ok (.goto (-118), 3) := by decide +kernel
theorem dL_holds_312 : decode cL_holds 312 = .ok (.iload 11, 2) := by decide +kernel
theorem dL_holds_314 : decode cL_holds 314 = .ok (.ifCond .eq 27, 3) := by decide +kernel
theorem dL_holds_317 : decode cL_holds 317 = .ok (.aload_n 2, 1) := by decide +kernel
theorem dL_holds_318 : decode cL_holds 318 = .ok (.aload_n 3, 1) := by decide +kernel
theorem dL_holds_319 : decode cL_holds 319 = .ok (.aload 4, 2) := by decide +kernel
theorem dL_holds_321 : decode cL_holds 321 = .ok (.aload 5, 2) := by decide +kernel
theorem dL_holds_323 : decode cL_holds 323 = .ok (.aload 6, 2) := by decide +kernel
theorem dL_holds_325 : decode cL_holds 325 = .ok (.aload 9, 2) := by decide +kernel
theorem dL_holds_327 : decode cL_holds 327 = .ok (.aload 10, 2) := by decide +kernel
theorem dL_holds_329 : decode cL_holds 329 = .ok (.bipush 15, 2) := by decide +kernel
theorem dL_holds_331 : decode cL_holds 331 = .ok (.invokestatic 227, 3) := by decide +kernel
theorem dL_holds_334 : decode cL_holds 334 = .ok (.ifCond .eq 7, 3) := by decide +kernel
theorem dL_holds_337 : decode cL_holds 337 = .ok (.iconst 1, 1) := by decide +kernel
theorem dL_holds_338 : decode cL_holds 338 = .ok (.goto 4, 3) := by decide +kernel
theorem dL_holds_341 : decode cL_holds 341 = .ok (.iconst 0, 1) := by decide +kernel
theorem dL_holds_342 : decode cL_holds 342 = .ok (.ireturn, 1) := by decide +kernel
theorem dL_isHeld_0 : decode cL_isHeld 0 = .ok (.aload_n 0, 1) := by decide +kernel
theorem dL_isHeld_1 : decode cL_isHeld 1 = .ok (.invokestatic 230, 3) := by decide +kernel
theorem dL_isHeld_4 : decode cL_isHeld 4 = .ok (.ireturn, 1) := by decide +kernel
theorem dL_isHeld_5 : decode cL_isHeld 5 = .ok (.astore_n 1, 1) := by decide +kernel
theorem dL_isHeld_6 : decode cL_isHeld 6 = .ok (.iconst 0, 1) := by decide +kernel
theorem dL_isHeld_7 : decode cL_isHeld 7 = .ok (.ireturn, 1) := by decide +kernel
theorem dL_isHeld_8 : decode cL_isHeld 8 = .ok (.astore_n 1, 1) := by decide +kernel
theorem dL_isHeld_9 : decode cL_isHeld 9 = .ok (.iconst 0, 1) := by decide +kernel
theorem dL_isHeld_10 : decode cL_isHeld 10 = .ok (.ireturn, 1) := by decide +kernel
theorem dL_isHeld_11 : decode cL_isHeld 11 = .ok (.astore_n 1, 1) := by decide +kernel
theorem dL_isHeld_12 : decode cL_isHeld 12 = .ok (.iconst 0, 1) := by decide +kernel
theorem dL_isHeld_13 : decode cL_isHeld 13 = .ok (.ireturn, 1) := by decide +kernel
theorem dL_law_0 : decode cL_law 0 = .ok (.aload_n 0, 1) := by decide +kernel
theorem dL_law_1 : decode cL_law 1 = .ok (.invokestatic 236, 3) := by decide +kernel
theorem dL_law_4 : decode cL_law 4 = .ok (.ireturn, 1) := by decide +kernel
