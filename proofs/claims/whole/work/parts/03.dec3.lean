theorem dX8_tells_86 : decode cX8_tells 86 = .ok (.iload 4, 2) := by decide +kernel
theorem dX8_tells_88 : decode cX8_tells 88 = .ok (.iconst 1, 1) := by decide +kernel
theorem dX8_tells_89 : decode cX8_tells 89 = .ok (.iand, 1) := by decide +kernel
theorem dX8_tells_90 : decode cX8_tells 90 = .ok (.iadd, 1) := by decide +kernel
theorem dX8_tells_91 : decode cX8_tells 91 = .ok (.putfield 129, 3) := by decide +kernel
theorem dX8_tells_94 : decode cX8_tells 94 = .ok (.aload_n 0, 1) := by decide +kernel
theorem dX8_tells_95 : decode cX8_tells 95 = .ok (.dup, 1) := by decide +kernel
theorem dX8_tells_96 : decode cX8_tells 96 = .ok (.getfield 132, 3) := by decide +kernel
theorem dX8_tells_99 : decode cX8_tells 99 = .ok (.iload 4, 2) := by decide +kernel
theorem dX8_tells_101 : decode cX8_tells 101 = .ok (.iconst 1, 1) := by decide +kernel
theorem dX8_tells_102 : decode cX8_tells 102 = .ok (.ishr, 1) := by decide +kernel
theorem dX8_tells_103 : decode cX8_tells 103 = .ok (.iadd, 1) := by decide +kernel
theorem dX8_tells_104 : decode cX8_tells 104 = .ok (.putfield 132, 3) := by decide +kernel
theorem dX8_tells_107 : decode cX8_tells 107 = .ok (.aload_n 0, 1) := by decide +kernel
theorem dX8_tells_108 : decode cX8_tells 108 = .ok (.aload_n 0, 1) := by decide +kernel
theorem dX8_tells_109 : decode cX8_tells 109 = .ok (.getfield 129, 3) := by decide +kernel
theorem dX8_tells_112 : decode cX8_tells 112 = .ok (.iload_n 2, 1) := by decide +kernel
theorem dX8_tells_113 : decode cX8_tells 113 = .ok (.if_icmp .ne 7, 3) := by decide +kernel
theorem dX8_tells_116 : decode cX8_tells 116 = .ok (.iconst 0, 1) := by decide +kernel
theorem dX8_tells_117 : decode cX8_tells 117 = .ok (.goto 16, 3) := by decide +kernel
theorem dX8_tells_120 : decode cX8_tells 120 = .ok (.aload_n 0, 1) := by decide +kernel
theorem dX8_tells_121 : decode cX8_tells 121 = .ok (.getfield 132, 3) := by decide +kernel
theorem dX8_tells_124 : decode cX8_tells 124 = .ok (.iload_n 2, 1) := by decide +kernel
theorem dX8_tells_125 : decode cX8_tells 125 = .ok (.if_icmp .ne 7, 3) := by decide +kernel
theorem dX8_tells_128 : decode cX8_tells 128 = .ok (.iconst 1, 1) := by decide +kernel
theorem dX8_tells_129 : decode cX8_tells 129 = .ok (.goto 4, 3) := by decide +kernel
theorem dX8_tells_132 : decode cX8_tells 132 = .ok (.iconst (-1), 1) := by decide +kernel
theorem dX8_tells_133 : decode cX8_tells 133 = .ok (.putfield 135, 3) := by decide +kernel
theorem dX8_tells_136 : decode cX8_tells 136 = .ok (.iinc 3 1, 3) := by decide +kernel
theorem dX8_tells_139 : decode cX8_tells 139 = .ok (.goto (-110), 3) := by decide +kernel
theorem dX8_tells_142 : decode cX8_tells 142 = .ok (.aload_n 0, 1) := by decide +kernel
theorem dX8_tells_143 : decode cX8_tells 143 = .ok (.aload_n 0, 1) := by decide +kernel
theorem dX8_tells_144 : decode cX8_tells 144 = .ok (.getfield 135, 3) := by decide +kernel
theorem dX8_tells_147 : decode cX8_tells 147 = .ok (.iconst (-1), 1) := by decide +kernel
theorem dX8_tells_148 : decode cX8_tells 148 = .ok (.if_icmp .ne 33, 3) := by decide +kernel
theorem dX8_tells_151 : decode cX8_tells 151 = .ok (.aload_n 0, 1) := by decide +kernel
theorem dX8_tells_152 : decode cX8_tells 152 = .ok (.getfield 26, 3) := by decide +kernel
theorem dX8_tells_155 : decode cX8_tells 155 = .ok (.iload_n 1, 1) := by decide +kernel
theorem dX8_tells_156 : decode cX8_tells 156 = .ok (.iaload, 1) := by decide +kernel
theorem dX8_tells_157 : decode cX8_tells 157 = .ok (.bipush 12, 2) := by decide +kernel
theorem dX8_tells_159 : decode cX8_tells 159 = .ok (.if_icmp .ne 22, 3) := by decide +kernel
theorem dX8_tells_162 : decode cX8_tells 162 = .ok (.aload_n 0, 1) := by decide +kernel
theorem dX8_tells_163 : decode cX8_tells 163 = .ok (.getfield 132, 3) := by decide +kernel
theorem dX8_tells_166 : decode cX8_tells 166 = .ok (.aload_n 0, 1) := by decide +kernel
theorem dX8_tells_167 : decode cX8_tells 167 = .ok (.getfield 129, 3) := by decide +kernel
theorem dX8_tells_170 : decode cX8_tells 170 = .ok (.if_icmp .le 7, 3) := by decide +kernel
theorem dX8_tells_173 : decode cX8_tells 173 = .ok (.iconst 1, 1) := by decide +kernel
theorem dX8_tells_174 : decode cX8_tells 174 = .ok (.goto 11, 3) := by decide +kernel
theorem dX8_tells_177 : decode cX8_tells 177 = .ok (.iconst 0, 1) := by decide +kernel
theorem dX8_tells_178 : decode cX8_tells 178 = .ok (.goto 7, 3) := by decide +kernel
theorem dX8_tells_181 : decode cX8_tells 181 = .ok (.aload_n 0, 1) := by decide +kernel
theorem dX8_tells_182 : decode cX8_tells 182 = .ok (.getfield 135, 3) := by decide +kernel
theorem dX8_tells_185 : decode cX8_tells 185 = .ok (.putfield 135, 3) := by decide +kernel
theorem dX8_tells_188 : decode cX8_tells 188 = .ok (.return_, 1) := by decide +kernel
theorem dX8_follows_0 : decode cX8_follows 0 = .ok (.iconst 1, 1) := by decide +kernel
theorem dX8_follows_1 : decode cX8_follows 1 = .ok (.istore_n 1, 1) := by decide +kernel
theorem dX8_follows_2 : decode cX8_follows 2 = .ok (.iload_n 1, 1) := by decide +kernel
theorem dX8_follows_3 : decode cX8_follows 3 = .ok (.bipush 32, 2) := by decide +kernel
theorem dX8_follows_5 : decode cX8_follows 5 = .ok (.if_icmp .ge 16, 3) := by decide +kernel
theorem dX8_follows_8 : decode cX8_follows 8 = .ok (.aload_n 0, 1) := by decide +kernel
theorem dX8_follows_9 : decode cX8_follows 9 = .ok (.getfield 57, 3) := by decide +kernel
theorem dX8_follows_12 : decode cX8_follows 12 = .ok (.iload_n 1, 1) := by decide +kernel
theorem dX8_follows_13 : decode cX8_follows 13 = .ok (.iconst 0, 1) := by decide +kernel
theorem dX8_follows_14 : decode cX8_follows 14 = .ok (.bastore, 1) := by decide +kernel
theorem dX8_follows_15 : decode cX8_follows 15 = .ok (.iinc 1 1, 3) := by decide +kernel
theorem dX8_follows_18 : decode cX8_follows 18 = .ok (.goto (-16), 3) := by decide +kernel
theorem dX8_follows_21 : decode cX8_follows 21 = .ok (.aload_n 0, 1) := by decide +kernel
theorem dX8_follows_22 : decode cX8_follows 22 = .ok (.getfield 95, 3) := by decide +kernel
theorem dX8_follows_25 : decode cX8_follows 25 = .ok (.iconst 1, 1) := by decide +kernel
theorem dX8_follows_26 : decode cX8_follows 26 = .ok (.isub, 1) := by decide +kernel
theorem dX8_follows_27 : decode cX8_follows 27 = .ok (.istore_n 1, 1) := by decide +kernel
theorem dX8_follows_28 : decode cX8_follows 28 = .ok (.iload_n 1, 1) := by decide +kernel
theorem dX8_follows_29 : decode cX8_follows 29 = .ok (.iconst 1, 1) := by decide +kernel
theorem dX8_follows_30 : decode cX8_follows 30 = .ok (.if_icmp .lt 237, 3) := by decide +kernel
theorem dX8_follows_33 : decode cX8_follows 33 = .ok (.bipush 66, 2) := by decide +kernel
theorem dX8_follows_35 : decode cX8_follows 35 = .ok (.iload_n 1, 1) := by decide +kernel
theorem dX8_follows_36 : decode cX8_follows 36 = .ok (.iadd, 1) := by decide +kernel
theorem dX8_follows_37 : decode cX8_follows 37 = .ok (.istore_n 2, 1) := by decide +kernel
theorem dX8_follows_38 : decode cX8_follows 38 = .ok (.aload_n 0, 1) := by decide +kernel
theorem dX8_follows_39 : decode cX8_follows 39 = .ok (.getfield 57, 3) := by decide +kernel
theorem dX8_follows_42 : decode cX8_follows 42 = .ok (.iconst 2, 1) := by decide +kernel
theorem dX8_follows_43 : decode cX8_follows 43 = .ok (.iload_n 1, 1) := by decide +kernel
theorem dX8_follows_44 : decode cX8_follows 44 = .ok (.imul, 1) := by decide +kernel
theorem dX8_follows_45 : decode cX8_follows 45 = .ok (.baload, 1) := by decide +kernel
theorem dX8_follows_46 : decode cX8_follows 46 = .ok (.ifCond .ne 16, 3) := by decide +kernel
theorem dX8_follows_49 : decode cX8_follows 49 = .ok (.aload_n 0, 1) := by decide +kernel
theorem dX8_follows_50 : decode cX8_follows 50 = .ok (.getfield 57, 3) := by decide +kernel
theorem dX8_follows_53 : decode cX8_follows 53 = .ok (.iconst 2, 1) := by decide +kernel
theorem dX8_follows_54 : decode cX8_follows 54 = .ok (.iload_n 1, 1) := by decide +kernel
theorem dX8_follows_55 : decode cX8_follows 55 = .ok (.imul, 1) := by decide +kernel
theorem dX8_follows_56 : decode cX8_follows 56 = .ok (.iconst 1, 1) := by decide +kernel
theorem dX8_follows_57 : decode cX8_follows 57 = .ok (.iadd, 1) := by decide +kernel
theorem dX8_follows_58 : decode cX8_follows 58 = .ok (.baload, 1) := by decide +kernel
theorem dX8_follows_59 : decode cX8_follows 59 = .ok (.ifCond .eq 76, 3) := by decide +kernel
theorem dX8_follows_62 : decode cX8_follows 62 = .ok (.aload_n 0, 1) := by decide +kernel
theorem dX8_follows_63 : decode cX8_follows 63 = .ok (.dup, 1) := by decide +kernel
theorem dX8_follows_64 : decode cX8_follows 64 = .ok (.getfield 142, 3) := by decide +kernel
theorem dX8_follows_67 : decode cX8_follows 67 = .ok (.aload_n 0, 1) := by decide +kernel
theorem dX8_follows_68 : decode cX8_follows 68 = .ok (.getfield 26, 3) := by decide +kernel
theorem dX8_follows_71 : decode cX8_follows 71 = .ok (.iload_n 2, 1) := by decide +kernel
theorem dX8_follows_72 : decode cX8_follows 72 = .ok (.iaload, 1) := by decide +kernel
theorem dX8_follows_73 : decode cX8_follows 73 = .ok (.ifCond .le 7, 3) := by decide +kernel
theorem dX8_follows_76 : decode cX8_follows 76 = .ok (.iconst 1, 1) := by decide +kernel
theorem dX8_follows_77 : decode cX8_follows 77 = .ok (.goto 4, 3) := by decide +kernel
theorem dX8_follows_80 : decode cX8_follows 80 = .ok (.iconst 0, 1) := by decide +kernel
theorem dX8_follows_81 : decode cX8_follows 81 = .ok (.iadd, 1) := by decide +kernel
theorem dX8_follows_82 : decode cX8_follows 82 = .ok (.putfield 142, 3) := by decide +kernel
theorem dX8_follows_85 : decode cX8_follows 85 = .ok (.aload_n 0, 1) := by decide +kernel
theorem dX8_follows_86 : decode cX8_follows 86 = .ok (.getfield 26, 3) := by decide +kernel
theorem dX8_follows_89 : decode cX8_follows 89 = .ok (.iload_n 2, 1) := by decide +kernel
theorem dX8_follows_90 : decode cX8_follows 90 = .ok (.iconst 0, 1) := by decide +kernel
theorem dX8_follows_91 : decode cX8_follows 91 = .ok (.iastore, 1) := by decide +kernel
theorem dX8_follows_92 : decode cX8_follows 92 = .ok (.aload_n 0, 1) := by decide +kernel
theorem dX8_follows_93 : decode cX8_follows 93 = .ok (.getfield 29, 3) := by decide +kernel
theorem dX8_follows_96 : decode cX8_follows 96 = .ok (.iconst 2, 1) := by decide +kernel
theorem dX8_follows_97 : decode cX8_follows 97 = .ok (.iload_n 2, 1) := by decide +kernel
theorem dX8_follows_98 : decode cX8_follows 98 = .ok (.imul, 1) := by decide +kernel
theorem dX8_follows_99 : decode cX8_follows 99 = .ok (.iconst 0, 1) := by decide +kernel
theorem dX8_follows_100 : decode cX8_follows 100 = .ok (.iastore, 1) := by decide +kernel
theorem dX8_follows_101 : decode cX8_follows 101 = .ok (.aload_n 0, 1) := by decide +kernel
theorem dX8_follows_102 : decode cX8_follows 102 = .ok (.getfield 29, 3) := by decide +kernel
theorem dX8_follows_105 : decode cX8_follows 105 = .ok (.iconst 2, 1) := by decide +kernel
theorem dX8_follows_106 : decode cX8_follows 106 = .ok (.iload_n 2, 1) := by decide +kernel
theorem dX8_follows_107 : decode cX8_follows 107 = .ok (.imul, 1) := by decide +kernel
theorem dX8_follows_108 : decode cX8_follows 108 = .ok (.iconst 1, 1) := by decide +kernel
theorem dX8_follows_109 : decode cX8_follows 109 = .ok (.iadd, 1) := by decide +kernel
theorem dX8_follows_110 : decode cX8_follows 110 = .ok (.iconst 0, 1) := by decide +kernel
theorem dX8_follows_111 : decode cX8_follows 111 = .ok (.iastore, 1) := by decide +kernel
theorem dX8_follows_112 : decode cX8_follows 112 = .ok (.aload_n 0, 1) := by decide +kernel
theorem dX8_follows_113 : decode cX8_follows 113 = .ok (.aload_n 0, 1) := by decide +kernel
theorem dX8_follows_114 : decode cX8_follows 114 = .ok (.getfield 47, 3) := by decide +kernel
theorem dX8_follows_117 : decode cX8_follows 117 = .ok (.bipush 100, 2) := by decide +kernel
theorem dX8_follows_119 : decode cX8_follows 119 = .ok (.iload_n 1, 1) := by decide +kernel
theorem dX8_follows_120 : decode cX8_follows 120 = .ok (.iadd, 1) := by decide +kernel
theorem dX8_follows_121 : decode cX8_follows 121 = .ok (.if_icmp .ne 7, 3) := by decide +kernel
theorem dX8_follows_124 : decode cX8_follows 124 = .ok (.iconst (-1), 1) := by decide +kernel
theorem dX8_follows_125 : decode cX8_follows 125 = .ok (.goto 7, 3) := by decide +kernel
theorem dX8_follows_128 : decode cX8_follows 128 = .ok (.aload_n 0, 1) := by decide +kernel
theorem dX8_follows_129 : decode cX8_follows 129 = .ok (.getfield 47, 3) := by decide +kernel
theorem dX8_follows_132 : decode cX8_follows 132 = .ok (.putfield 47, 3) := by decide +kernel
theorem dX8_follows_135 : decode cX8_follows 135 = .ok (.aload_n 0, 1) := by decide +kernel
theorem dX8_follows_136 : decode cX8_follows 136 = .ok (.getfield 54, 3) := by decide +kernel
theorem dX8_follows_139 : decode cX8_follows 139 = .ok (.iconst 2, 1) := by decide +kernel
theorem dX8_follows_140 : decode cX8_follows 140 = .ok (.iload_n 1, 1) := by decide +kernel
theorem dX8_follows_141 : decode cX8_follows 141 = .ok (.imul, 1) := by decide +kernel
theorem dX8_follows_142 : decode cX8_follows 142 = .ok (.iaload, 1) := by decide +kernel
theorem dX8_follows_143 : decode cX8_follows 143 = .ok (.istore_n 3, 1) := by decide +kernel
theorem dX8_follows_144 : decode cX8_follows 144 = .ok (.aload_n 0, 1) := by decide +kernel
theorem dX8_follows_145 : decode cX8_follows 145 = .ok (.getfield 54, 3) := by decide +kernel
theorem dX8_follows_148 : decode cX8_follows 148 = .ok (.iconst 2, 1) := by decide +kernel
theorem dX8_follows_149 : decode cX8_follows 149 = .ok (.iload_n 1, 1) := by decide +kernel
theorem dX8_follows_150 : decode cX8_follows 150 = .ok (.imul, 1) := by decide +kernel
theorem dX8_follows_151 : decode cX8_follows 151 = .ok (.iconst 1, 1) := by decide +kernel
theorem dX8_follows_152 : decode cX8_follows 152 = .ok (.iadd, 1) := by decide +kernel
theorem dX8_follows_153 : decode cX8_follows 153 = .ok (.iaload, 1) := by decide +kernel
theorem dX8_follows_154 : decode cX8_follows 154 = .ok (.istore 4, 2) := by decide +kernel
theorem dX8_follows_156 : decode cX8_follows 156 = .ok (.iload_n 3, 1) := by decide +kernel
theorem dX8_follows_157 : decode cX8_follows 157 = .ok (.bipush (-2), 2) := by decide +kernel
theorem dX8_follows_159 : decode cX8_follows 159 = .ok (.if_icmp .ne 8, 3) := by decide +kernel
theorem dX8_follows_162 : decode cX8_follows 162 = .ok (.iload 4, 2) := by decide +kernel
theorem dX8_follows_164 : decode cX8_follows 164 = .ok (.goto 15, 3) := by decide +kernel
theorem dX8_follows_167 : decode cX8_follows 167 = .ok (.iload 4, 2) := by decide +kernel
theorem dX8_follows_169 : decode cX8_follows 169 = .ok (.bipush (-2), 2) := by decide +kernel
theorem dX8_follows_171 : decode cX8_follows 171 = .ok (.if_icmp .ne 7, 3) := by decide +kernel
theorem dX8_follows_174 : decode cX8_follows 174 = .ok (.iload_n 3, 1) := by decide +kernel
theorem dX8_follows_175 : decode cX8_follows 175 = .ok (.goto 4, 3) := by decide +kernel
theorem dX8_follows_178 : decode cX8_follows 178 = .ok (.iconst (-1), 1) := by decide +kernel
theorem dX8_follows_179 : decode cX8_follows 179 = .ok (.istore 5, 2) := by decide +kernel
theorem dX8_follows_181 : decode cX8_follows 181 = .ok (.iload_n 3, 1) := by decide +kernel
theorem dX8_follows_182 : decode cX8_follows 182 = .ok (.ifCond .lt 40, 3) := by decide +kernel
theorem dX8_follows_185 : decode cX8_follows 185 = .ok (.iload 4, 2) := by decide +kernel
theorem dX8_follows_187 : decode cX8_follows 187 = .ok (.ifCond .lt 35, 3) := by decide +kernel
theorem dX8_follows_190 : decode cX8_follows 190 = .ok (.aload_n 0, 1) := by decide +kernel
theorem dX8_follows_191 : decode cX8_follows 191 = .ok (.iload_n 2, 1) := by decide +kernel
theorem dX8_follows_192 : decode cX8_follows 192 = .ok (.invokevirtual 145, 3) := by decide +kernel
theorem dX8_follows_195 : decode cX8_follows 195 = .ok (.aload_n 0, 1) := by decide +kernel
theorem dX8_follows_196 : decode cX8_follows 196 = .ok (.getfield 135, 3) := by decide +kernel
theorem dX8_follows_199 : decode cX8_follows 199 = .ok (.iconst (-1), 1) := by decide +kernel
theorem dX8_follows_200 : decode cX8_follows 200 = .ok (.if_icmp .ne 7, 3) := by decide +kernel
theorem dX8_follows_203 : decode cX8_follows 203 = .ok (.iconst (-1), 1) := by decide +kernel
theorem dX8_follows_204 : decode cX8_follows 204 = .ok (.goto 16, 3) := by decide +kernel
theorem dX8_follows_207 : decode cX8_follows 207 = .ok (.aload_n 0, 1) := by decide +kernel
theorem dX8_follows_208 : decode cX8_follows 208 = .ok (.getfield 135, 3) := by decide +kernel
theorem dX8_follows_211 : decode cX8_follows 211 = .ok (.ifCond .ne 7, 3) := by decide +kernel
theorem dX8_follows_214 : decode cX8_follows 214 = .ok (.iload_n 3, 1) := by decide +kernel
theorem dX8_follows_215 : decode cX8_follows 215 = .ok (.goto 5, 3) := by decide +kernel
theorem dX8_follows_218 : decode cX8_follows 218 = .ok (.iload 4, 2) := by decide +kernel
theorem dX8_follows_220 : decode cX8_follows 220 = .ok (.istore 5, 2) := by decide +kernel
theorem dX8_follows_222 : decode cX8_follows 222 = .ok (.aload_n 0, 1) := by decide +kernel
theorem dX8_follows_223 : decode cX8_follows 223 = .ok (.getfield 57, 3) := by decide +kernel
theorem dX8_follows_226 : decode cX8_follows 226 = .ok (.iload_n 1, 1) := by decide +kernel
theorem dX8_follows_227 : decode cX8_follows 227 = .ok (.aload_n 0, 1) := by decide +kernel
theorem dX8_follows_228 : decode cX8_follows 228 = .ok (.getfield 54, 3) := by decide +kernel
theorem dX8_follows_231 : decode cX8_follows 231 = .ok (.iload_n 1, 1) := by decide +kernel
theorem dX8_follows_232 : decode cX8_follows 232 = .ok (.iaload, 1) := by decide +kernel
theorem dX8_follows_233 : decode cX8_follows 233 = .ok (.ifCond .lt 18, 3) := by decide +kernel
theorem dX8_follows_236 : decode cX8_follows 236 = .ok (.aload_n 0, 1) := by decide +kernel
theorem dX8_follows_237 : decode cX8_follows 237 = .ok (.getfield 54, 3) := by decide +kernel
theorem dX8_follows_240 : decode cX8_follows 240 = .ok (.iload_n 1, 1) := by decide +kernel
theorem dX8_follows_241 : decode cX8_follows 241 = .ok (.iaload, 1) := by decide +kernel
theorem dX8_follows_242 : decode cX8_follows 242 = .ok (.iload 5, 2) := by decide +kernel
theorem dX8_follows_244 : decode cX8_follows 244 = .ok (.if_icmp .eq 7, 3) := by decide +kernel
theorem dX8_follows_247 : decode cX8_follows 247 = .ok (.iconst 1, 1) := by decide +kernel
theorem dX8_follows_248 : decode cX8_follows 248 = .ok (.goto 4, 3) := by decide +kernel
theorem dX8_follows_251 : decode cX8_follows 251 = .ok (.iconst 0, 1) := by decide +kernel
theorem dX8_follows_252 : decode cX8_follows 252 = .ok (.bastore, 1) := by decide +kernel
theorem dX8_follows_253 : decode cX8_follows 253 = .ok (.aload_n 0, 1) := by decide +kernel
theorem dX8_follows_254 : decode cX8_follows 254 = .ok (.getfield 54, 3) := by decide +kernel
theorem dX8_follows_257 : decode cX8_follows 257 = .ok (.iload_n 1, 1) := by decide +kernel
theorem dX8_follows_258 : decode cX8_follows 258 = .ok (.iload 5, 2) := by decide +kernel
theorem dX8_follows_260 : decode cX8_follows 260 = .ok (.iastore, 1) := by decide +kernel
theorem dX8_follows_261 : decode cX8_follows 261 = .ok (.iinc 1 (-1), 3) := by decide +kernel
theorem dX8_follows_264 : decode cX8_follows 264 = .ok (.goto (-236), 3) := by decide +kernel
theorem dX8_follows_267 : decode cX8_follows 267 = .ok (.return_, 1) := by decide +kernel
theorem dX8_fencerAt_0 : decode cX8_fencerAt 0 = .ok (.iload_n 1, 1) := by decide +kernel
theorem dX8_fencerAt_1 : decode cX8_fencerAt 1 = .ok (.bipush 100, 2) := by decide +kernel
theorem dX8_fencerAt_3 : decode cX8_fencerAt 3 = .ok (.if_icmp .lt 19, 3) := by decide +kernel
theorem dX8_fencerAt_6 : decode cX8_fencerAt 6 = .ok (.aload_n 0, 1) := by decide +kernel
theorem dX8_fencerAt_7 : decode cX8_fencerAt 7 = .ok (.getfield 54, 3) := by decide +kernel
theorem dX8_fencerAt_10 : decode cX8_fencerAt 10 = .ok (.iconst 2, 1) := by decide +kernel
theorem dX8_fencerAt_11 : decode cX8_fencerAt 11 = .ok (.iload_n 1, 1) := by decide +kernel
theorem dX8_fencerAt_12 : decode cX8_fencerAt 12 = .ok (.bipush 100, 2) := by decide +kernel
theorem dX8_fencerAt_14 : decode cX8_fencerAt 14 = .ok (.isub, 1) := by decide +kernel
theorem dX8_fencerAt_15 : decode cX8_fencerAt 15 = .ok (.imul, 1) := by decide +kernel
theorem dX8_fencerAt_16 : decode cX8_fencerAt 16 = .ok (.iload_n 2, 1) := by decide +kernel
theorem dX8_fencerAt_17 : decode cX8_fencerAt 17 = .ok (.iadd, 1) := by decide +kernel
theorem dX8_fencerAt_18 : decode cX8_fencerAt 18 = .ok (.iaload, 1) := by decide +kernel
theorem dX8_fencerAt_19 : decode cX8_fencerAt 19 = .ok (.goto 22, 3) := by decide +kernel
theorem dX8_fencerAt_22 : decode cX8_fencerAt 22 = .ok (.iload_n 2, 1) := by decide +kernel
theorem dX8_fencerAt_23 : decode cX8_fencerAt 23 = .ok (.ifCond .ne 12, 3) := by decide +kernel
theorem dX8_fencerAt_26 : decode cX8_fencerAt 26 = .ok (.aload_n 0, 1) := by decide +kernel
theorem dX8_fencerAt_27 : decode cX8_fencerAt 27 = .ok (.getfield 20, 3) := by decide +kernel
theorem dX8_fencerAt_30 : decode cX8_fencerAt 30 = .ok (.iload_n 1, 1) := by decide +kernel
theorem dX8_fencerAt_31 : decode cX8_fencerAt 31 = .ok (.iaload, 1) := by decide +kernel
theorem dX8_fencerAt_32 : decode cX8_fencerAt 32 = .ok (.goto 9, 3) := by decide +kernel
theorem dX8_fencerAt_35 : decode cX8_fencerAt 35 = .ok (.aload_n 0, 1) := by decide +kernel
theorem dX8_fencerAt_36 : decode cX8_fencerAt 36 = .ok (.getfield 23, 3) := by decide +kernel
theorem dX8_fencerAt_39 : decode cX8_fencerAt 39 = .ok (.iload_n 1, 1) := by decide +kernel
theorem dX8_fencerAt_40 : decode cX8_fencerAt 40 = .ok (.iaload, 1) := by decide +kernel
theorem dX8_fencerAt_41 : decode cX8_fencerAt 41 = .ok (.ireturn, 1) := by decide +kernel
theorem dX8_winnerOf_0 : decode cX8_winnerOf 0 = .ok (.iload_n 1, 1) := by decide +kernel
theorem dX8_winnerOf_1 : decode cX8_winnerOf 1 = .ok (.bipush 100, 2) := by decide +kernel
theorem dX8_winnerOf_3 : decode cX8_winnerOf 3 = .ok (.if_icmp .lt 13, 3) := by decide +kernel
theorem dX8_winnerOf_6 : decode cX8_winnerOf 6 = .ok (.aload_n 0, 1) := by decide +kernel
theorem dX8_winnerOf_7 : decode cX8_winnerOf 7 = .ok (.getfield 54, 3) := by decide +kernel
theorem dX8_winnerOf_10 : decode cX8_winnerOf 10 = .ok (.iload_n 1, 1) := by decide +kernel
theorem dX8_winnerOf_11 : decode cX8_winnerOf 11 = .ok (.bipush 100, 2) := by decide +kernel
theorem dX8_winnerOf_13 : decode cX8_winnerOf 13 = .ok (.isub, 1) := by decide +kernel
theorem dX8_winnerOf_14 : decode cX8_winnerOf 14 = .ok (.iaload, 1) := by decide +kernel
theorem dX8_winnerOf_15 : decode cX8_winnerOf 15 = .ok (.ireturn, 1) := by decide +kernel
theorem dX8_winnerOf_16 : decode cX8_winnerOf 16 = .ok (.aload_n 0, 1) := by decide +kernel
theorem dX8_winnerOf_17 : decode cX8_winnerOf 17 = .ok (.iload_n 1, 1) := by decide +kernel
theorem dX8_winnerOf_18 : decode cX8_winnerOf 18 = .ok (.invokevirtual 145, 3) := by decide +kernel
theorem dX8_winnerOf_21 : decode cX8_winnerOf 21 = .ok (.aload_n 0, 1) := by decide +kernel
theorem dX8_winnerOf_22 : decode cX8_winnerOf 22 = .ok (.getfield 135, 3) := by decide +kernel
theorem dX8_winnerOf_25 : decode cX8_winnerOf 25 = .ok (.iconst (-1), 1) := by decide +kernel
theorem dX8_winnerOf_26 : decode cX8_winnerOf 26 = .ok (.if_icmp .ne 7, 3) := by decide +kernel
theorem dX8_winnerOf_29 : decode cX8_winnerOf 29 = .ok (.iconst (-1), 1) := by decide +kernel
theorem dX8_winnerOf_30 : decode cX8_winnerOf 30 = .ok (.goto 12, 3) := by decide +kernel
theorem dX8_winnerOf_33 : decode cX8_winnerOf 33 = .ok (.aload_n 0, 1) := by decide +kernel
theorem dX8_winnerOf_34 : decode cX8_winnerOf 34 = .ok (.iload_n 1, 1) := by decide +kernel
theorem dX8_winnerOf_35 : decode cX8_winnerOf 35 = .ok (.aload_n 0, 1) := by decide +kernel
theorem dX8_winnerOf_36 : decode cX8_winnerOf 36 = .ok (.getfield 135, 3) := by decide +kernel
theorem dX8_winnerOf_39 : decode cX8_winnerOf 39 = .ok (.invokevirtual 149, 3) := by decide +kernel
theorem dX8_winnerOf_42 : decode cX8_winnerOf 42 = .ok (.ireturn, 1) := by decide +kernel
theorem dX8_isFit_0 : decode cX8_isFit 0 = .ok (.aload_n 0, 1) := by decide +kernel
theorem dX8_isFit_1 : decode cX8_isFit 1 = .ok (.getfield 13, 3) := by decide +kernel
theorem dX8_isFit_4 : decode cX8_isFit 4 = .ok (.iload_n 3, 1) := by decide +kernel
theorem dX8_isFit_5 : decode cX8_isFit 5 = .ok (.iaload, 1) := by decide +kernel
theorem dX8_isFit_6 : decode cX8_isFit 6 = .ok (.iconst 1, 1) := by decide +kernel
theorem dX8_isFit_7 : decode cX8_isFit 7 = .ok (.if_icmp .ne 22, 3) := by decide +kernel
theorem dX8_isFit_10 : decode cX8_isFit 10 = .ok (.aload_n 0, 1) := by decide +kernel
theorem dX8_isFit_11 : decode cX8_isFit 11 = .ok (.iload_n 1, 1) := by decide +kernel
theorem dX8_isFit_12 : decode cX8_isFit 12 = .ok (.iload_n 2, 1) := by decide +kernel
theorem dX8_isFit_13 : decode cX8_isFit 13 = .ok (.invokevirtual 149, 3) := by decide +kernel
theorem dX8_isFit_16 : decode cX8_isFit 16 = .ok (.aload_n 0, 1) := by decide +kernel
theorem dX8_isFit_17 : decode cX8_isFit 17 = .ok (.getfield 7, 3) := by decide +kernel
theorem dX8_isFit_20 : decode cX8_isFit 20 = .ok (.iload_n 3, 1) := by decide +kernel
theorem dX8_isFit_21 : decode cX8_isFit 21 = .ok (.iaload, 1) := by decide +kernel
theorem dX8_isFit_22 : decode cX8_isFit 22 = .ok (.if_icmp .ne 7, 3) := by decide +kernel
theorem dX8_isFit_25 : decode cX8_isFit 25 = .ok (.iconst 1, 1) := by decide +kernel
theorem dX8_isFit_26 : decode cX8_isFit 26 = .ok (.goto 4, 3) := by decide +kernel
theorem dX8_isFit_29 : decode cX8_isFit 29 = .ok (.iconst 0, 1) := by decide +kernel
theorem dX8_isFit_30 : decode cX8_isFit 30 = .ok (.ireturn, 1) := by decide +kernel
theorem dX8_begin_0 : decode cX8_begin 0 = .ok (.aload_n 0, 1) := by decide +kernel
theorem dX8_begin_1 : decode cX8_begin 1 = .ok (.iload_n 1, 1) := by decide +kernel
theorem dX8_begin_2 : decode cX8_begin 2 = .ok (.invokevirtual 152, 3) := by decide +kernel
theorem dX8_begin_5 : decode cX8_begin 5 = .ok (.ifCond .eq 23, 3) := by decide +kernel
theorem dX8_begin_8 : decode cX8_begin 8 = .ok (.aload_n 0, 1) := by decide +kernel
theorem dX8_begin_9 : decode cX8_begin 9 = .ok (.iload_n 2, 1) := by decide +kernel
theorem dX8_begin_10 : decode cX8_begin 10 = .ok (.invokevirtual 109, 3) := by decide +kernel
theorem dX8_begin_13 : decode cX8_begin 13 = .ok (.ifCond .eq 15, 3) := by decide +kernel
theorem dX8_begin_16 : decode cX8_begin 16 = .ok (.aload_n 0, 1) := by decide +kernel
theorem dX8_begin_17 : decode cX8_begin 17 = .ok (.iload_n 3, 1) := by decide +kernel
theorem dX8_begin_18 : decode cX8_begin 18 = .ok (.invokevirtual 109, 3) := by decide +kernel
theorem dX8_begin_21 : decode cX8_begin 21 = .ok (.ifCond .eq 7, 3) := by decide +kernel
theorem dX8_begin_24 : decode cX8_begin 24 = .ok (.iconst 1, 1) := by decide +kernel
theorem dX8_begin_25 : decode cX8_begin 25 = .ok (.goto 4, 3) := by decide +kernel
theorem dX8_begin_28 : decode cX8_begin 28 = .ok (.iconst 0, 1) := by decide +kernel
theorem dX8_begin_29 : decode cX8_begin 29 = .ok (.istore 4, 2) := by decide +kernel
theorem dX8_begin_31 : decode cX8_begin 31 = .ok (.iload 4, 2) := by decide +kernel
theorem dX8_begin_33 : decode cX8_begin 33 = .ok (.ifCond .eq 32, 3) := by decide +kernel
theorem dX8_begin_36 : decode cX8_begin 36 = .ok (.aload_n 0, 1) := by decide +kernel
theorem dX8_begin_37 : decode cX8_begin 37 = .ok (.getfield 112, 3) := by decide +kernel
theorem dX8_begin_40 : decode cX8_begin 40 = .ok (.ifCond .ne 25, 3) := by decide +kernel
theorem dX8_begin_43 : decode cX8_begin 43 = .ok (.aload_n 0, 1) := by decide +kernel
theorem dX8_begin_44 : decode cX8_begin 44 = .ok (.iload_n 1, 1) := by decide +kernel
theorem dX8_begin_45 : decode cX8_begin 45 = .ok (.iconst 0, 1) := by decide +kernel
theorem dX8_begin_46 : decode cX8_begin 46 = .ok (.invokevirtual 149, 3) := by decide +kernel
theorem dX8_begin_49 : decode cX8_begin 49 = .ok (.ifCond .lt 16, 3) := by decide +kernel
theorem dX8_begin_52 : decode cX8_begin 52 = .ok (.aload_n 0, 1) := by decide +kernel
theorem dX8_begin_53 : decode cX8_begin 53 = .ok (.iload_n 1, 1) := by decide +kernel
theorem dX8_begin_54 : decode cX8_begin 54 = .ok (.iconst 1, 1) := by decide +kernel
theorem dX8_begin_55 : decode cX8_begin 55 = .ok (.invokevirtual 149, 3) := by decide +kernel
theorem dX8_begin_58 : decode cX8_begin 58 = .ok (.ifCond .lt 7, 3) := by decide +kernel
theorem dX8_begin_61 : decode cX8_begin 61 = .ok (.iconst 1, 1) := by decide +kernel
theorem dX8_begin_62 : decode cX8_begin 62 = .ok (.goto 4, 3) := by decide +kernel
theorem dX8_begin_65 : decode cX8_begin 65 = .ok (.iconst 0, 1) := by decide +kernel
theorem dX8_begin_66 : decode cX8_begin 66 = .ok (.istore 5, 2) := by decide +kernel
theorem dX8_begin_68 : decode cX8_begin 68 = .ok (.iload 5, 2) := by decide +kernel
theorem dX8_begin_70 : decode cX8_begin 70 = .ok (.ifCond .eq 36, 3) := by decide +kernel
theorem dX8_begin_73 : decode cX8_begin 73 = .ok (.aload_n 0, 1) := by decide +kernel
theorem dX8_begin_74 : decode cX8_begin 74 = .ok (.iload_n 1, 1) := by decide +kernel
theorem dX8_begin_75 : decode cX8_begin 75 = .ok (.invokevirtual 155, 3) := by decide +kernel
theorem dX8_begin_78 : decode cX8_begin 78 = .ok (.iconst (-1), 1) := by decide +kernel
theorem dX8_begin_79 : decode cX8_begin 79 = .ok (.if_icmp .ne 27, 3) := by decide +kernel
theorem dX8_begin_82 : decode cX8_begin 82 = .ok (.aload_n 0, 1) := by decide +kernel
theorem dX8_begin_83 : decode cX8_begin 83 = .ok (.iload_n 1, 1) := by decide +kernel
theorem dX8_begin_84 : decode cX8_begin 84 = .ok (.iconst 0, 1) := by decide +kernel
theorem dX8_begin_85 : decode cX8_begin 85 = .ok (.iload_n 2, 1) := by decide +kernel
theorem dX8_begin_86 : decode cX8_begin 86 = .ok (.invokevirtual 158, 3) := by decide +kernel
theorem dX8_begin_89 : decode cX8_begin 89 = .ok (.ifCond .eq 17, 3) := by decide +kernel
theorem dX8_begin_92 : decode cX8_begin 92 = .ok (.aload_n 0, 1) := by decide +kernel
theorem dX8_begin_93 : decode cX8_begin 93 = .ok (.iload_n 1, 1) := by decide +kernel
theorem dX8_begin_94 : decode cX8_begin 94 = .ok (.iconst 1, 1) := by decide +kernel
theorem dX8_begin_95 : decode cX8_begin 95 = .ok (.iload_n 3, 1) := by decide +kernel
theorem dX8_begin_96 : decode cX8_begin 96 = .ok (.invokevirtual 158, 3) := by decide +kernel
theorem dX8_begin_99 : decode cX8_begin 99 = .ok (.ifCond .eq 7, 3) := by decide +kernel
theorem dX8_begin_102 : decode cX8_begin 102 = .ok (.iconst 1, 1) := by decide +kernel
theorem dX8_begin_103 : decode cX8_begin 103 = .ok (.goto 4, 3) := by decide +kernel
theorem dX8_begin_106 : decode cX8_begin 106 = .ok (.iconst 0, 1) := by decide +kernel
theorem dX8_begin_107 : decode cX8_begin 107 = .ok (.istore 5, 2) := by decide +kernel
theorem dX8_begin_109 : decode cX8_begin 109 = .ok (.aload_n 0, 1) := by decide +kernel
theorem dX8_begin_110 : decode cX8_begin 110 = .ok (.iload 4, 2) := by decide +kernel
theorem dX8_begin_112 : decode cX8_begin 112 = .ok (.iload 5, 2) := by decide +kernel
theorem dX8_begin_114 : decode cX8_begin 114 = .ok (.iconst 1, 1) := by decide +kernel
theorem dX8_begin_115 : decode cX8_begin 115 = .ok (.invokevirtual 101, 3) := by decide +kernel
theorem dX8_begin_118 : decode cX8_begin 118 = .ok (.ifCond .ne 5, 3) := by decide +kernel
theorem dX8_begin_121 : decode cX8_begin 121 = .ok (.iconst 0, 1) := by decide +kernel
theorem dX8_begin_122 : decode cX8_begin 122 = .ok (.ireturn, 1) := by decide +kernel
theorem dX8_begin_123 : decode cX8_begin 123 = .ok (.aload_n 0, 1) := by decide +kernel
theorem dX8_begin_124 : decode cX8_begin 124 = .ok (.iload_n 1, 1) := by decide +kernel
theorem dX8_begin_125 : decode cX8_begin 125 = .ok (.putfield 47, 3) := by decide +kernel
theorem dX8_begin_128 : decode cX8_begin 128 = .ok (.aload_n 0, 1) := by decide +kernel
theorem dX8_begin_129 : decode cX8_begin 129 = .ok (.getfield 51, 3) := by decide +kernel
theorem dX8_begin_132 : decode cX8_begin 132 = .ok (.iconst 0, 1) := by decide +kernel
theorem dX8_begin_133 : decode cX8_begin 133 = .ok (.iload_n 2, 1) := by decide +kernel
theorem dX8_begin_134 : decode cX8_begin 134 = .ok (.iastore, 1) := by decide +kernel
theorem dX8_begin_135 : decode cX8_begin 135 = .ok (.aload_n 0, 1) := by decide +kernel
theorem dX8_begin_136 : decode cX8_begin 136 = .ok (.getfield 51, 3) := by decide +kernel
theorem dX8_begin_139 : decode cX8_begin 139 = .ok (.iconst 1, 1) := by decide +kernel
theorem dX8_begin_140 : decode cX8_begin 140 = .ok (.iload_n 3, 1) := by decide +kernel
theorem dX8_begin_141 : decode cX8_begin 141 = .ok (.iastore, 1) := by decide +kernel
theorem dX8_begin_142 : decode cX8_begin 142 = .ok (.aload_n 0, 1) := by decide +kernel
theorem dX8_begin_143 : decode cX8_begin 143 = .ok (.iconst 0, 1) := by decide +kernel
theorem dX8_begin_144 : decode cX8_begin 144 = .ok (.putfield 161, 3) := by decide +kernel
theorem dX8_begin_147 : decode cX8_begin 147 = .ok (.aload_n 0, 1) := by decide +kernel
theorem dX8_begin_148 : decode cX8_begin 148 = .ok (.getfield 26, 3) := by decide +kernel
theorem dX8_begin_151 : decode cX8_begin 151 = .ok (.iload_n 1, 1) := by decide +kernel
theorem dX8_begin_152 : decode cX8_begin 152 = .ok (.invokestatic 164, 3) := by decide +kernel
theorem dX8_begin_155 : decode cX8_begin 155 = .ok (.iaload, 1) := by decide +kernel
theorem dX8_begin_156 : decode cX8_begin 156 = .ok (.ireturn, 1) := by decide +kernel
theorem dX8_change_0 : decode cX8_change 0 = .ok (.iload_n 1, 1) := by decide +kernel
theorem dX8_change_1 : decode cX8_change 1 = .ok (.invokestatic 167, 3) := by decide +kernel
theorem dX8_change_4 : decode cX8_change 4 = .ok (.ifCond .eq 15, 3) := by decide +kernel
theorem dX8_change_7 : decode cX8_change 7 = .ok (.aload_n 0, 1) := by decide +kernel
theorem dX8_change_8 : decode cX8_change 8 = .ok (.iload_n 2, 1) := by decide +kernel
theorem dX8_change_9 : decode cX8_change 9 = .ok (.invokevirtual 109, 3) := by decide +kernel
theorem dX8_change_12 : decode cX8_change 12 = .ok (.ifCond .eq 7, 3) := by decide +kernel
theorem dX8_change_15 : decode cX8_change 15 = .ok (.iconst 1, 1) := by decide +kernel
theorem dX8_change_16 : decode cX8_change 16 = .ok (.goto 4, 3) := by decide +kernel
theorem dX8_change_19 : decode cX8_change 19 = .ok (.iconst 0, 1) := by decide +kernel
theorem dX8_change_20 : decode cX8_change 20 = .ok (.istore_n 3, 1) := by decide +kernel
theorem dX8_change_21 : decode cX8_change 21 = .ok (.aload_n 0, 1) := by decide +kernel
theorem dX8_change_22 : decode cX8_change 22 = .ok (.iload_n 3, 1) := by decide +kernel
theorem dX8_change_23 : decode cX8_change 23 = .ok (.iload_n 3, 1) := by decide +kernel
theorem dX8_change_24 : decode cX8_change 24 = .ok (.ifCond .eq 35, 3) := by decide +kernel
theorem dX8_change_27 : decode cX8_change 27 = .ok (.aload_n 0, 1) := by decide +kernel
theorem dX8_change_28 : decode cX8_change 28 = .ok (.getfield 47, 3) := by decide +kernel
theorem dX8_change_31 : decode cX8_change 31 = .ok (.iconst (-1), 1) := by decide +kernel
theorem dX8_change_32 : decode cX8_change 32 = .ok (.if_icmp .eq 27, 3) := by decide +kernel
theorem dX8_change_35 : decode cX8_change 35 = .ok (.aload_n 0, 1) := by decide +kernel
theorem dX8_change_36 : decode cX8_change 36 = .ok (.getfield 112, 3) := by decide +kernel
theorem dX8_change_39 : decode cX8_change 39 = .ok (.ifCond .ne 20, 3) := by decide +kernel
theorem dX8_change_42 : decode cX8_change 42 = .ok (.aload_n 0, 1) := by decide +kernel
theorem dX8_change_43 : decode cX8_change 43 = .ok (.aload_n 0, 1) := by decide +kernel
theorem dX8_change_44 : decode cX8_change 44 = .ok (.getfield 47, 3) := by decide +kernel
theorem dX8_change_47 : decode cX8_change 47 = .ok (.iload_n 1, 1) := by decide +kernel
theorem dX8_change_48 : decode cX8_change 48 = .ok (.iload_n 2, 1) := by decide +kernel
theorem dX8_change_49 : decode cX8_change 49 = .ok (.invokevirtual 158, 3) := by decide +kernel
theorem dX8_change_52 : decode cX8_change 52 = .ok (.ifCond .eq 7, 3) := by decide +kernel
theorem dX8_change_55 : decode cX8_change 55 = .ok (.iconst 1, 1) := by decide +kernel
theorem dX8_change_56 : decode cX8_change 56 = .ok (.goto 4, 3) := by decide +kernel
theorem dX8_change_59 : decode cX8_change 59 = .ok (.iconst 0, 1) := by decide +kernel
theorem dX8_change_60 : decode cX8_change 60 = .ok (.iconst 1, 1) := by decide +kernel
theorem dX8_change_61 : decode cX8_change 61 = .ok (.invokevirtual 101, 3) := by decide +kernel
theorem dX8_change_64 : decode cX8_change 64 = .ok (.ifCond .ne 5, 3) := by decide +kernel
theorem dX8_change_67 : decode cX8_change 67 = .ok (.iconst 0, 1) := by decide +kernel
theorem dX8_change_68 : decode cX8_change 68 = .ok (.ireturn, 1) := by decide +kernel
theorem dX8_change_69 : decode cX8_change 69 = .ok (.aload_n 0, 1) := by decide +kernel
theorem dX8_change_70 : decode cX8_change 70 = .ok (.getfield 51, 3) := by decide +kernel
theorem dX8_change_73 : decode cX8_change 73 = .ok (.iload_n 1, 1) := by decide +kernel
theorem dX8_change_74 : decode cX8_change 74 = .ok (.iaload, 1) := by decide +kernel
theorem dX8_change_75 : decode cX8_change 75 = .ok (.istore 4, 2) := by decide +kernel
theorem dX8_change_77 : decode cX8_change 77 = .ok (.aload_n 0, 1) := by decide +kernel
theorem dX8_change_78 : decode cX8_change 78 = .ok (.getfield 51, 3) := by decide +kernel
theorem dX8_change_81 : decode cX8_change 81 = .ok (.iload_n 1, 1) := by decide +kernel
theorem dX8_change_82 : decode cX8_change 82 = .ok (.iload_n 2, 1) := by decide +kernel
theorem dX8_change_83 : decode cX8_change 83 = .ok (.iastore, 1) := by decide +kernel
theorem dX8_change_84 : decode cX8_change 84 = .ok (.iload 4, 2) := by decide +kernel
theorem dX8_change_86 : decode cX8_change 86 = .ok (.ireturn, 1) := by decide +kernel
theorem dX8_allez_0 : decode cX8_allez 0 = .ok (.aload_n 0, 1) := by decide +kernel
theorem dX8_allez_1 : decode cX8_allez 1 = .ok (.getfield 47, 3) := by decide +kernel
theorem dX8_allez_4 : decode cX8_allez 4 = .ok (.iconst (-1), 1) := by decide +kernel
theorem dX8_allez_5 : decode cX8_allez 5 = .ok (.if_icmp .eq 44, 3) := by decide +kernel
theorem dX8_allez_8 : decode cX8_allez 8 = .ok (.aload_n 0, 1) := by decide +kernel
theorem dX8_allez_9 : decode cX8_allez 9 = .ok (.getfield 112, 3) := by decide +kernel
theorem dX8_allez_12 : decode cX8_allez 12 = .ok (.ifCond .ne 37, 3) := by decide +kernel
theorem dX8_allez_15 : decode cX8_allez 15 = .ok (.aload_n 0, 1) := by decide +kernel
theorem dX8_allez_16 : decode cX8_allez 16 = .ok (.getfield 13, 3) := by decide +kernel
theorem dX8_allez_19 : decode cX8_allez 19 = .ok (.aload_n 0, 1) := by decide +kernel
theorem dX8_allez_20 : decode cX8_allez 20 = .ok (.getfield 51, 3) := by decide +kernel
theorem dX8_allez_23 : decode cX8_allez 23 = .ok (.iconst 0, 1) := by decide +kernel
theorem dX8_allez_24 : decode cX8_allez 24 = .ok (.iaload, 1) := by decide +kernel
theorem dX8_allez_25 : decode cX8_allez 25 = .ok (.iaload, 1) := by decide +kernel
theorem dX8_allez_26 : decode cX8_allez 26 = .ok (.iconst 1, 1) := by decide +kernel
theorem dX8_allez_27 : decode cX8_allez 27 = .ok (.if_icmp .ne 22, 3) := by decide +kernel
theorem dX8_allez_30 : decode cX8_allez 30 = .ok (.aload_n 0, 1) := by decide +kernel
theorem dX8_allez_31 : decode cX8_allez 31 = .ok (.getfield 13, 3) := by decide +kernel
theorem dX8_allez_34 : decode cX8_allez 34 = .ok (.aload_n 0, 1) := by decide +kernel
theorem dX8_allez_35 : decode cX8_allez 35 = .ok (.getfield 51, 3) := by decide +kernel
theorem dX8_allez_38 : decode cX8_allez 38 = .ok (.iconst 1, 1) := by decide +kernel
theorem dX8_allez_39 : decode cX8_allez 39 = .ok (.iaload, 1) := by decide +kernel
theorem dX8_allez_40 : decode cX8_allez 40 = .ok (.iaload, 1) := by decide +kernel
theorem dX8_allez_41 : decode cX8_allez 41 = .ok (.iconst 1, 1) := by decide +kernel
theorem dX8_allez_42 : decode cX8_allez 42 = .ok (.if_icmp .ne 7, 3) := by decide +kernel
theorem dX8_allez_45 : decode cX8_allez 45 = .ok (.iconst 1, 1) := by decide +kernel
theorem dX8_allez_46 : decode cX8_allez 46 = .ok (.goto 4, 3) := by decide +kernel
theorem dX8_allez_49 : decode cX8_allez 49 = .ok (.iconst 0, 1) := by decide +kernel
theorem dX8_allez_50 : decode cX8_allez 50 = .ok (.istore_n 1, 1) := by decide +kernel
theorem dX8_allez_51 : decode cX8_allez 51 = .ok (.aload_n 0, 1) := by decide +kernel
theorem dX8_allez_52 : decode cX8_allez 52 = .ok (.iload_n 1, 1) := by decide +kernel
theorem dX8_allez_53 : decode cX8_allez 53 = .ok (.ifCond .eq 19, 3) := by decide +kernel
theorem dX8_allez_56 : decode cX8_allez 56 = .ok (.aload_n 0, 1) := by decide +kernel
theorem dX8_allez_57 : decode cX8_allez 57 = .ok (.aload_n 0, 1) := by decide +kernel
theorem dX8_allez_58 : decode cX8_allez 58 = .ok (.getfield 47, 3) := by decide +kernel
theorem dX8_allez_61 : decode cX8_allez 61 = .ok (.invokevirtual 155, 3) := by decide +kernel
theorem dX8_allez_64 : decode cX8_allez 64 = .ok (.iconst (-1), 1) := by decide +kernel
theorem dX8_allez_65 : decode cX8_allez 65 = .ok (.if_icmp .ne 7, 3) := by decide +kernel
theorem dX8_allez_68 : decode cX8_allez 68 = .ok (.iconst 1, 1) := by decide +kernel
theorem dX8_allez_69 : decode cX8_allez 69 = .ok (.goto 4, 3) := by decide +kernel
theorem dX8_allez_72 : decode cX8_allez 72 = .ok (.iconst 0, 1) := by decide +kernel
theorem dX8_allez_73 : decode cX8_allez 73 = .ok (.iconst 1, 1) := by decide +kernel
theorem dX8_allez_74 : decode cX8_allez 74 = .ok (.iconst 1, 1) := by decide +kernel
theorem dX8_allez_75 : decode cX8_allez 75 = .ok (.invokevirtual 101, 3) := by decide +kernel
theorem dX8_allez_78 : decode cX8_allez 78 = .ok (.ifCond .ne 5, 3) := by decide +kernel
theorem dX8_allez_81 : decode cX8_allez 81 = .ok (.iconst 0, 1) := by decide +kernel
theorem dX8_allez_82 : decode cX8_allez 82 = .ok (.ireturn, 1) := by decide +kernel
theorem dX8_allez_83 : decode cX8_allez 83 = .ok (.aload_n 0, 1) := by decide +kernel
theorem dX8_allez_84 : decode cX8_allez 84 = .ok (.getfield 47, 3) := by decide +kernel
theorem dX8_allez_87 : decode cX8_allez 87 = .ok (.invokestatic 164, 3) := by decide +kernel
theorem dX8_allez_90 : decode cX8_allez 90 = .ok (.istore_n 2, 1) := by decide +kernel
theorem dX8_allez_91 : decode cX8_allez 91 = .ok (.bipush 12, 2) := by decide +kernel
theorem dX8_allez_93 : decode cX8_allez 93 = .ok (.iload_n 2, 1) := by decide +kernel
theorem dX8_allez_94 : decode cX8_allez 94 = .ok (.imul, 1) := by decide +kernel
theorem dX8_allez_95 : decode cX8_allez 95 = .ok (.aload_n 0, 1) := by decide +kernel
theorem dX8_allez_96 : decode cX8_allez 96 = .ok (.getfield 26, 3) := by decide +kernel
theorem dX8_allez_99 : decode cX8_allez 99 = .ok (.iload_n 2, 1) := by decide +kernel
theorem dX8_allez_100 : decode cX8_allez 100 = .ok (.iaload, 1) := by decide +kernel
theorem dX8_allez_101 : decode cX8_allez 101 = .ok (.iadd, 1) := by decide +kernel
theorem dX8_allez_102 : decode cX8_allez 102 = .ok (.istore_n 3, 1) := by decide +kernel
theorem dX8_allez_103 : decode cX8_allez 103 = .ok (.aload_n 0, 1) := by decide +kernel
theorem dX8_allez_104 : decode cX8_allez 104 = .ok (.getfield 32, 3) := by decide +kernel
theorem dX8_allez_107 : decode cX8_allez 107 = .ok (.iload_n 3, 1) := by decide +kernel
theorem dX8_allez_108 : decode cX8_allez 108 = .ok (.iconst 0, 1) := by decide +kernel
theorem dX8_allez_109 : decode cX8_allez 109 = .ok (.iastore, 1) := by decide +kernel
theorem dX8_allez_110 : decode cX8_allez 110 = .ok (.aload_n 0, 1) := by decide +kernel
theorem dX8_allez_111 : decode cX8_allez 111 = .ok (.getfield 35, 3) := by decide +kernel
theorem dX8_allez_114 : decode cX8_allez 114 = .ok (.iconst 2, 1) := by decide +kernel
theorem dX8_allez_115 : decode cX8_allez 115 = .ok (.iload_n 3, 1) := by decide +kernel
theorem dX8_allez_116 : decode cX8_allez 116 = .ok (.imul, 1) := by decide +kernel
theorem dX8_allez_117 : decode cX8_allez 117 = .ok (.aload_n 0, 1) := by decide +kernel
theorem dX8_allez_118 : decode cX8_allez 118 = .ok (.getfield 51, 3) := by decide +kernel
theorem dX8_allez_121 : decode cX8_allez 121 = .ok (.iconst 0, 1) := by decide +kernel
theorem dX8_allez_122 : decode cX8_allez 122 = .ok (.iaload, 1) := by decide +kernel
theorem dX8_allez_123 : decode cX8_allez 123 = .ok (.iastore, 1) := by decide +kernel
theorem dX8_allez_124 : decode cX8_allez 124 = .ok (.aload_n 0, 1) := by decide +kernel
theorem dX8_allez_125 : decode cX8_allez 125 = .ok (.getfield 35, 3) := by decide +kernel
theorem dX8_allez_128 : decode cX8_allez 128 = .ok (.iconst 2, 1) := by decide +kernel
theorem dX8_allez_129 : decode cX8_allez 129 = .ok (.iload_n 3, 1) := by decide +kernel
theorem dX8_allez_130 : decode cX8_allez 130 = .ok (.imul, 1) := by decide +kernel
theorem dX8_allez_131 : decode cX8_allez 131 = .ok (.iconst 1, 1) := by decide +kernel
theorem dX8_allez_132 : decode cX8_allez 132 = .ok (.iadd, 1) := by decide +kernel
theorem dX8_allez_133 : decode cX8_allez 133 = .ok (.aload_n 0, 1) := by decide +kernel
theorem dX8_allez_134 : decode cX8_allez 134 = .ok (.getfield 51, 3) := by decide +kernel
theorem dX8_allez_137 : decode cX8_allez 137 = .ok (.iconst 1, 1) := by decide +kernel
theorem dX8_allez_138 : decode cX8_allez 138 = .ok (.iaload, 1) := by decide +kernel
theorem dX8_allez_139 : decode cX8_allez 139 = .ok (.iastore, 1) := by decide +kernel
theorem dX8_allez_140 : decode cX8_allez 140 = .ok (.aload_n 0, 1) := by decide +kernel
theorem dX8_allez_141 : decode cX8_allez 141 = .ok (.getfield 38, 3) := by decide +kernel
theorem dX8_allez_144 : decode cX8_allez 144 = .ok (.iload_n 3, 1) := by decide +kernel
theorem dX8_allez_145 : decode cX8_allez 145 = .ok (.bipush (-2), 2) := by decide +kernel
theorem dX8_allez_147 : decode cX8_allez 147 = .ok (.iastore, 1) := by decide +kernel
theorem dX8_allez_148 : decode cX8_allez 148 = .ok (.aload_n 0, 1) := by decide +kernel
theorem dX8_allez_149 : decode cX8_allez 149 = .ok (.iconst 1, 1) := by decide +kernel
theorem dX8_allez_150 : decode cX8_allez 150 = .ok (.putfield 112, 3) := by decide +kernel
theorem dX8_allez_153 : decode cX8_allez 153 = .ok (.aload_n 0, 1) := by decide +kernel
theorem dX8_allez_154 : decode cX8_allez 154 = .ok (.iconst 0, 1) := by decide +kernel
theorem dX8_allez_155 : decode cX8_allez 155 = .ok (.putfield 161, 3) := by decide +kernel
theorem dX8_allez_158 : decode cX8_allez 158 = .ok (.aload_n 0, 1) := by decide +kernel
theorem dX8_allez_159 : decode cX8_allez 159 = .ok (.getfield 26, 3) := by decide +kernel
theorem dX8_allez_162 : decode cX8_allez 162 = .ok (.iload_n 2, 1) := by decide +kernel
theorem dX8_allez_163 : decode cX8_allez 163 = .ok (.iaload, 1) := by decide +kernel
theorem dX8_allez_164 : decode cX8_allez 164 = .ok (.ireturn, 1) := by decide +kernel
theorem dX8_latest_0 : decode cX8_latest 0 = .ok (.aload_n 0, 1) := by decide +kernel
theorem dX8_latest_1 : decode cX8_latest 1 = .ok (.getfield 47, 3) := by decide +kernel
theorem dX8_latest_4 : decode cX8_latest 4 = .ok (.invokestatic 164, 3) := by decide +kernel
theorem dX8_latest_7 : decode cX8_latest 7 = .ok (.istore_n 1, 1) := by decide +kernel
theorem dX8_latest_8 : decode cX8_latest 8 = .ok (.bipush 12, 2) := by decide +kernel
theorem dX8_latest_10 : decode cX8_latest 10 = .ok (.iload_n 1, 1) := by decide +kernel
theorem dX8_latest_11 : decode cX8_latest 11 = .ok (.imul, 1) := by decide +kernel
theorem dX8_latest_12 : decode cX8_latest 12 = .ok (.aload_n 0, 1) := by decide +kernel
theorem dX8_latest_13 : decode cX8_latest 13 = .ok (.getfield 26, 3) := by decide +kernel
theorem dX8_latest_16 : decode cX8_latest 16 = .ok (.iload_n 1, 1) := by decide +kernel
theorem dX8_latest_17 : decode cX8_latest 17 = .ok (.iaload, 1) := by decide +kernel
theorem dX8_latest_18 : decode cX8_latest 18 = .ok (.iadd, 1) := by decide +kernel
theorem dX8_latest_19 : decode cX8_latest 19 = .ok (.ireturn, 1) := by decide +kernel
theorem dX8_isTime_0 : decode cX8_isTime 0 = .ok (.iload_n 1, 1) := by decide +kernel
theorem dX8_isTime_1 : decode cX8_isTime 1 = .ok (.ifCond .lt 7, 3) := by decide +kernel
theorem dX8_isTime_4 : decode cX8_isTime 4 = .ok (.iconst 1, 1) := by decide +kernel
theorem dX8_isTime_5 : decode cX8_isTime 5 = .ok (.goto 4, 3) := by decide +kernel
theorem dX8_isTime_8 : decode cX8_isTime 8 = .ok (.iconst 0, 1) := by decide +kernel
theorem dX8_isTime_9 : decode cX8_isTime 9 = .ok (.istore_n 2, 1) := by decide +kernel
theorem dX8_isTime_10 : decode cX8_isTime 10 = .ok (.aload_n 0, 1) := by decide +kernel
theorem dX8_isTime_11 : decode cX8_isTime 11 = .ok (.getfield 112, 3) := by decide +kernel
theorem dX8_isTime_14 : decode cX8_isTime 14 = .ok (.ifCond .eq 49, 3) := by decide +kernel
theorem dX8_isTime_17 : decode cX8_isTime 17 = .ok (.aload_n 0, 1) := by decide +kernel
theorem dX8_isTime_18 : decode cX8_isTime 18 = .ok (.invokevirtual 170, 3) := by decide +kernel
theorem dX8_isTime_21 : decode cX8_isTime 21 = .ok (.istore_n 3, 1) := by decide +kernel
theorem dX8_isTime_22 : decode cX8_isTime 22 = .ok (.iload_n 2, 1) := by decide +kernel
theorem dX8_isTime_23 : decode cX8_isTime 23 = .ok (.ifCond .eq 38, 3) := by decide +kernel
theorem dX8_isTime_26 : decode cX8_isTime 26 = .ok (.aload_n 0, 1) := by decide +kernel
theorem dX8_isTime_27 : decode cX8_isTime 27 = .ok (.getfield 32, 3) := by decide +kernel
theorem dX8_isTime_30 : decode cX8_isTime 30 = .ok (.iload_n 3, 1) := by decide +kernel
theorem dX8_isTime_31 : decode cX8_isTime 31 = .ok (.iaload, 1) := by decide +kernel
theorem dX8_isTime_32 : decode cX8_isTime 32 = .ok (.ifCond .eq 25, 3) := by decide +kernel
theorem dX8_isTime_35 : decode cX8_isTime 35 = .ok (.iload_n 1, 1) := by decide +kernel
theorem dX8_isTime_36 : decode cX8_isTime 36 = .ok (.aload_n 0, 1) := by decide +kernel
theorem dX8_isTime_37 : decode cX8_isTime 37 = .ok (.getfield 44, 3) := by decide +kernel
theorem dX8_isTime_40 : decode cX8_isTime 40 = .ok (.bipush 8, 2) := by decide +kernel
theorem dX8_isTime_42 : decode cX8_isTime 42 = .ok (.iload_n 3, 1) := by decide +kernel
theorem dX8_isTime_43 : decode cX8_isTime 43 = .ok (.imul, 1) := by decide +kernel
theorem dX8_isTime_44 : decode cX8_isTime 44 = .ok (.aload_n 0, 1) := by decide +kernel
theorem dX8_isTime_45 : decode cX8_isTime 45 = .ok (.getfield 32, 3) := by decide +kernel
theorem dX8_isTime_48 : decode cX8_isTime 48 = .ok (.iload_n 3, 1) := by decide +kernel
theorem dX8_isTime_49 : decode cX8_isTime 49 = .ok (.iaload, 1) := by decide +kernel
theorem dX8_isTime_50 : decode cX8_isTime 50 = .ok (.iadd, 1) := by decide +kernel
theorem dX8_isTime_51 : decode cX8_isTime 51 = .ok (.iconst 1, 1) := by decide +kernel
theorem dX8_isTime_52 : decode cX8_isTime 52 = .ok (.isub, 1) := by decide +kernel
theorem dX8_isTime_53 : decode cX8_isTime 53 = .ok (.iaload, 1) := by decide +kernel
theorem dX8_isTime_54 : decode cX8_isTime 54 = .ok (.if_icmp .lt 7, 3) := by decide +kernel
theorem dX8_isTime_57 : decode cX8_isTime 57 = .ok (.iconst 1, 1) := by decide +kernel
theorem dX8_isTime_58 : decode cX8_isTime 58 = .ok (.goto 4, 3) := by decide +kernel
theorem dX8_isTime_61 : decode cX8_isTime 61 = .ok (.iconst 0, 1) := by decide +kernel
theorem dX8_isTime_62 : decode cX8_isTime 62 = .ok (.istore_n 2, 1) := by decide +kernel
theorem dX8_isTime_63 : decode cX8_isTime 63 = .ok (.iload_n 2, 1) := by decide +kernel
theorem dX8_isTime_64 : decode cX8_isTime 64 = .ok (.ireturn, 1) := by decide +kernel
theorem dX8_hears_0 : decode cX8_hears 0 = .ok (.aload_n 0, 1) := by decide +kernel
theorem dX8_hears_1 : decode cX8_hears 1 = .ok (.getfield 112, 3) := by decide +kernel
theorem dX8_hears_4 : decode cX8_hears 4 = .ok (.ifCond .eq 21, 3) := by decide +kernel
theorem dX8_hears_7 : decode cX8_hears 7 = .ok (.aload_n 0, 1) := by decide +kernel
theorem dX8_hears_8 : decode cX8_hears 8 = .ok (.getfield 32, 3) := by decide +kernel
theorem dX8_hears_11 : decode cX8_hears 11 = .ok (.aload_n 0, 1) := by decide +kernel
theorem dX8_hears_12 : decode cX8_hears 12 = .ok (.invokevirtual 170, 3) := by decide +kernel
theorem dX8_hears_15 : decode cX8_hears 15 = .ok (.iaload, 1) := by decide +kernel
theorem dX8_hears_16 : decode cX8_hears 16 = .ok (.bipush 8, 2) := by decide +kernel
theorem dX8_hears_18 : decode cX8_hears 18 = .ok (.if_icmp .ge 7, 3) := by decide +kernel
theorem dX8_hears_21 : decode cX8_hears 21 = .ok (.iconst 1, 1) := by decide +kernel
theorem dX8_hears_22 : decode cX8_hears 22 = .ok (.goto 4, 3) := by decide +kernel
theorem dX8_hears_25 : decode cX8_hears 25 = .ok (.iconst 0, 1) := by decide +kernel
theorem dX8_hears_26 : decode cX8_hears 26 = .ok (.ireturn, 1) := by decide +kernel
theorem dX8_event_0 : decode cX8_event 0 = .ok (.aload_n 0, 1) := by decide +kernel
theorem dX8_event_1 : decode cX8_event 1 = .ok (.invokevirtual 170, 3) := by decide +kernel
theorem dX8_event_4 : decode cX8_event 4 = .ok (.istore_n 3, 1) := by decide +kernel
theorem dX8_event_5 : decode cX8_event 5 = .ok (.aload_n 0, 1) := by decide +kernel
theorem dX8_event_6 : decode cX8_event 6 = .ok (.getfield 41, 3) := by decide +kernel
theorem dX8_event_9 : decode cX8_event 9 = .ok (.bipush 8, 2) := by decide +kernel
theorem dX8_event_11 : decode cX8_event 11 = .ok (.iload_n 3, 1) := by decide +kernel
theorem dX8_event_12 : decode cX8_event 12 = .ok (.imul, 1) := by decide +kernel
theorem dX8_event_13 : decode cX8_event 13 = .ok (.aload_n 0, 1) := by decide +kernel
theorem dX8_event_14 : decode cX8_event 14 = .ok (.getfield 32, 3) := by decide +kernel
theorem dX8_event_17 : decode cX8_event 17 = .ok (.iload_n 3, 1) := by decide +kernel
theorem dX8_event_18 : decode cX8_event 18 = .ok (.iaload, 1) := by decide +kernel
theorem dX8_event_19 : decode cX8_event 19 = .ok (.iadd, 1) := by decide +kernel
theorem dX8_event_20 : decode cX8_event 20 = .ok (.iload_n 1, 1) := by decide +kernel
theorem dX8_event_21 : decode cX8_event 21 = .ok (.iastore, 1) := by decide +kernel
theorem dX8_event_22 : decode cX8_event 22 = .ok (.aload_n 0, 1) := by decide +kernel
theorem dX8_event_23 : decode cX8_event 23 = .ok (.getfield 44, 3) := by decide +kernel
theorem dX8_event_26 : decode cX8_event 26 = .ok (.bipush 8, 2) := by decide +kernel
theorem dX8_event_28 : decode cX8_event 28 = .ok (.iload_n 3, 1) := by decide +kernel
theorem dX8_event_29 : decode cX8_event 29 = .ok (.imul, 1) := by decide +kernel
theorem dX8_event_30 : decode cX8_event 30 = .ok (.aload_n 0, 1) := by decide +kernel
theorem dX8_event_31 : decode cX8_event 31 = .ok (.getfield 32, 3) := by decide +kernel
theorem dX8_event_34 : decode cX8_event 34 = .ok (.iload_n 3, 1) := by decide +kernel
theorem dX8_event_35 : decode cX8_event 35 = .ok (.iaload, 1) := by decide +kernel
theorem dX8_event_36 : decode cX8_event 36 = .ok (.iadd, 1) := by decide +kernel
theorem dX8_event_37 : decode cX8_event 37 = .ok (.iload_n 2, 1) := by decide +kernel
theorem dX8_event_38 : decode cX8_event 38 = .ok (.iastore, 1) := by decide +kernel
theorem dX8_event_39 : decode cX8_event 39 = .ok (.aload_n 0, 1) := by decide +kernel
theorem dX8_event_40 : decode cX8_event 40 = .ok (.getfield 32, 3) := by decide +kernel
theorem dX8_event_43 : decode cX8_event 43 = .ok (.iload_n 3, 1) := by decide +kernel
theorem dX8_event_44 : decode cX8_event 44 = .ok (.dup2, 1) := by decide +kernel
theorem dX8_event_45 : decode cX8_event 45 = .ok (.iaload, 1) := by decide +kernel
theorem dX8_event_46 : decode cX8_event 46 = .ok (.iconst 1, 1) := by decide +kernel
theorem dX8_event_47 : decode cX8_event 47 = .ok (.iadd, 1) := by decide +kernel
theorem dX8_event_48 : decode cX8_event 48 = .ok (.iastore, 1) := by decide +kernel
theorem dX8_event_49 : decode cX8_event 49 = .ok (.aload_n 0, 1) := by decide +kernel
theorem dX8_event_50 : decode cX8_event 50 = .ok (.getfield 32, 3) := by decide +kernel
theorem dX8_event_53 : decode cX8_event 53 = .ok (.iload_n 3, 1) := by decide +kernel
theorem dX8_event_54 : decode cX8_event 54 = .ok (.iaload, 1) := by decide +kernel
theorem dX8_event_55 : decode cX8_event 55 = .ok (.ireturn, 1) := by decide +kernel
theorem dX8_contact_0 : decode cX8_contact 0 = .ok (.aload_n 0, 1) := by decide +kernel
theorem dX8_contact_1 : decode cX8_contact 1 = .ok (.iload_n 1, 1) := by decide +kernel
theorem dX8_contact_2 : decode cX8_contact 2 = .ok (.invokestatic 167, 3) := by decide +kernel
theorem dX8_contact_5 : decode cX8_contact 5 = .ok (.aload_n 0, 1) := by decide +kernel
theorem dX8_contact_6 : decode cX8_contact 6 = .ok (.iload_n 3, 1) := by decide +kernel
theorem dX8_contact_7 : decode cX8_contact 7 = .ok (.invokevirtual 174, 3) := by decide +kernel
theorem dX8_contact_10 : decode cX8_contact 10 = .ok (.aload_n 0, 1) := by decide +kernel
theorem dX8_contact_11 : decode cX8_contact 11 = .ok (.invokevirtual 177, 3) := by decide +kernel
theorem dX8_contact_14 : decode cX8_contact 14 = .ok (.invokevirtual 101, 3) := by decide +kernel
theorem dX8_contact_17 : decode cX8_contact 17 = .ok (.ifCond .eq 24, 3) := by decide +kernel
theorem dX8_contact_20 : decode cX8_contact 20 = .ok (.aload_n 0, 1) := by decide +kernel
theorem dX8_contact_21 : decode cX8_contact 21 = .ok (.iconst 2, 1) := by decide +kernel
theorem dX8_contact_22 : decode cX8_contact 22 = .ok (.iload_n 1, 1) := by decide +kernel
theorem dX8_contact_23 : decode cX8_contact 23 = .ok (.imul, 1) := by decide +kernel
theorem dX8_contact_24 : decode cX8_contact 24 = .ok (.iload_n 2, 1) := by decide +kernel
theorem dX8_contact_25 : decode cX8_contact 25 = .ok (.ifCond .eq 7, 3) := by decide +kernel
theorem dX8_contact_28 : decode cX8_contact 28 = .ok (.iconst 1, 1) := by decide +kernel
theorem dX8_contact_29 : decode cX8_contact 29 = .ok (.goto 4, 3) := by decide +kernel
theorem dX8_contact_32 : decode cX8_contact 32 = .ok (.iconst 0, 1) := by decide +kernel
theorem dX8_contact_33 : decode cX8_contact 33 = .ok (.iadd, 1) := by decide +kernel
theorem dX8_contact_34 : decode cX8_contact 34 = .ok (.iload_n 3, 1) := by decide +kernel
theorem dX8_contact_35 : decode cX8_contact 35 = .ok (.invokevirtual 181, 3) := by decide +kernel
theorem dX8_contact_38 : decode cX8_contact 38 = .ok (.goto 4, 3) := by decide +kernel
theorem dX8_contact_41 : decode cX8_contact 41 = .ok (.iconst 0, 1) := by decide +kernel
theorem dX8_contact_42 : decode cX8_contact 42 = .ok (.ireturn, 1) := by decide +kernel
theorem dX8_right_0 : decode cX8_right 0 = .ok (.aload_n 0, 1) := by decide +kernel
theorem dX8_right_1 : decode cX8_right 1 = .ok (.iload_n 1, 1) := by decide +kernel
theorem dX8_right_2 : decode cX8_right 2 = .ok (.iconst (-1), 1) := by decide +kernel
theorem dX8_right_3 : decode cX8_right 3 = .ok (.iconst 1, 1) := by decide +kernel
theorem dX8_right_4 : decode cX8_right 4 = .ok (.invokestatic 85, 3) := by decide +kernel
theorem dX8_right_7 : decode cX8_right 7 = .ok (.ifCond .eq 15, 3) := by decide +kernel
theorem dX8_right_10 : decode cX8_right 10 = .ok (.aload_n 0, 1) := by decide +kernel
theorem dX8_right_11 : decode cX8_right 11 = .ok (.iload_n 2, 1) := by decide +kernel
theorem dX8_right_12 : decode cX8_right 12 = .ok (.invokevirtual 174, 3) := by decide +kernel
theorem dX8_right_15 : decode cX8_right 15 = .ok (.ifCond .eq 7, 3) := by decide +kernel
theorem dX8_right_18 : decode cX8_right 18 = .ok (.iconst 1, 1) := by decide +kernel
theorem dX8_right_19 : decode cX8_right 19 = .ok (.goto 4, 3) := by decide +kernel
theorem dX8_right_22 : decode cX8_right 22 = .ok (.iconst 0, 1) := by decide +kernel
theorem dX8_right_23 : decode cX8_right 23 = .ok (.aload_n 0, 1) := by decide +kernel
theorem dX8_right_24 : decode cX8_right 24 = .ok (.invokevirtual 177, 3) := by decide +kernel
theorem dX8_right_27 : decode cX8_right 27 = .ok (.iconst 1, 1) := by decide +kernel
theorem dX8_right_28 : decode cX8_right 28 = .ok (.invokevirtual 101, 3) := by decide +kernel
theorem dX8_right_31 : decode cX8_right 31 = .ok (.ifCond .eq 14, 3) := by decide +kernel
theorem dX8_right_34 : decode cX8_right 34 = .ok (.aload_n 0, 1) := by decide +kernel
theorem dX8_right_35 : decode cX8_right 35 = .ok (.iconst 5, 1) := by decide +kernel
theorem dX8_right_36 : decode cX8_right 36 = .ok (.iload_n 1, 1) := by decide +kernel
theorem dX8_right_37 : decode cX8_right 37 = .ok (.iadd, 1) := by decide +kernel
theorem dX8_right_38 : decode cX8_right 38 = .ok (.iload_n 2, 1) := by decide +kernel
theorem dX8_right_39 : decode cX8_right 39 = .ok (.invokevirtual 181, 3) := by decide +kernel
theorem dX8_right_42 : decode cX8_right 42 = .ok (.goto 4, 3) := by decide +kernel
theorem dX8_right_45 : decode cX8_right 45 = .ok (.iconst 0, 1) := by decide +kernel
theorem dX8_right_46 : decode cX8_right 46 = .ok (.ireturn, 1) := by decide +kernel
theorem dX8_halt_0 : decode cX8_halt 0 = .ok (.aload_n 0, 1) := by decide +kernel
theorem dX8_halt_1 : decode cX8_halt 1 = .ok (.aload_n 0, 1) := by decide +kernel
theorem dX8_halt_2 : decode cX8_halt 2 = .ok (.getfield 112, 3) := by decide +kernel
theorem dX8_halt_5 : decode cX8_halt 5 = .ok (.iconst 1, 1) := by decide +kernel
theorem dX8_halt_6 : decode cX8_halt 6 = .ok (.iconst 1, 1) := by decide +kernel
theorem dX8_halt_7 : decode cX8_halt 7 = .ok (.invokevirtual 101, 3) := by decide +kernel
theorem dX8_halt_10 : decode cX8_halt 10 = .ok (.ifCond .ne 5, 3) := by decide +kernel
theorem dX8_halt_13 : decode cX8_halt 13 = .ok (.iconst 0, 1) := by decide +kernel
theorem dX8_halt_14 : decode cX8_halt 14 = .ok (.ireturn, 1) := by decide +kernel
theorem dX8_halt_15 : decode cX8_halt 15 = .ok (.aload_n 0, 1) := by decide +kernel
theorem dX8_halt_16 : decode cX8_halt 16 = .ok (.getfield 47, 3) := by decide +kernel
theorem dX8_halt_19 : decode cX8_halt 19 = .ok (.invokestatic 164, 3) := by decide +kernel
theorem dX8_halt_22 : decode cX8_halt 22 = .ok (.istore_n 1, 1) := by decide +kernel
theorem dX8_halt_23 : decode cX8_halt 23 = .ok (.aload_n 0, 1) := by decide +kernel
theorem dX8_halt_24 : decode cX8_halt 24 = .ok (.getfield 26, 3) := by decide +kernel
theorem dX8_halt_27 : decode cX8_halt 27 = .ok (.iload_n 1, 1) := by decide +kernel
theorem dX8_halt_28 : decode cX8_halt 28 = .ok (.dup2, 1) := by decide +kernel
theorem dX8_halt_29 : decode cX8_halt 29 = .ok (.iaload, 1) := by decide +kernel
theorem dX8_halt_30 : decode cX8_halt 30 = .ok (.iconst 1, 1) := by decide +kernel
theorem dX8_halt_31 : decode cX8_halt 31 = .ok (.iadd, 1) := by decide +kernel
theorem dX8_halt_32 : decode cX8_halt 32 = .ok (.iastore, 1) := by decide +kernel
theorem dX8_halt_33 : decode cX8_halt 33 = .ok (.aload_n 0, 1) := by decide +kernel
theorem dX8_halt_34 : decode cX8_halt 34 = .ok (.iconst 0, 1) := by decide +kernel
theorem dX8_halt_35 : decode cX8_halt 35 = .ok (.putfield 112, 3) := by decide +kernel
theorem dX8_halt_38 : decode cX8_halt 38 = .ok (.aload_n 0, 1) := by decide +kernel
theorem dX8_halt_39 : decode cX8_halt 39 = .ok (.iconst 1, 1) := by decide +kernel
theorem dX8_halt_40 : decode cX8_halt 40 = .ok (.putfield 161, 3) := by decide +kernel
theorem dX8_halt_43 : decode cX8_halt 43 = .ok (.aload_n 0, 1) := by decide +kernel
theorem dX8_halt_44 : decode cX8_halt 44 = .ok (.iload_n 1, 1) := by decide +kernel
theorem dX8_halt_45 : decode cX8_halt 45 = .ok (.aload_n 0, 1) := by decide +kernel
theorem dX8_halt_46 : decode cX8_halt 46 = .ok (.getfield 26, 3) := by decide +kernel
theorem dX8_halt_49 : decode cX8_halt 49 = .ok (.iload_n 1, 1) := by decide +kernel
theorem dX8_halt_50 : decode cX8_halt 50 = .ok (.iaload, 1) := by decide +kernel
theorem dX8_halt_51 : decode cX8_halt 51 = .ok (.iconst 1, 1) := by decide +kernel
theorem dX8_halt_52 : decode cX8_halt 52 = .ok (.isub, 1) := by decide +kernel
theorem dX8_halt_53 : decode cX8_halt 53 = .ok (.invokevirtual 138, 3) := by decide +kernel
theorem dX8_halt_56 : decode cX8_halt 56 = .ok (.istore_n 2, 1) := by decide +kernel
theorem dX8_halt_57 : decode cX8_halt 57 = .ok (.aload_n 0, 1) := by decide +kernel
theorem dX8_halt_58 : decode cX8_halt 58 = .ok (.invokevirtual 115, 3) := by decide +kernel
theorem dX8_halt_61 : decode cX8_halt 61 = .ok (.iload_n 2, 1) := by decide +kernel
theorem dX8_halt_62 : decode cX8_halt 62 = .ok (.ireturn, 1) := by decide +kernel
theorem dX8_appeal_0 : decode cX8_appeal 0 = .ok (.aload_n 0, 1) := by decide +kernel
theorem dX8_appeal_1 : decode cX8_appeal 1 = .ok (.getfield 47, 3) := by decide +kernel
theorem dX8_appeal_4 : decode cX8_appeal 4 = .ok (.iconst (-1), 1) := by decide +kernel
theorem dX8_appeal_5 : decode cX8_appeal 5 = .ok (.if_icmp .eq 28, 3) := by decide +kernel
theorem dX8_appeal_8 : decode cX8_appeal 8 = .ok (.aload_n 0, 1) := by decide +kernel
theorem dX8_appeal_9 : decode cX8_appeal 9 = .ok (.getfield 112, 3) := by decide +kernel
theorem dX8_appeal_12 : decode cX8_appeal 12 = .ok (.ifCond .ne 21, 3) := by decide +kernel
theorem dX8_appeal_15 : decode cX8_appeal 15 = .ok (.aload_n 0, 1) := by decide +kernel
theorem dX8_appeal_16 : decode cX8_appeal 16 = .ok (.getfield 161, 3) := by decide +kernel
theorem dX8_appeal_19 : decode cX8_appeal 19 = .ok (.ifCond .eq 14, 3) := by decide +kernel
theorem dX8_appeal_22 : decode cX8_appeal 22 = .ok (.iload_n 1, 1) := by decide +kernel
theorem dX8_appeal_23 : decode cX8_appeal 23 = .ok (.invokestatic 167, 3) := by decide +kernel
theorem dX8_appeal_26 : decode cX8_appeal 26 = .ok (.ifCond .eq 7, 3) := by decide +kernel
theorem dX8_appeal_29 : decode cX8_appeal 29 = .ok (.iconst 1, 1) := by decide +kernel
theorem dX8_appeal_30 : decode cX8_appeal 30 = .ok (.goto 4, 3) := by decide +kernel
theorem dX8_appeal_33 : decode cX8_appeal 33 = .ok (.iconst 0, 1) := by decide +kernel
theorem dX8_appeal_34 : decode cX8_appeal 34 = .ok (.istore_n 3, 1) := by decide +kernel
theorem dX8_appeal_35 : decode cX8_appeal 35 = .ok (.iload_n 3, 1) := by decide +kernel
theorem dX8_appeal_36 : decode cX8_appeal 36 = .ok (.ifCond .eq 27, 3) := by decide +kernel
theorem dX8_appeal_39 : decode cX8_appeal 39 = .ok (.aload_n 0, 1) := by decide +kernel
theorem dX8_appeal_40 : decode cX8_appeal 40 = .ok (.getfield 29, 3) := by decide +kernel
theorem dX8_appeal_43 : decode cX8_appeal 43 = .ok (.iconst 2, 1) := by decide +kernel
theorem dX8_appeal_44 : decode cX8_appeal 44 = .ok (.aload_n 0, 1) := by decide +kernel
theorem dX8_appeal_45 : decode cX8_appeal 45 = .ok (.getfield 47, 3) := by decide +kernel
theorem dX8_appeal_48 : decode cX8_appeal 48 = .ok (.invokestatic 164, 3) := by decide +kernel
theorem dX8_appeal_51 : decode cX8_appeal 51 = .ok (.imul, 1) := by decide +kernel
theorem dX8_appeal_52 : decode cX8_appeal 52 = .ok (.iload_n 1, 1) := by decide +kernel
theorem dX8_appeal_53 : decode cX8_appeal 53 = .ok (.iadd, 1) := by decide +kernel
theorem dX8_appeal_54 : decode cX8_appeal 54 = .ok (.iaload, 1) := by decide +kernel
theorem dX8_appeal_55 : decode cX8_appeal 55 = .ok (.iconst 2, 1) := by decide +kernel
theorem dX8_appeal_56 : decode cX8_appeal 56 = .ok (.if_icmp .ge 7, 3) := by decide +kernel
theorem dX8_appeal_59 : decode cX8_appeal 59 = .ok (.iconst 1, 1) := by decide +kernel
theorem dX8_appeal_60 : decode cX8_appeal 60 = .ok (.goto 4, 3) := by decide +kernel
theorem dX8_appeal_63 : decode cX8_appeal 63 = .ok (.iconst 0, 1) := by decide +kernel
theorem dX8_appeal_64 : decode cX8_appeal 64 = .ok (.istore_n 3, 1) := by decide +kernel
theorem dX8_appeal_65 : decode cX8_appeal 65 = .ok (.aload_n 0, 1) := by decide +kernel
theorem dX8_appeal_66 : decode cX8_appeal 66 = .ok (.iload_n 1, 1) := by decide +kernel
theorem dX8_appeal_67 : decode cX8_appeal 67 = .ok (.invokestatic 167, 3) := by decide +kernel
theorem dX8_appeal_70 : decode cX8_appeal 70 = .ok (.iload_n 2, 1) := by decide +kernel
theorem dX8_appeal_71 : decode cX8_appeal 71 = .ok (.iconst (-1), 1) := by decide +kernel
theorem dX8_appeal_72 : decode cX8_appeal 72 = .ok (.iconst 1, 1) := by decide +kernel
theorem dX8_appeal_73 : decode cX8_appeal 73 = .ok (.invokestatic 85, 3) := by decide +kernel
theorem dX8_appeal_76 : decode cX8_appeal 76 = .ok (.iload_n 3, 1) := by decide +kernel
theorem dX8_appeal_77 : decode cX8_appeal 77 = .ok (.invokevirtual 101, 3) := by decide +kernel
theorem dX8_appeal_80 : decode cX8_appeal 80 = .ok (.ifCond .ne 5, 3) := by decide +kernel
theorem dX8_appeal_83 : decode cX8_appeal 83 = .ok (.iconst 0, 1) := by decide +kernel
theorem dX8_appeal_84 : decode cX8_appeal 84 = .ok (.ireturn, 1) := by decide +kernel
theorem dX8_appeal_85 : decode cX8_appeal 85 = .ok (.aload_n 0, 1) := by decide +kernel
theorem dX8_appeal_86 : decode cX8_appeal 86 = .ok (.getfield 47, 3) := by decide +kernel
theorem dX8_appeal_89 : decode cX8_appeal 89 = .ok (.invokestatic 164, 3) := by decide +kernel
theorem dX8_appeal_92 : decode cX8_appeal 92 = .ok (.istore 4, 2) := by decide +kernel
theorem dX8_appeal_94 : decode cX8_appeal 94 = .ok (.aload_n 0, 1) := by decide +kernel
theorem dX8_appeal_95 : decode cX8_appeal 95 = .ok (.getfield 26, 3) := by decide +kernel
theorem dX8_appeal_98 : decode cX8_appeal 98 = .ok (.iload 4, 2) := by decide +kernel
theorem dX8_appeal_100 : decode cX8_appeal 100 = .ok (.iaload, 1) := by decide +kernel
theorem dX8_appeal_101 : decode cX8_appeal 101 = .ok (.iconst 1, 1) := by decide +kernel
theorem dX8_appeal_102 : decode cX8_appeal 102 = .ok (.isub, 1) := by decide +kernel
theorem dX8_appeal_103 : decode cX8_appeal 103 = .ok (.istore 5, 2) := by decide +kernel
theorem dX8_appeal_105 : decode cX8_appeal 105 = .ok (.aload_n 0, 1) := by decide +kernel
theorem dX8_appeal_106 : decode cX8_appeal 106 = .ok (.iload 4, 2) := by decide +kernel
theorem dX8_appeal_108 : decode cX8_appeal 108 = .ok (.iload 5, 2) := by decide +kernel
theorem dX8_appeal_110 : decode cX8_appeal 110 = .ok (.invokevirtual 138, 3) := by decide +kernel
theorem dX8_appeal_113 : decode cX8_appeal 113 = .ok (.istore 6, 2) := by decide +kernel
theorem dX8_appeal_115 : decode cX8_appeal 115 = .ok (.aload_n 0, 1) := by decide +kernel
theorem dX8_appeal_116 : decode cX8_appeal 116 = .ok (.getfield 38, 3) := by decide +kernel
theorem dX8_appeal_119 : decode cX8_appeal 119 = .ok (.bipush 12, 2) := by decide +kernel
theorem dX8_appeal_121 : decode cX8_appeal 121 = .ok (.iload 4, 2) := by decide +kernel
theorem dX8_appeal_123 : decode cX8_appeal 123 = .ok (.imul, 1) := by decide +kernel
theorem dX8_appeal_124 : decode cX8_appeal 124 = .ok (.iload 5, 2) := by decide +kernel
theorem dX8_appeal_126 : decode cX8_appeal 126 = .ok (.iadd, 1) := by decide +kernel
theorem dX8_appeal_127 : decode cX8_appeal 127 = .ok (.iload_n 2, 1) := by decide +kernel
theorem dX8_appeal_128 : decode cX8_appeal 128 = .ok (.iastore, 1) := by decide +kernel
theorem dX8_appeal_129 : decode cX8_appeal 129 = .ok (.aload_n 0, 1) := by decide +kernel
theorem dX8_appeal_130 : decode cX8_appeal 130 = .ok (.iload 4, 2) := by decide +kernel
theorem dX8_appeal_132 : decode cX8_appeal 132 = .ok (.iload 5, 2) := by decide +kernel
theorem dX8_appeal_134 : decode cX8_appeal 134 = .ok (.invokevirtual 138, 3) := by decide +kernel
theorem dX8_appeal_137 : decode cX8_appeal 137 = .ok (.istore 7, 2) := by decide +kernel
theorem dX8_appeal_139 : decode cX8_appeal 139 = .ok (.aload_n 0, 1) := by decide +kernel
theorem dX8_appeal_140 : decode cX8_appeal 140 = .ok (.getfield 29, 3) := by decide +kernel
theorem dX8_appeal_143 : decode cX8_appeal 143 = .ok (.iconst 2, 1) := by decide +kernel
theorem dX8_appeal_144 : decode cX8_appeal 144 = .ok (.iload 4, 2) := by decide +kernel
theorem dX8_appeal_146 : decode cX8_appeal 146 = .ok (.imul, 1) := by decide +kernel
theorem dX8_appeal_147 : decode cX8_appeal 147 = .ok (.iload_n 1, 1) := by decide +kernel
theorem dX8_appeal_148 : decode cX8_appeal 148 = .ok (.iadd, 1) := by decide +kernel
theorem dX8_appeal_149 : decode cX8_appeal 149 = .ok (.dup2, 1) := by decide +kernel
theorem dX8_appeal_150 : decode cX8_appeal 150 = .ok (.iaload, 1) := by decide +kernel
theorem dX8_appeal_151 : decode cX8_appeal 151 = .ok (.iload 7, 2) := by decide +kernel
theorem dX8_appeal_153 : decode cX8_appeal 153 = .ok (.iload 6, 2) := by decide +kernel
theorem dX8_appeal_155 : decode cX8_appeal 155 = .ok (.if_icmp .ne 7, 3) := by decide +kernel
theorem dX8_appeal_158 : decode cX8_appeal 158 = .ok (.iconst 1, 1) := by decide +kernel
theorem dX8_appeal_159 : decode cX8_appeal 159 = .ok (.goto 4, 3) := by decide +kernel
theorem dX8_appeal_162 : decode cX8_appeal 162 = .ok (.iconst 0, 1) := by decide +kernel
theorem dX8_appeal_163 : decode cX8_appeal 163 = .ok (.iadd, 1) := by decide +kernel
theorem dX8_appeal_164 : decode cX8_appeal 164 = .ok (.iastore, 1) := by decide +kernel
theorem dX8_appeal_165 : decode cX8_appeal 165 = .ok (.aload_n 0, 1) := by decide +kernel
theorem dX8_appeal_166 : decode cX8_appeal 166 = .ok (.invokevirtual 115, 3) := by decide +kernel
theorem dX8_appeal_169 : decode cX8_appeal 169 = .ok (.iload 7, 2) := by decide +kernel
theorem dX8_appeal_171 : decode cX8_appeal 171 = .ok (.ireturn, 1) := by decide +kernel
theorem dX8_piste_0 : decode cX8_piste 0 = .ok (.aload_n 0, 1) := by decide +kernel
theorem dX8_piste_1 : decode cX8_piste 1 = .ok (.iconst 0, 1) := by decide +kernel
theorem dX8_piste_2 : decode cX8_piste 2 = .ok (.putfield 79, 3) := by decide +kernel
theorem dX8_piste_5 : decode cX8_piste 5 = .ok (.aload_n 0, 1) := by decide +kernel
theorem dX8_piste_6 : decode cX8_piste 6 = .ok (.getfield 47, 3) := by decide +kernel
theorem dX8_piste_9 : decode cX8_piste 9 = .ok (.ireturn, 1) := by decide +kernel
theorem dX8_isFencing_0 : decode cX8_isFencing 0 = .ok (.aload_n 0, 1) := by decide +kernel
theorem dX8_isFencing_1 : decode cX8_isFencing 1 = .ok (.iconst 0, 1) := by decide +kernel
theorem dX8_isFencing_2 : decode cX8_isFencing 2 = .ok (.putfield 79, 3) := by decide +kernel
theorem dX8_isFencing_5 : decode cX8_isFencing 5 = .ok (.aload_n 0, 1) := by decide +kernel
theorem dX8_isFencing_6 : decode cX8_isFencing 6 = .ok (.getfield 112, 3) := by decide +kernel
theorem dX8_isFencing_9 : decode cX8_isFencing 9 = .ok (.ireturn, 1) := by decide +kernel
theorem dX8_weaponOf_0 : decode cX8_weaponOf 0 = .ok (.aload_n 0, 1) := by decide +kernel
theorem dX8_weaponOf_1 : decode cX8_weaponOf 1 = .ok (.iload_n 1, 1) := by decide +kernel
theorem dX8_weaponOf_2 : decode cX8_weaponOf 2 = .ok (.invokestatic 167, 3) := by decide +kernel
theorem dX8_weaponOf_5 : decode cX8_weaponOf 5 = .ok (.iconst 1, 1) := by decide +kernel
theorem dX8_weaponOf_6 : decode cX8_weaponOf 6 = .ok (.iconst 1, 1) := by decide +kernel
theorem dX8_weaponOf_7 : decode cX8_weaponOf 7 = .ok (.invokevirtual 101, 3) := by decide +kernel
theorem dX8_weaponOf_10 : decode cX8_weaponOf 10 = .ok (.ifCond .eq 24, 3) := by decide +kernel
theorem dX8_weaponOf_13 : decode cX8_weaponOf 13 = .ok (.aload_n 0, 1) := by decide +kernel
theorem dX8_weaponOf_14 : decode cX8_weaponOf 14 = .ok (.getfield 47, 3) := by decide +kernel
theorem dX8_weaponOf_17 : decode cX8_weaponOf 17 = .ok (.iconst (-1), 1) := by decide +kernel
theorem dX8_weaponOf_18 : decode cX8_weaponOf 18 = .ok (.if_icmp .ne 7, 3) := by decide +kernel
theorem dX8_weaponOf_21 : decode cX8_weaponOf 21 = .ok (.iconst (-1), 1) := by decide +kernel
theorem dX8_weaponOf_22 : decode cX8_weaponOf 22 = .ok (.goto 13, 3) := by decide +kernel
theorem dX8_weaponOf_25 : decode cX8_weaponOf 25 = .ok (.aload_n 0, 1) := by decide +kernel
theorem dX8_weaponOf_26 : decode cX8_weaponOf 26 = .ok (.getfield 51, 3) := by decide +kernel
theorem dX8_weaponOf_29 : decode cX8_weaponOf 29 = .ok (.iload_n 1, 1) := by decide +kernel
theorem dX8_weaponOf_30 : decode cX8_weaponOf 30 = .ok (.iaload, 1) := by decide +kernel
theorem dX8_weaponOf_31 : decode cX8_weaponOf 31 = .ok (.goto 4, 3) := by decide +kernel
theorem dX8_weaponOf_34 : decode cX8_weaponOf 34 = .ok (.iconst 0, 1) := by decide +kernel
theorem dX8_weaponOf_35 : decode cX8_weaponOf 35 = .ok (.ireturn, 1) := by decide +kernel
theorem dX8_fencerOf_0 : decode cX8_fencerOf 0 = .ok (.aload_n 0, 1) := by decide +kernel
theorem dX8_fencerOf_1 : decode cX8_fencerOf 1 = .ok (.aload_n 0, 1) := by decide +kernel
theorem dX8_fencerOf_2 : decode cX8_fencerOf 2 = .ok (.iload_n 1, 1) := by decide +kernel
theorem dX8_fencerOf_3 : decode cX8_fencerOf 3 = .ok (.invokevirtual 152, 3) := by decide +kernel
theorem dX8_fencerOf_6 : decode cX8_fencerOf 6 = .ok (.ifCond .eq 14, 3) := by decide +kernel
theorem dX8_fencerOf_9 : decode cX8_fencerOf 9 = .ok (.iload_n 2, 1) := by decide +kernel
theorem dX8_fencerOf_10 : decode cX8_fencerOf 10 = .ok (.invokestatic 167, 3) := by decide +kernel
theorem dX8_fencerOf_13 : decode cX8_fencerOf 13 = .ok (.ifCond .eq 7, 3) := by decide +kernel
theorem dX8_fencerOf_16 : decode cX8_fencerOf 16 = .ok (.iconst 1, 1) := by decide +kernel
theorem dX8_fencerOf_17 : decode cX8_fencerOf 17 = .ok (.goto 4, 3) := by decide +kernel
theorem dX8_fencerOf_20 : decode cX8_fencerOf 20 = .ok (.iconst 0, 1) := by decide +kernel
theorem dX8_fencerOf_21 : decode cX8_fencerOf 21 = .ok (.iconst 1, 1) := by decide +kernel
theorem dX8_fencerOf_22 : decode cX8_fencerOf 22 = .ok (.iconst 1, 1) := by decide +kernel
theorem dX8_fencerOf_23 : decode cX8_fencerOf 23 = .ok (.invokevirtual 101, 3) := by decide +kernel
theorem dX8_fencerOf_26 : decode cX8_fencerOf 26 = .ok (.ifCond .ne 5, 3) := by decide +kernel
theorem dX8_fencerOf_29 : decode cX8_fencerOf 29 = .ok (.iconst 0, 1) := by decide +kernel
theorem dX8_fencerOf_30 : decode cX8_fencerOf 30 = .ok (.ireturn, 1) := by decide +kernel
theorem dX8_fencerOf_31 : decode cX8_fencerOf 31 = .ok (.aload_n 0, 1) := by decide +kernel
theorem dX8_fencerOf_32 : decode cX8_fencerOf 32 = .ok (.iload_n 1, 1) := by decide +kernel
theorem dX8_fencerOf_33 : decode cX8_fencerOf 33 = .ok (.iload_n 2, 1) := by decide +kernel
theorem dX8_fencerOf_34 : decode cX8_fencerOf 34 = .ok (.invokevirtual 149, 3) := by decide +kernel
theorem dX8_fencerOf_37 : decode cX8_fencerOf 37 = .ok (.istore_n 3, 1) := by decide +kernel
theorem dX8_fencerOf_38 : decode cX8_fencerOf 38 = .ok (.iload_n 3, 1) := by decide +kernel
theorem dX8_fencerOf_39 : decode cX8_fencerOf 39 = .ok (.ifCond .ge 7, 3) := by decide +kernel
theorem dX8_fencerOf_42 : decode cX8_fencerOf 42 = .ok (.iconst (-1), 1) := by decide +kernel
theorem dX8_fencerOf_43 : decode cX8_fencerOf 43 = .ok (.goto 4, 3) := by decide +kernel
theorem dX8_fencerOf_46 : decode cX8_fencerOf 46 = .ok (.iload_n 3, 1) := by decide +kernel
theorem dX8_fencerOf_47 : decode cX8_fencerOf 47 = .ok (.ireturn, 1) := by decide +kernel
theorem dX8_score_0 : decode cX8_score 0 = .ok (.aload_n 0, 1) := by decide +kernel
theorem dX8_score_1 : decode cX8_score 1 = .ok (.aload_n 0, 1) := by decide +kernel
theorem dX8_score_2 : decode cX8_score 2 = .ok (.iload_n 1, 1) := by decide +kernel
theorem dX8_score_3 : decode cX8_score 3 = .ok (.invokevirtual 152, 3) := by decide +kernel
theorem dX8_score_6 : decode cX8_score 6 = .ok (.ifCond .eq 14, 3) := by decide +kernel
theorem dX8_score_9 : decode cX8_score 9 = .ok (.iload_n 2, 1) := by decide +kernel
theorem dX8_score_10 : decode cX8_score 10 = .ok (.invokestatic 167, 3) := by decide +kernel
theorem dX8_score_13 : decode cX8_score 13 = .ok (.ifCond .eq 7, 3) := by decide +kernel
theorem dX8_score_16 : decode cX8_score 16 = .ok (.iconst 1, 1) := by decide +kernel
theorem dX8_score_17 : decode cX8_score 17 = .ok (.goto 4, 3) := by decide +kernel
theorem dX8_score_20 : decode cX8_score 20 = .ok (.iconst 0, 1) := by decide +kernel
theorem dX8_score_21 : decode cX8_score 21 = .ok (.iconst 1, 1) := by decide +kernel
theorem dX8_score_22 : decode cX8_score 22 = .ok (.iconst 1, 1) := by decide +kernel
theorem dX8_score_23 : decode cX8_score 23 = .ok (.invokevirtual 101, 3) := by decide +kernel
theorem dX8_score_26 : decode cX8_score 26 = .ok (.ifCond .ne 5, 3) := by decide +kernel
theorem dX8_score_29 : decode cX8_score 29 = .ok (.iconst 0, 1) := by decide +kernel
theorem dX8_score_30 : decode cX8_score 30 = .ok (.ireturn, 1) := by decide +kernel
theorem dX8_score_31 : decode cX8_score 31 = .ok (.aload_n 0, 1) := by decide +kernel
theorem dX8_score_32 : decode cX8_score 32 = .ok (.iload_n 1, 1) := by decide +kernel
theorem dX8_score_33 : decode cX8_score 33 = .ok (.invokestatic 164, 3) := by decide +kernel
theorem dX8_score_36 : decode cX8_score 36 = .ok (.invokevirtual 145, 3) := by decide +kernel
theorem dX8_score_39 : decode cX8_score 39 = .ok (.iload_n 2, 1) := by decide +kernel
theorem dX8_score_40 : decode cX8_score 40 = .ok (.ifCond .ne 10, 3) := by decide +kernel
theorem dX8_score_43 : decode cX8_score 43 = .ok (.aload_n 0, 1) := by decide +kernel
theorem dX8_score_44 : decode cX8_score 44 = .ok (.getfield 129, 3) := by decide +kernel
theorem dX8_score_47 : decode cX8_score 47 = .ok (.goto 7, 3) := by decide +kernel
theorem dX8_score_50 : decode cX8_score 50 = .ok (.aload_n 0, 1) := by decide +kernel
theorem dX8_score_51 : decode cX8_score 51 = .ok (.getfield 132, 3) := by decide +kernel
theorem dX8_score_54 : decode cX8_score 54 = .ok (.ireturn, 1) := by decide +kernel
theorem dX8_scoreAnew_0 : decode cX8_scoreAnew 0 = .ok (.aload_n 0, 1) := by decide +kernel
theorem dX8_scoreAnew_1 : decode cX8_scoreAnew 1 = .ok (.iload_n 1, 1) := by decide +kernel
theorem dX8_scoreAnew_2 : decode cX8_scoreAnew 2 = .ok (.iload_n 2, 1) := by decide +kernel
theorem dX8_scoreAnew_3 : decode cX8_scoreAnew 3 = .ok (.invokevirtual 184, 3) := by decide +kernel
theorem dX8_scoreAnew_6 : decode cX8_scoreAnew 6 = .ok (.ireturn, 1) := by decide +kernel
theorem dX8_winner_0 : decode cX8_winner 0 = .ok (.aload_n 0, 1) := by decide +kernel
theorem dX8_winner_1 : decode cX8_winner 1 = .ok (.aload_n 0, 1) := by decide +kernel
theorem dX8_winner_2 : decode cX8_winner 2 = .ok (.iload_n 1, 1) := by decide +kernel
theorem dX8_winner_3 : decode cX8_winner 3 = .ok (.invokevirtual 152, 3) := by decide +kernel
theorem dX8_winner_6 : decode cX8_winner 6 = .ok (.iconst 1, 1) := by decide +kernel
theorem dX8_winner_7 : decode cX8_winner 7 = .ok (.iconst 1, 1) := by decide +kernel
theorem dX8_winner_8 : decode cX8_winner 8 = .ok (.invokevirtual 101, 3) := by decide +kernel
theorem dX8_winner_11 : decode cX8_winner 11 = .ok (.ifCond .eq 11, 3) := by decide +kernel
theorem dX8_winner_14 : decode cX8_winner 14 = .ok (.aload_n 0, 1) := by decide +kernel
theorem dX8_winner_15 : decode cX8_winner 15 = .ok (.iload_n 1, 1) := by decide +kernel
theorem dX8_winner_16 : decode cX8_winner 16 = .ok (.invokevirtual 155, 3) := by decide +kernel
theorem dX8_winner_19 : decode cX8_winner 19 = .ok (.goto 4, 3) := by decide +kernel
theorem dX8_winner_22 : decode cX8_winner 22 = .ok (.iconst 0, 1) := by decide +kernel
theorem dX8_winner_23 : decode cX8_winner 23 = .ok (.ireturn, 1) := by decide +kernel
theorem dX8_phrases_0 : decode cX8_phrases 0 = .ok (.aload_n 0, 1) := by decide +kernel
theorem dX8_phrases_1 : decode cX8_phrases 1 = .ok (.aload_n 0, 1) := by decide +kernel
theorem dX8_phrases_2 : decode cX8_phrases 2 = .ok (.iload_n 1, 1) := by decide +kernel
theorem dX8_phrases_3 : decode cX8_phrases 3 = .ok (.invokevirtual 152, 3) := by decide +kernel
theorem dX8_phrases_6 : decode cX8_phrases 6 = .ok (.iconst 1, 1) := by decide +kernel
theorem dX8_phrases_7 : decode cX8_phrases 7 = .ok (.iconst 1, 1) := by decide +kernel
theorem dX8_phrases_8 : decode cX8_phrases 8 = .ok (.invokevirtual 101, 3) := by decide +kernel
theorem dX8_phrases_11 : decode cX8_phrases 11 = .ok (.ifCond .eq 15, 3) := by decide +kernel
theorem dX8_phrases_14 : decode cX8_phrases 14 = .ok (.aload_n 0, 1) := by decide +kernel
theorem dX8_phrases_15 : decode cX8_phrases 15 = .ok (.getfield 26, 3) := by decide +kernel
theorem dX8_phrases_18 : decode cX8_phrases 18 = .ok (.iload_n 1, 1) := by decide +kernel
theorem dX8_phrases_19 : decode cX8_phrases 19 = .ok (.invokestatic 164, 3) := by decide +kernel
theorem dX8_phrases_22 : decode cX8_phrases 22 = .ok (.iaload, 1) := by decide +kernel
theorem dX8_phrases_23 : decode cX8_phrases 23 = .ok (.goto 4, 3) := by decide +kernel
theorem dX8_phrases_26 : decode cX8_phrases 26 = .ok (.iconst 0, 1) := by decide +kernel
theorem dX8_phrases_27 : decode cX8_phrases 27 = .ok (.ireturn, 1) := by decide +kernel
theorem dX8_touches_0 : decode cX8_touches 0 = .ok (.aload_n 0, 1) := by decide +kernel
theorem dX8_touches_1 : decode cX8_touches 1 = .ok (.iload_n 1, 1) := by decide +kernel
theorem dX8_touches_2 : decode cX8_touches 2 = .ok (.invokevirtual 152, 3) := by decide +kernel
theorem dX8_touches_5 : decode cX8_touches 5 = .ok (.istore_n 3, 1) := by decide +kernel
theorem dX8_touches_6 : decode cX8_touches 6 = .ok (.aload_n 0, 1) := by decide +kernel
theorem dX8_touches_7 : decode cX8_touches 7 = .ok (.iload_n 3, 1) := by decide +kernel
theorem dX8_touches_8 : decode cX8_touches 8 = .ok (.ifCond .eq 34, 3) := by decide +kernel
theorem dX8_touches_11 : decode cX8_touches 11 = .ok (.iload_n 2, 1) := by decide +kernel
theorem dX8_touches_12 : decode cX8_touches 12 = .ok (.iconst 0, 1) := by decide +kernel
theorem dX8_touches_13 : decode cX8_touches 13 = .ok (.aload_n 0, 1) := by decide +kernel
theorem dX8_touches_14 : decode cX8_touches 14 = .ok (.getfield 26, 3) := by decide +kernel
theorem dX8_touches_17 : decode cX8_touches 17 = .ok (.iload_n 3, 1) := by decide +kernel
theorem dX8_touches_18 : decode cX8_touches 18 = .ok (.ifCond .eq 10, 3) := by decide +kernel
theorem dX8_touches_21 : decode cX8_touches 21 = .ok (.iload_n 1, 1) := by decide +kernel
theorem dX8_touches_22 : decode cX8_touches 22 = .ok (.invokestatic 164, 3) := by decide +kernel
theorem dX8_touches_25 : decode cX8_touches 25 = .ok (.goto 4, 3) := by decide +kernel
theorem dX8_touches_28 : decode cX8_touches 28 = .ok (.iconst 0, 1) := by decide +kernel
theorem dX8_touches_29 : decode cX8_touches 29 = .ok (.iaload, 1) := by decide +kernel
theorem dX8_touches_30 : decode cX8_touches 30 = .ok (.iconst 1, 1) := by decide +kernel
theorem dX8_touches_31 : decode cX8_touches 31 = .ok (.isub, 1) := by decide +kernel
theorem dX8_touches_32 : decode cX8_touches 32 = .ok (.invokestatic 85, 3) := by decide +kernel
theorem dX8_touches_35 : decode cX8_touches 35 = .ok (.ifCond .eq 7, 3) := by decide +kernel
theorem dX8_touches_38 : decode cX8_touches 38 = .ok (.iconst 1, 1) := by decide +kernel
theorem dX8_touches_39 : decode cX8_touches 39 = .ok (.goto 4, 3) := by decide +kernel
theorem dX8_touches_42 : decode cX8_touches 42 = .ok (.iconst 0, 1) := by decide +kernel
theorem dX8_touches_43 : decode cX8_touches 43 = .ok (.iconst 1, 1) := by decide +kernel
theorem dX8_touches_44 : decode cX8_touches 44 = .ok (.iconst 1, 1) := by decide +kernel
theorem dX8_touches_45 : decode cX8_touches 45 = .ok (.invokevirtual 101, 3) := by decide +kernel
theorem dX8_touches_48 : decode cX8_touches 48 = .ok (.ifCond .eq 15, 3) := by decide +kernel
theorem dX8_touches_51 : decode cX8_touches 51 = .ok (.aload_n 0, 1) := by decide +kernel
theorem dX8_touches_52 : decode cX8_touches 52 = .ok (.iload_n 1, 1) := by decide +kernel
theorem dX8_touches_53 : decode cX8_touches 53 = .ok (.invokestatic 164, 3) := by decide +kernel
theorem dX8_touches_56 : decode cX8_touches 56 = .ok (.iload_n 2, 1) := by decide +kernel
theorem dX8_touches_57 : decode cX8_touches 57 = .ok (.invokevirtual 138, 3) := by decide +kernel
theorem dX8_touches_60 : decode cX8_touches 60 = .ok (.goto 4, 3) := by decide +kernel
theorem dX8_touches_63 : decode cX8_touches 63 = .ok (.iconst 0, 1) := by decide +kernel
theorem dX8_touches_64 : decode cX8_touches 64 = .ok (.ireturn, 1) := by decide +kernel
theorem dX8_appeals_0 : decode cX8_appeals 0 = .ok (.aload_n 0, 1) := by decide +kernel
theorem dX8_appeals_1 : decode cX8_appeals 1 = .ok (.aload_n 0, 1) := by decide +kernel
theorem dX8_appeals_2 : decode cX8_appeals 2 = .ok (.iload_n 1, 1) := by decide +kernel
theorem dX8_appeals_3 : decode cX8_appeals 3 = .ok (.invokevirtual 152, 3) := by decide +kernel
theorem dX8_appeals_6 : decode cX8_appeals 6 = .ok (.ifCond .eq 14, 3) := by decide +kernel
theorem dX8_appeals_9 : decode cX8_appeals 9 = .ok (.iload_n 2, 1) := by decide +kernel
theorem dX8_appeals_10 : decode cX8_appeals 10 = .ok (.invokestatic 167, 3) := by decide +kernel
theorem dX8_appeals_13 : decode cX8_appeals 13 = .ok (.ifCond .eq 7, 3) := by decide +kernel
theorem dX8_appeals_16 : decode cX8_appeals 16 = .ok (.iconst 1, 1) := by decide +kernel
theorem dX8_appeals_17 : decode cX8_appeals 17 = .ok (.goto 4, 3) := by decide +kernel
theorem dX8_appeals_20 : decode cX8_appeals 20 = .ok (.iconst 0, 1) := by decide +kernel
theorem dX8_appeals_21 : decode cX8_appeals 21 = .ok (.iconst 1, 1) := by decide +kernel
theorem dX8_appeals_22 : decode cX8_appeals 22 = .ok (.iconst 1, 1) := by decide +kernel
theorem dX8_appeals_23 : decode cX8_appeals 23 = .ok (.invokevirtual 101, 3) := by decide +kernel
theorem dX8_appeals_26 : decode cX8_appeals 26 = .ok (.ifCond .eq 21, 3) := by decide +kernel
theorem dX8_appeals_29 : decode cX8_appeals 29 = .ok (.iconst 2, 1) := by decide +kernel
theorem dX8_appeals_30 : decode cX8_appeals 30 = .ok (.aload_n 0, 1) := by decide +kernel
theorem dX8_appeals_31 : decode cX8_appeals 31 = .ok (.getfield 29, 3) := by decide +kernel
theorem dX8_appeals_34 : decode cX8_appeals 34 = .ok (.iconst 2, 1) := by decide +kernel
theorem dX8_appeals_35 : decode cX8_appeals 35 = .ok (.iload_n 1, 1) := by decide +kernel
theorem dX8_appeals_36 : decode cX8_appeals 36 = .ok (.invokestatic 164, 3) := by decide +kernel
theorem dX8_appeals_39 : decode cX8_appeals 39 = .ok (.imul, 1) := by decide +kernel
theorem dX8_appeals_40 : decode cX8_appeals 40 = .ok (.iload_n 2, 1) := by decide +kernel
theorem dX8_appeals_41 : decode cX8_appeals 41 = .ok (.iadd, 1) := by decide +kernel
theorem dX8_appeals_42 : decode cX8_appeals 42 = .ok (.iaload, 1) := by decide +kernel
theorem dX8_appeals_43 : decode cX8_appeals 43 = .ok (.isub, 1) := by decide +kernel
theorem dX8_appeals_44 : decode cX8_appeals 44 = .ok (.goto 4, 3) := by decide +kernel
theorem dX8_appeals_47 : decode cX8_appeals 47 = .ok (.iconst 0, 1) := by decide +kernel
theorem dX8_appeals_48 : decode cX8_appeals 48 = .ok (.ireturn, 1) := by decide +kernel
theorem dX8_drawPools_0 : decode cX8_drawPools 0 = .ok (.iload_n 1, 1) := by decide +kernel
theorem dX8_drawPools_1 : decode cX8_drawPools 1 = .ok (.iconst 1, 1) := by decide +kernel
theorem dX8_drawPools_2 : decode cX8_drawPools 2 = .ok (.iconst 4, 1) := by decide +kernel
theorem dX8_drawPools_3 : decode cX8_drawPools 3 = .ok (.invokestatic 85, 3) := by decide +kernel
theorem dX8_drawPools_6 : decode cX8_drawPools 6 = .ok (.istore_n 2, 1) := by decide +kernel
theorem dX8_drawPools_7 : decode cX8_drawPools 7 = .ok (.aload_n 0, 1) := by decide +kernel
theorem dX8_drawPools_8 : decode cX8_drawPools 8 = .ok (.iload_n 2, 1) := by decide +kernel
theorem dX8_drawPools_9 : decode cX8_drawPools 9 = .ok (.iload_n 2, 1) := by decide +kernel
theorem dX8_drawPools_10 : decode cX8_drawPools 10 = .ok (.ifCond .eq 24, 3) := by decide +kernel
theorem dX8_drawPools_13 : decode cX8_drawPools 13 = .ok (.aload_n 0, 1) := by decide +kernel
theorem dX8_drawPools_14 : decode cX8_drawPools 14 = .ok (.getfield 98, 3) := by decide +kernel
theorem dX8_drawPools_17 : decode cX8_drawPools 17 = .ok (.ifCond .ne 17, 3) := by decide +kernel
theorem dX8_drawPools_20 : decode cX8_drawPools 20 = .ok (.aload_n 0, 1) := by decide +kernel
theorem dX8_drawPools_21 : decode cX8_drawPools 21 = .ok (.getfield 82, 3) := by decide +kernel
theorem dX8_drawPools_24 : decode cX8_drawPools 24 = .ok (.iconst 2, 1) := by decide +kernel
theorem dX8_drawPools_25 : decode cX8_drawPools 25 = .ok (.iload_n 1, 1) := by decide +kernel
theorem dX8_drawPools_26 : decode cX8_drawPools 26 = .ok (.imul, 1) := by decide +kernel
theorem dX8_drawPools_27 : decode cX8_drawPools 27 = .ok (.if_icmp .lt 7, 3) := by decide +kernel
theorem dX8_drawPools_30 : decode cX8_drawPools 30 = .ok (.iconst 1, 1) := by decide +kernel
theorem dX8_drawPools_31 : decode cX8_drawPools 31 = .ok (.goto 4, 3) := by decide +kernel
theorem dX8_drawPools_34 : decode cX8_drawPools 34 = .ok (.iconst 0, 1) := by decide +kernel
theorem dX8_drawPools_35 : decode cX8_drawPools 35 = .ok (.iconst 1, 1) := by decide +kernel
theorem dX8_drawPools_36 : decode cX8_drawPools 36 = .ok (.invokevirtual 101, 3) := by decide +kernel
theorem dX8_drawPools_39 : decode cX8_drawPools 39 = .ok (.ifCond .ne 5, 3) := by decide +kernel
theorem dX8_drawPools_42 : decode cX8_drawPools 42 = .ok (.iconst 0, 1) := by decide +kernel
theorem dX8_drawPools_43 : decode cX8_drawPools 43 = .ok (.ireturn, 1) := by decide +kernel
theorem dX8_drawPools_44 : decode cX8_drawPools 44 = .ok (.aload_n 0, 1) := by decide +kernel
theorem dX8_drawPools_45 : decode cX8_drawPools 45 = .ok (.iload_n 1, 1) := by decide +kernel
theorem dX8_drawPools_46 : decode cX8_drawPools 46 = .ok (.putfield 98, 3) := by decide +kernel
theorem dX8_drawPools_49 : decode cX8_drawPools 49 = .ok (.iconst 0, 1) := by decide +kernel
theorem dX8_drawPools_50 : decode cX8_drawPools 50 = .ok (.istore_n 3, 1) := by decide +kernel
theorem dX8_drawPools_51 : decode cX8_drawPools 51 = .ok (.iload_n 3, 1) := by decide +kernel
theorem dX8_drawPools_52 : decode cX8_drawPools 52 = .ok (.iload_n 1, 1) := by decide +kernel
theorem dX8_drawPools_53 : decode cX8_drawPools 53 = .ok (.if_icmp .ge 86, 3) := by decide +kernel
theorem dX8_drawPools_56 : decode cX8_drawPools 56 = .ok (.iload_n 3, 1) := by decide +kernel
theorem dX8_drawPools_57 : decode cX8_drawPools 57 = .ok (.istore 4, 2) := by decide +kernel
theorem dX8_drawPools_59 : decode cX8_drawPools 59 = .ok (.iload 4, 2) := by decide +kernel
theorem dX8_drawPools_61 : decode cX8_drawPools 61 = .ok (.aload_n 0, 1) := by decide +kernel
theorem dX8_drawPools_62 : decode cX8_drawPools 62 = .ok (.getfield 82, 3) := by decide +kernel
theorem dX8_drawPools_65 : decode cX8_drawPools 65 = .ok (.if_icmp .ge 68, 3) := by decide +kernel
theorem dX8_drawPools_68 : decode cX8_drawPools 68 = .ok (.iload 4, 2) := by decide +kernel
theorem dX8_drawPools_70 : decode cX8_drawPools 70 = .ok (.iload_n 1, 1) := by decide +kernel
theorem dX8_drawPools_71 : decode cX8_drawPools 71 = .ok (.iadd, 1) := by decide +kernel
theorem dX8_drawPools_72 : decode cX8_drawPools 72 = .ok (.istore 5, 2) := by decide +kernel
theorem dX8_drawPools_74 : decode cX8_drawPools 74 = .ok (.iload 5, 2) := by decide +kernel
theorem dX8_drawPools_76 : decode cX8_drawPools 76 = .ok (.aload_n 0, 1) := by decide +kernel
theorem dX8_drawPools_77 : decode cX8_drawPools 77 = .ok (.getfield 82, 3) := by decide +kernel
theorem dX8_drawPools_80 : decode cX8_drawPools 80 = .ok (.if_icmp .ge 44, 3) := by decide +kernel
theorem dX8_drawPools_83 : decode cX8_drawPools 83 = .ok (.aload_n 0, 1) := by decide +kernel
theorem dX8_drawPools_84 : decode cX8_drawPools 84 = .ok (.getfield 20, 3) := by decide +kernel
theorem dX8_drawPools_87 : decode cX8_drawPools 87 = .ok (.aload_n 0, 1) := by decide +kernel
theorem dX8_drawPools_88 : decode cX8_drawPools 88 = .ok (.getfield 92, 3) := by decide +kernel
theorem dX8_drawPools_91 : decode cX8_drawPools 91 = .ok (.iload 4, 2) := by decide +kernel
theorem dX8_drawPools_93 : decode cX8_drawPools 93 = .ok (.iastore, 1) := by decide +kernel
theorem dX8_drawPools_94 : decode cX8_drawPools 94 = .ok (.aload_n 0, 1) := by decide +kernel
theorem dX8_drawPools_95 : decode cX8_drawPools 95 = .ok (.getfield 23, 3) := by decide +kernel
theorem dX8_drawPools_98 : decode cX8_drawPools 98 = .ok (.aload_n 0, 1) := by decide +kernel
theorem dX8_drawPools_99 : decode cX8_drawPools 99 = .ok (.getfield 92, 3) := by decide +kernel
theorem dX8_drawPools_102 : decode cX8_drawPools 102 = .ok (.iload 5, 2) := by decide +kernel
theorem dX8_drawPools_104 : decode cX8_drawPools 104 = .ok (.iastore, 1) := by decide +kernel
theorem dX8_drawPools_105 : decode cX8_drawPools 105 = .ok (.aload_n 0, 1) := by decide +kernel
theorem dX8_drawPools_106 : decode cX8_drawPools 106 = .ok (.dup, 1) := by decide +kernel
theorem dX8_drawPools_107 : decode cX8_drawPools 107 = .ok (.getfield 92, 3) := by decide +kernel
theorem dX8_drawPools_110 : decode cX8_drawPools 110 = .ok (.iconst 1, 1) := by decide +kernel
theorem dX8_drawPools_111 : decode cX8_drawPools 111 = .ok (.iadd, 1) := by decide +kernel
theorem dX8_drawPools_112 : decode cX8_drawPools 112 = .ok (.putfield 92, 3) := by decide +kernel
theorem dX8_drawPools_115 : decode cX8_drawPools 115 = .ok (.iload 5, 2) := by decide +kernel
theorem dX8_drawPools_117 : decode cX8_drawPools 117 = .ok (.iload_n 1, 1) := by decide +kernel
theorem dX8_drawPools_118 : decode cX8_drawPools 118 = .ok (.iadd, 1) := by decide +kernel
theorem dX8_drawPools_119 : decode cX8_drawPools 119 = .ok (.istore 5, 2) := by decide +kernel
theorem dX8_drawPools_121 : decode cX8_drawPools 121 = .ok (.goto (-47), 3) := by decide +kernel
theorem dX8_drawPools_124 : decode cX8_drawPools 124 = .ok (.iload 4, 2) := by decide +kernel
theorem dX8_drawPools_126 : decode cX8_drawPools 126 = .ok (.iload_n 1, 1) := by decide +kernel
theorem dX8_drawPools_127 : decode cX8_drawPools 127 = .ok (.iadd, 1) := by decide +kernel
theorem dX8_drawPools_128 : decode cX8_drawPools 128 = .ok (.istore 4, 2) := by decide +kernel
theorem dX8_drawPools_130 : decode cX8_drawPools 130 = .ok (.goto (-71), 3) := by decide +kernel
theorem dX8_drawPools_133 : decode cX8_drawPools 133 = .ok (.iinc 3 1, 3) := by decide +kernel
theorem dX8_drawPools_136 : decode cX8_drawPools 136 = .ok (.goto (-85), 3) := by decide +kernel
theorem dX8_drawPools_139 : decode cX8_drawPools 139 = .ok (.aload_n 0, 1) := by decide +kernel
theorem dX8_drawPools_140 : decode cX8_drawPools 140 = .ok (.getfield 92, 3) := by decide +kernel
theorem dX8_drawPools_143 : decode cX8_drawPools 143 = .ok (.ireturn, 1) := by decide +kernel
theorem dX8_poolBouts_0 : decode cX8_poolBouts 0 = .ok (.aload_n 0, 1) := by decide +kernel
theorem dX8_poolBouts_1 : decode cX8_poolBouts 1 = .ok (.iconst 0, 1) := by decide +kernel
theorem dX8_poolBouts_2 : decode cX8_poolBouts 2 = .ok (.putfield 79, 3) := by decide +kernel
theorem dX8_poolBouts_5 : decode cX8_poolBouts 5 = .ok (.aload_n 0, 1) := by decide +kernel
theorem dX8_poolBouts_6 : decode cX8_poolBouts 6 = .ok (.getfield 92, 3) := by decide +kernel
theorem dX8_poolBouts_9 : decode cX8_poolBouts 9 = .ok (.ireturn, 1) := by decide +kernel
theorem dX8_sums_0 : decode cX8_sums 0 = .ok (.iconst 0, 1) := by decide +kernel
theorem dX8_sums_1 : decode cX8_sums 1 = .ok (.istore_n 1, 1) := by decide +kernel
theorem dX8_sums_2 : decode cX8_sums 2 = .ok (.iload_n 1, 1) := by decide +kernel
theorem dX8_sums_3 : decode cX8_sums 3 = .ok (.bipush 12, 2) := by decide +kernel
theorem dX8_sums_5 : decode cX8_sums 5 = .ok (.if_icmp .ge 37, 3) := by decide +kernel
theorem dX8_sums_8 : decode cX8_sums 8 = .ok (.aload_n 0, 1) := by decide +kernel
theorem dX8_sums_9 : decode cX8_sums 9 = .ok (.getfield 63, 3) := by decide +kernel
theorem dX8_sums_12 : decode cX8_sums 12 = .ok (.iload_n 1, 1) := by decide +kernel
theorem dX8_sums_13 : decode cX8_sums 13 = .ok (.iconst 0, 1) := by decide +kernel
theorem dX8_sums_14 : decode cX8_sums 14 = .ok (.iastore, 1) := by decide +kernel
theorem dX8_sums_15 : decode cX8_sums 15 = .ok (.aload_n 0, 1) := by decide +kernel
theorem dX8_sums_16 : decode cX8_sums 16 = .ok (.getfield 66, 3) := by decide +kernel
theorem dX8_sums_19 : decode cX8_sums 19 = .ok (.iload_n 1, 1) := by decide +kernel
theorem dX8_sums_20 : decode cX8_sums 20 = .ok (.iconst 0, 1) := by decide +kernel
theorem dX8_sums_21 : decode cX8_sums 21 = .ok (.iastore, 1) := by decide +kernel
theorem dX8_sums_22 : decode cX8_sums 22 = .ok (.aload_n 0, 1) := by decide +kernel
theorem dX8_sums_23 : decode cX8_sums 23 = .ok (.getfield 69, 3) := by decide +kernel
theorem dX8_sums_26 : decode cX8_sums 26 = .ok (.iload_n 1, 1) := by decide +kernel
theorem dX8_sums_27 : decode cX8_sums 27 = .ok (.iconst 0, 1) := by decide +kernel
theorem dX8_sums_28 : decode cX8_sums 28 = .ok (.iastore, 1) := by decide +kernel
theorem dX8_sums_29 : decode cX8_sums 29 = .ok (.aload_n 0, 1) := by decide +kernel
theorem dX8_sums_30 : decode cX8_sums 30 = .ok (.getfield 72, 3) := by decide +kernel
theorem dX8_sums_33 : decode cX8_sums 33 = .ok (.iload_n 1, 1) := by decide +kernel
theorem dX8_sums_34 : decode cX8_sums 34 = .ok (.iconst 0, 1) := by decide +kernel
theorem dX8_sums_35 : decode cX8_sums 35 = .ok (.iastore, 1) := by decide +kernel
theorem dX8_sums_36 : decode cX8_sums 36 = .ok (.iinc 1 1, 3) := by decide +kernel
theorem dX8_sums_39 : decode cX8_sums 39 = .ok (.goto (-37), 3) := by decide +kernel
theorem dX8_sums_42 : decode cX8_sums 42 = .ok (.iconst 0, 1) := by decide +kernel
theorem dX8_sums_43 : decode cX8_sums 43 = .ok (.istore_n 1, 1) := by decide +kernel
theorem dX8_sums_44 : decode cX8_sums 44 = .ok (.iload_n 1, 1) := by decide +kernel
theorem dX8_sums_45 : decode cX8_sums 45 = .ok (.aload_n 0, 1) := by decide +kernel
theorem dX8_sums_46 : decode cX8_sums 46 = .ok (.getfield 92, 3) := by decide +kernel
theorem dX8_sums_49 : decode cX8_sums 49 = .ok (.if_icmp .ge 83, 3) := by decide +kernel
theorem dX8_sums_52 : decode cX8_sums 52 = .ok (.aload_n 0, 1) := by decide +kernel
theorem dX8_sums_53 : decode cX8_sums 53 = .ok (.iload_n 1, 1) := by decide +kernel
theorem dX8_sums_54 : decode cX8_sums 54 = .ok (.invokevirtual 145, 3) := by decide +kernel
theorem dX8_sums_57 : decode cX8_sums 57 = .ok (.aload_n 0, 1) := by decide +kernel
theorem dX8_sums_58 : decode cX8_sums 58 = .ok (.getfield 135, 3) := by decide +kernel
theorem dX8_sums_61 : decode cX8_sums 61 = .ok (.iconst (-1), 1) := by decide +kernel
theorem dX8_sums_62 : decode cX8_sums 62 = .ok (.if_icmp .eq 64, 3) := by decide +kernel
theorem dX8_sums_65 : decode cX8_sums 65 = .ok (.aload_n 0, 1) := by decide +kernel
theorem dX8_sums_66 : decode cX8_sums 66 = .ok (.aload_n 0, 1) := by decide +kernel
theorem dX8_sums_67 : decode cX8_sums 67 = .ok (.getfield 20, 3) := by decide +kernel
theorem dX8_sums_70 : decode cX8_sums 70 = .ok (.iload_n 1, 1) := by decide +kernel
theorem dX8_sums_71 : decode cX8_sums 71 = .ok (.iaload, 1) := by decide +kernel
theorem dX8_sums_72 : decode cX8_sums 72 = .ok (.aload_n 0, 1) := by decide +kernel
theorem dX8_sums_73 : decode cX8_sums 73 = .ok (.getfield 129, 3) := by decide +kernel
theorem dX8_sums_76 : decode cX8_sums 76 = .ok (.aload_n 0, 1) := by decide +kernel
theorem dX8_sums_77 : decode cX8_sums 77 = .ok (.getfield 132, 3) := by decide +kernel
theorem dX8_sums_80 : decode cX8_sums 80 = .ok (.aload_n 0, 1) := by decide +kernel
theorem dX8_sums_81 : decode cX8_sums 81 = .ok (.getfield 135, 3) := by decide +kernel
theorem dX8_sums_84 : decode cX8_sums 84 = .ok (.ifCond .ne 7, 3) := by decide +kernel
theorem dX8_sums_87 : decode cX8_sums 87 = .ok (.iconst 1, 1) := by decide +kernel
theorem dX8_sums_88 : decode cX8_sums 88 = .ok (.goto 4, 3) := by decide +kernel
theorem dX8_sums_91 : decode cX8_sums 91 = .ok (.iconst 0, 1) := by decide +kernel
theorem dX8_sums_92 : decode cX8_sums 92 = .ok (.invokevirtual 187, 3) := by decide +kernel
theorem dX8_sums_95 : decode cX8_sums 95 = .ok (.aload_n 0, 1) := by decide +kernel
theorem dX8_sums_96 : decode cX8_sums 96 = .ok (.aload_n 0, 1) := by decide +kernel
theorem dX8_sums_97 : decode cX8_sums 97 = .ok (.getfield 23, 3) := by decide +kernel
theorem dX8_sums_100 : decode cX8_sums 100 = .ok (.iload_n 1, 1) := by decide +kernel
theorem dX8_sums_101 : decode cX8_sums 101 = .ok (.iaload, 1) := by decide +kernel
theorem dX8_sums_102 : decode cX8_sums 102 = .ok (.aload_n 0, 1) := by decide +kernel
theorem dX8_sums_103 : decode cX8_sums 103 = .ok (.getfield 132, 3) := by decide +kernel
theorem dX8_sums_106 : decode cX8_sums 106 = .ok (.aload_n 0, 1) := by decide +kernel
theorem dX8_sums_107 : decode cX8_sums 107 = .ok (.getfield 129, 3) := by decide +kernel
theorem dX8_sums_110 : decode cX8_sums 110 = .ok (.aload_n 0, 1) := by decide +kernel
theorem dX8_sums_111 : decode cX8_sums 111 = .ok (.getfield 135, 3) := by decide +kernel
theorem dX8_sums_114 : decode cX8_sums 114 = .ok (.iconst 1, 1) := by decide +kernel
theorem dX8_sums_115 : decode cX8_sums 115 = .ok (.if_icmp .ne 7, 3) := by decide +kernel
theorem dX8_sums_118 : decode cX8_sums 118 = .ok (.iconst 1, 1) := by decide +kernel
theorem dX8_sums_119 : decode cX8_sums 119 = .ok (.goto 4, 3) := by decide +kernel
theorem dX8_sums_122 : decode cX8_sums 122 = .ok (.iconst 0, 1) := by decide +kernel
theorem dX8_sums_123 : decode cX8_sums 123 = .ok (.invokevirtual 187, 3) := by decide +kernel
theorem dX8_sums_126 : decode cX8_sums 126 = .ok (.iinc 1 1, 3) := by decide +kernel
theorem dX8_sums_129 : decode cX8_sums 129 = .ok (.goto (-85), 3) := by decide +kernel
theorem dX8_sums_132 : decode cX8_sums 132 = .ok (.return_, 1) := by decide +kernel
theorem dX8_adds_0 : decode cX8_adds 0 = .ok (.aload_n 0, 1) := by decide +kernel
theorem dX8_adds_1 : decode cX8_adds 1 = .ok (.getfield 63, 3) := by decide +kernel
theorem dX8_adds_4 : decode cX8_adds 4 = .ok (.iload_n 1, 1) := by decide +kernel
theorem dX8_adds_5 : decode cX8_adds 5 = .ok (.dup2, 1) := by decide +kernel
theorem dX8_adds_6 : decode cX8_adds 6 = .ok (.iaload, 1) := by decide +kernel
theorem dX8_adds_7 : decode cX8_adds 7 = .ok (.iconst 1, 1) := by decide +kernel
theorem dX8_adds_8 : decode cX8_adds 8 = .ok (.iadd, 1) := by decide +kernel
theorem dX8_adds_9 : decode cX8_adds 9 = .ok (.iastore, 1) := by decide +kernel
theorem dX8_adds_10 : decode cX8_adds 10 = .ok (.aload_n 0, 1) := by decide +kernel
theorem dX8_adds_11 : decode cX8_adds 11 = .ok (.getfield 66, 3) := by decide +kernel
theorem dX8_adds_14 : decode cX8_adds 14 = .ok (.iload_n 1, 1) := by decide +kernel
theorem dX8_adds_15 : decode cX8_adds 15 = .ok (.dup2, 1) := by decide +kernel
theorem dX8_adds_16 : decode cX8_adds 16 = .ok (.iaload, 1) := by decide +kernel
theorem dX8_adds_17 : decode cX8_adds 17 = .ok (.iload 4, 2) := by decide +kernel
theorem dX8_adds_19 : decode cX8_adds 19 = .ok (.ifCond .eq 7, 3) := by decide +kernel
theorem dX8_adds_22 : decode cX8_adds 22 = .ok (.iconst 1, 1) := by decide +kernel
theorem dX8_adds_23 : decode cX8_adds 23 = .ok (.goto 4, 3) := by decide +kernel
theorem dX8_adds_26 : decode cX8_adds 26 = .ok (.iconst 0, 1) := by decide +kernel
theorem dX8_adds_27 : decode cX8_adds 27 = .ok (.iadd, 1) := by decide +kernel
theorem dX8_adds_28 : decode cX8_adds 28 = .ok (.iastore, 1) := by decide +kernel
theorem dX8_adds_29 : decode cX8_adds 29 = .ok (.aload_n 0, 1) := by decide +kernel
theorem dX8_adds_30 : decode cX8_adds 30 = .ok (.getfield 69, 3) := by decide +kernel
theorem dX8_adds_33 : decode cX8_adds 33 = .ok (.iload_n 1, 1) := by decide +kernel
theorem dX8_adds_34 : decode cX8_adds 34 = .ok (.dup2, 1) := by decide +kernel
theorem dX8_adds_35 : decode cX8_adds 35 = .ok (.iaload, 1) := by decide +kernel
theorem dX8_adds_36 : decode cX8_adds 36 = .ok (.iload_n 2, 1) := by decide +kernel
theorem dX8_adds_37 : decode cX8_adds 37 = .ok (.iadd, 1) := by decide +kernel
theorem dX8_adds_38 : decode cX8_adds 38 = .ok (.iastore, 1) := by decide +kernel
theorem dX8_adds_39 : decode cX8_adds 39 = .ok (.aload_n 0, 1) := by decide +kernel
theorem dX8_adds_40 : decode cX8_adds 40 = .ok (.getfield 72, 3) := by decide +kernel
theorem dX8_adds_43 : decode cX8_adds 43 = .ok (.iload_n 1, 1) := by decide +kernel
theorem dX8_adds_44 : decode cX8_adds 44 = .ok (.dup2, 1) := by decide +kernel
theorem dX8_adds_45 : decode cX8_adds 45 = .ok (.iaload, 1) := by decide +kernel
theorem dX8_adds_46 : decode cX8_adds 46 = .ok (.iload_n 3, 1) := by decide +kernel
theorem dX8_adds_47 : decode cX8_adds 47 = .ok (.iadd, 1) := by decide +kernel
theorem dX8_adds_48 : decode cX8_adds 48 = .ok (.iastore, 1) := by decide +kernel
theorem dX8_adds_49 : decode cX8_adds 49 = .ok (.return_, 1) := by decide +kernel
theorem dX8_won_0 : decode cX8_won 0 = .ok (.aload_n 0, 1) := by decide +kernel
theorem dX8_won_1 : decode cX8_won 1 = .ok (.aload_n 0, 1) := by decide +kernel
theorem dX8_won_2 : decode cX8_won 2 = .ok (.iload_n 1, 1) := by decide +kernel
theorem dX8_won_3 : decode cX8_won 3 = .ok (.invokevirtual 105, 3) := by decide +kernel
theorem dX8_won_6 : decode cX8_won 6 = .ok (.iconst 1, 1) := by decide +kernel
theorem dX8_won_7 : decode cX8_won 7 = .ok (.iconst 1, 1) := by decide +kernel
theorem dX8_won_8 : decode cX8_won 8 = .ok (.invokevirtual 101, 3) := by decide +kernel
theorem dX8_won_11 : decode cX8_won 11 = .ok (.ifCond .ne 5, 3) := by decide +kernel
theorem dX8_won_14 : decode cX8_won 14 = .ok (.iconst 0, 1) := by decide +kernel
theorem dX8_won_15 : decode cX8_won 15 = .ok (.ireturn, 1) := by decide +kernel
theorem dX8_won_16 : decode cX8_won 16 = .ok (.aload_n 0, 1) := by decide +kernel
theorem dX8_won_17 : decode cX8_won 17 = .ok (.invokevirtual 191, 3) := by decide +kernel
theorem dX8_won_20 : decode cX8_won 20 = .ok (.aload_n 0, 1) := by decide +kernel
theorem dX8_won_21 : decode cX8_won 21 = .ok (.getfield 66, 3) := by decide +kernel
theorem dX8_won_24 : decode cX8_won 24 = .ok (.iload_n 1, 1) := by decide +kernel
theorem dX8_won_25 : decode cX8_won 25 = .ok (.iaload, 1) := by decide +kernel
theorem dX8_won_26 : decode cX8_won 26 = .ok (.ireturn, 1) := by decide +kernel
theorem dX8_index_0 : decode cX8_index 0 = .ok (.aload_n 0, 1) := by decide +kernel
theorem dX8_index_1 : decode cX8_index 1 = .ok (.aload_n 0, 1) := by decide +kernel
theorem dX8_index_2 : decode cX8_index 2 = .ok (.iload_n 1, 1) := by decide +kernel
theorem dX8_index_3 : decode cX8_index 3 = .ok (.invokevirtual 105, 3) := by decide +kernel
theorem dX8_index_6 : decode cX8_index 6 = .ok (.iconst 1, 1) := by decide +kernel
theorem dX8_index_7 : decode cX8_index 7 = .ok (.iconst 1, 1) := by decide +kernel
theorem dX8_index_8 : decode cX8_index 8 = .ok (.invokevirtual 101, 3) := by decide +kernel
theorem dX8_index_11 : decode cX8_index 11 = .ok (.ifCond .ne 5, 3) := by decide +kernel
theorem dX8_index_14 : decode cX8_index 14 = .ok (.iconst 0, 1) := by decide +kernel
theorem dX8_index_15 : decode cX8_index 15 = .ok (.ireturn, 1) := by decide +kernel
theorem dX8_index_16 : decode cX8_index 16 = .ok (.aload_n 0, 1) := by decide +kernel
theorem dX8_index_17 : decode cX8_index 17 = .ok (.invokevirtual 191, 3) := by decide +kernel
theorem dX8_index_20 : decode cX8_index 20 = .ok (.aload_n 0, 1) := by decide +kernel
theorem dX8_index_21 : decode cX8_index 21 = .ok (.getfield 69, 3) := by decide +kernel
theorem dX8_index_24 : decode cX8_index 24 = .ok (.iload_n 1, 1) := by decide +kernel
theorem dX8_index_25 : decode cX8_index 25 = .ok (.iaload, 1) := by decide +kernel
theorem dX8_index_26 : decode cX8_index 26 = .ok (.aload_n 0, 1) := by decide +kernel
theorem dX8_index_27 : decode cX8_index 27 = .ok (.getfield 72, 3) := by decide +kernel
theorem dX8_index_30 : decode cX8_index 30 = .ok (.iload_n 1, 1) := by decide +kernel
theorem dX8_index_31 : decode cX8_index 31 = .ok (.iaload, 1) := by decide +kernel
theorem dX8_index_32 : decode cX8_index 32 = .ok (.isub, 1) := by decide +kernel
theorem dX8_index_33 : decode cX8_index 33 = .ok (.ireturn, 1) := by decide +kernel
theorem dX8_isAhead_0 : decode cX8_isAhead 0 = .ok (.aload_n 0, 1) := by decide +kernel
theorem dX8_isAhead_1 : decode cX8_isAhead 1 = .ok (.getfield 66, 3) := by decide +kernel
theorem dX8_isAhead_4 : decode cX8_isAhead 4 = .ok (.iload_n 1, 1) := by decide +kernel
theorem dX8_isAhead_5 : decode cX8_isAhead 5 = .ok (.iaload, 1) := by decide +kernel
theorem dX8_isAhead_6 : decode cX8_isAhead 6 = .ok (.aload_n 0, 1) := by decide +kernel
theorem dX8_isAhead_7 : decode cX8_isAhead 7 = .ok (.getfield 63, 3) := by decide +kernel
theorem dX8_isAhead_10 : decode cX8_isAhead 10 = .ok (.iload_n 2, 1) := by decide +kernel
theorem dX8_isAhead_11 : decode cX8_isAhead 11 = .ok (.iaload, 1) := by decide +kernel
theorem dX8_isAhead_12 : decode cX8_isAhead 12 = .ok (.ifCond .ne 7, 3) := by decide +kernel
theorem dX8_isAhead_15 : decode cX8_isAhead 15 = .ok (.iconst 1, 1) := by decide +kernel
theorem dX8_isAhead_16 : decode cX8_isAhead 16 = .ok (.goto 9, 3) := by decide +kernel
theorem dX8_isAhead_19 : decode cX8_isAhead 19 = .ok (.aload_n 0, 1) := by decide +kernel
theorem dX8_isAhead_20 : decode cX8_isAhead 20 = .ok (.getfield 63, 3) := by decide +kernel
theorem dX8_isAhead_23 : decode cX8_isAhead 23 = .ok (.iload_n 2, 1) := by decide +kernel
theorem dX8_isAhead_24 : decode cX8_isAhead 24 = .ok (.iaload, 1) := by decide +kernel
theorem dX8_isAhead_25 : decode cX8_isAhead 25 = .ok (.imul, 1) := by decide +kernel
theorem dX8_isAhead_26 : decode cX8_isAhead 26 = .ok (.aload_n 0, 1) := by decide +kernel
theorem dX8_isAhead_27 : decode cX8_isAhead 27 = .ok (.getfield 66, 3) := by decide +kernel
theorem dX8_isAhead_30 : decode cX8_isAhead 30 = .ok (.iload_n 2, 1) := by decide +kernel
theorem dX8_isAhead_31 : decode cX8_isAhead 31 = .ok (.iaload, 1) := by decide +kernel
theorem dX8_isAhead_32 : decode cX8_isAhead 32 = .ok (.aload_n 0, 1) := by decide +kernel
theorem dX8_isAhead_33 : decode cX8_isAhead 33 = .ok (.getfield 63, 3) := by decide +kernel
theorem dX8_isAhead_36 : decode cX8_isAhead 36 = .ok (.iload_n 1, 1) := by decide +kernel
theorem dX8_isAhead_37 : decode cX8_isAhead 37 = .ok (.iaload, 1) := by decide +kernel
theorem dX8_isAhead_38 : decode cX8_isAhead 38 = .ok (.ifCond .ne 7, 3) := by decide +kernel
theorem dX8_isAhead_41 : decode cX8_isAhead 41 = .ok (.iconst 1, 1) := by decide +kernel
theorem dX8_isAhead_42 : decode cX8_isAhead 42 = .ok (.goto 9, 3) := by decide +kernel
theorem dX8_isAhead_45 : decode cX8_isAhead 45 = .ok (.aload_n 0, 1) := by decide +kernel
theorem dX8_isAhead_46 : decode cX8_isAhead 46 = .ok (.getfield 63, 3) := by decide +kernel
theorem dX8_isAhead_49 : decode cX8_isAhead 49 = .ok (.iload_n 1, 1) := by decide +kernel
theorem dX8_isAhead_50 : decode cX8_isAhead 50 = .ok (.iaload, 1) := by decide +kernel
theorem dX8_isAhead_51 : decode cX8_isAhead 51 = .ok (.imul, 1) := by decide +kernel
theorem dX8_isAhead_52 : decode cX8_isAhead 52 = .ok (.isub, 1) := by decide +kernel
theorem dX8_isAhead_53 : decode cX8_isAhead 53 = .ok (.istore_n 3, 1) := by decide +kernel
theorem dX8_isAhead_54 : decode cX8_isAhead 54 = .ok (.iload_n 3, 1) := by decide +kernel
theorem dX8_isAhead_55 : decode cX8_isAhead 55 = .ok (.ifCond .ne 33, 3) := by decide +kernel
theorem dX8_isAhead_58 : decode cX8_isAhead 58 = .ok (.aload_n 0, 1) := by decide +kernel
theorem dX8_isAhead_59 : decode cX8_isAhead 59 = .ok (.getfield 69, 3) := by decide +kernel
theorem dX8_isAhead_62 : decode cX8_isAhead 62 = .ok (.iload_n 1, 1) := by decide +kernel
theorem dX8_isAhead_63 : decode cX8_isAhead 63 = .ok (.iaload, 1) := by decide +kernel
theorem dX8_isAhead_64 : decode cX8_isAhead 64 = .ok (.aload_n 0, 1) := by decide +kernel
theorem dX8_isAhead_65 : decode cX8_isAhead 65 = .ok (.getfield 72, 3) := by decide +kernel
theorem dX8_isAhead_68 : decode cX8_isAhead 68 = .ok (.iload_n 1, 1) := by decide +kernel
theorem dX8_isAhead_69 : decode cX8_isAhead 69 = .ok (.iaload, 1) := by decide +kernel
theorem dX8_isAhead_70 : decode cX8_isAhead 70 = .ok (.isub, 1) := by decide +kernel
theorem dX8_isAhead_71 : decode cX8_isAhead 71 = .ok (.aload_n 0, 1) := by decide +kernel
theorem dX8_isAhead_72 : decode cX8_isAhead 72 = .ok (.getfield 69, 3) := by decide +kernel
theorem dX8_isAhead_75 : decode cX8_isAhead 75 = .ok (.iload_n 2, 1) := by decide +kernel
theorem dX8_isAhead_76 : decode cX8_isAhead 76 = .ok (.iaload, 1) := by decide +kernel
theorem dX8_isAhead_77 : decode cX8_isAhead 77 = .ok (.isub, 1) := by decide +kernel
theorem dX8_isAhead_78 : decode cX8_isAhead 78 = .ok (.aload_n 0, 1) := by decide +kernel
theorem dX8_isAhead_79 : decode cX8_isAhead 79 = .ok (.getfield 72, 3) := by decide +kernel
theorem dX8_isAhead_82 : decode cX8_isAhead 82 = .ok (.iload_n 2, 1) := by decide +kernel
theorem dX8_isAhead_83 : decode cX8_isAhead 83 = .ok (.iaload, 1) := by decide +kernel
theorem dX8_isAhead_84 : decode cX8_isAhead 84 = .ok (.iadd, 1) := by decide +kernel
theorem dX8_isAhead_85 : decode cX8_isAhead 85 = .ok (.goto 4, 3) := by decide +kernel
theorem dX8_isAhead_88 : decode cX8_isAhead 88 = .ok (.iload_n 3, 1) := by decide +kernel
theorem dX8_isAhead_89 : decode cX8_isAhead 89 = .ok (.istore_n 3, 1) := by decide +kernel
theorem dX8_isAhead_90 : decode cX8_isAhead 90 = .ok (.iload_n 3, 1) := by decide +kernel
theorem dX8_isAhead_91 : decode cX8_isAhead 91 = .ok (.ifCond .ne 19, 3) := by decide +kernel
theorem dX8_isAhead_94 : decode cX8_isAhead 94 = .ok (.aload_n 0, 1) := by decide +kernel
theorem dX8_isAhead_95 : decode cX8_isAhead 95 = .ok (.getfield 69, 3) := by decide +kernel
theorem dX8_isAhead_98 : decode cX8_isAhead 98 = .ok (.iload_n 1, 1) := by decide +kernel
theorem dX8_isAhead_99 : decode cX8_isAhead 99 = .ok (.iaload, 1) := by decide +kernel
theorem dX8_isAhead_100 : decode cX8_isAhead 100 = .ok (.aload_n 0, 1) := by decide +kernel
theorem dX8_isAhead_101 : decode cX8_isAhead 101 = .ok (.getfield 69, 3) := by decide +kernel
theorem dX8_isAhead_104 : decode cX8_isAhead 104 = .ok (.iload_n 2, 1) := by decide +kernel
theorem dX8_isAhead_105 : decode cX8_isAhead 105 = .ok (.iaload, 1) := by decide +kernel
theorem dX8_isAhead_106 : decode cX8_isAhead 106 = .ok (.isub, 1) := by decide +kernel
theorem dX8_isAhead_107 : decode cX8_isAhead 107 = .ok (.goto 4, 3) := by decide +kernel
theorem dX8_isAhead_110 : decode cX8_isAhead 110 = .ok (.iload_n 3, 1) := by decide +kernel
theorem dX8_isAhead_111 : decode cX8_isAhead 111 = .ok (.istore_n 3, 1) := by decide +kernel
theorem dX8_isAhead_112 : decode cX8_isAhead 112 = .ok (.iload_n 3, 1) := by decide +kernel
theorem dX8_isAhead_113 : decode cX8_isAhead 113 = .ok (.ifCond .gt 12, 3) := by decide +kernel
theorem dX8_isAhead_116 : decode cX8_isAhead 116 = .ok (.iload_n 3, 1) := by decide +kernel
theorem dX8_isAhead_117 : decode cX8_isAhead 117 = .ok (.ifCond .ne 12, 3) := by decide +kernel
theorem dX8_isAhead_120 : decode cX8_isAhead 120 = .ok (.iload_n 1, 1) := by decide +kernel
theorem dX8_isAhead_121 : decode cX8_isAhead 121 = .ok (.iload_n 2, 1) := by decide +kernel
theorem dX8_isAhead_122 : decode cX8_isAhead 122 = .ok (.if_icmp .ge 7, 3) := by decide +kernel
theorem dX8_isAhead_125 : decode cX8_isAhead 125 = .ok (.iconst 1, 1) := by decide +kernel
theorem dX8_isAhead_126 : decode cX8_isAhead 126 = .ok (.goto 4, 3) := by decide +kernel
theorem dX8_isAhead_129 : decode cX8_isAhead 129 = .ok (.iconst 0, 1) := by decide +kernel
theorem dX8_isAhead_130 : decode cX8_isAhead 130 = .ok (.ireturn, 1) := by decide +kernel
theorem dX8_ranked_0 : decode cX8_ranked 0 = .ok (.iconst 0, 1) := by decide +kernel
theorem dX8_ranked_1 : decode cX8_ranked 1 = .ok (.istore_n 2, 1) := by decide +kernel
theorem dX8_ranked_2 : decode cX8_ranked 2 = .ok (.iconst 0, 1) := by decide +kernel
theorem dX8_ranked_3 : decode cX8_ranked 3 = .ok (.istore_n 3, 1) := by decide +kernel
theorem dX8_ranked_4 : decode cX8_ranked 4 = .ok (.iload_n 3, 1) := by decide +kernel
theorem dX8_ranked_5 : decode cX8_ranked 5 = .ok (.aload_n 0, 1) := by decide +kernel
theorem dX8_ranked_6 : decode cX8_ranked 6 = .ok (.getfield 82, 3) := by decide +kernel
theorem dX8_ranked_9 : decode cX8_ranked 9 = .ok (.if_icmp .ge 68, 3) := by decide +kernel
theorem dX8_ranked_12 : decode cX8_ranked 12 = .ok (.iconst 0, 1) := by decide +kernel
theorem dX8_ranked_13 : decode cX8_ranked 13 = .ok (.istore 4, 2) := by decide +kernel
theorem dX8_ranked_15 : decode cX8_ranked 15 = .ok (.iconst 0, 1) := by decide +kernel
theorem dX8_ranked_16 : decode cX8_ranked 16 = .ok (.istore 5, 2) := by decide +kernel
theorem dX8_ranked_18 : decode cX8_ranked 18 = .ok (.iload 5, 2) := by decide +kernel
theorem dX8_ranked_20 : decode cX8_ranked 20 = .ok (.aload_n 0, 1) := by decide +kernel
theorem dX8_ranked_21 : decode cX8_ranked 21 = .ok (.getfield 82, 3) := by decide +kernel
theorem dX8_ranked_24 : decode cX8_ranked 24 = .ok (.if_icmp .ge 35, 3) := by decide +kernel
theorem dX8_ranked_27 : decode cX8_ranked 27 = .ok (.iload 4, 2) := by decide +kernel
theorem dX8_ranked_29 : decode cX8_ranked 29 = .ok (.iload 5, 2) := by decide +kernel
theorem dX8_ranked_31 : decode cX8_ranked 31 = .ok (.iload_n 3, 1) := by decide +kernel
theorem dX8_ranked_32 : decode cX8_ranked 32 = .ok (.if_icmp .eq 17, 3) := by decide +kernel
theorem dX8_ranked_35 : decode cX8_ranked 35 = .ok (.aload_n 0, 1) := by decide +kernel
theorem dX8_ranked_36 : decode cX8_ranked 36 = .ok (.iload 5, 2) := by decide +kernel
theorem dX8_ranked_38 : decode cX8_ranked 38 = .ok (.iload_n 3, 1) := by decide +kernel
theorem dX8_ranked_39 : decode cX8_ranked 39 = .ok (.invokevirtual 194, 3) := by decide +kernel
theorem dX8_ranked_42 : decode cX8_ranked 42 = .ok (.ifCond .eq 7, 3) := by decide +kernel
theorem dX8_ranked_45 : decode cX8_ranked 45 = .ok (.iconst 1, 1) := by decide +kernel
theorem dX8_ranked_46 : decode cX8_ranked 46 = .ok (.goto 4, 3) := by decide +kernel
theorem dX8_ranked_49 : decode cX8_ranked 49 = .ok (.iconst 0, 1) := by decide +kernel
theorem dX8_ranked_50 : decode cX8_ranked 50 = .ok (.iadd, 1) := by decide +kernel
theorem dX8_ranked_51 : decode cX8_ranked 51 = .ok (.istore 4, 2) := by decide +kernel
theorem dX8_ranked_53 : decode cX8_ranked 53 = .ok (.iinc 5 1, 3) := by decide +kernel
theorem dX8_ranked_56 : decode cX8_ranked 56 = .ok (.goto (-38), 3) := by decide +kernel
theorem dX8_ranked_59 : decode cX8_ranked 59 = .ok (.iload 4, 2) := by decide +kernel
theorem dX8_ranked_61 : decode cX8_ranked 61 = .ok (.iload_n 1, 1) := by decide +kernel
theorem dX8_ranked_62 : decode cX8_ranked 62 = .ok (.if_icmp .ne 7, 3) := by decide +kernel
theorem dX8_ranked_65 : decode cX8_ranked 65 = .ok (.iload_n 3, 1) := by decide +kernel
theorem dX8_ranked_66 : decode cX8_ranked 66 = .ok (.goto 4, 3) := by decide +kernel
theorem dX8_ranked_69 : decode cX8_ranked 69 = .ok (.iload_n 2, 1) := by decide +kernel
theorem dX8_ranked_70 : decode cX8_ranked 70 = .ok (.istore_n 2, 1) := by decide +kernel
theorem dX8_ranked_71 : decode cX8_ranked 71 = .ok (.iinc 3 1, 3) := by decide +kernel
theorem dX8_ranked_74 : decode cX8_ranked 74 = .ok (.goto (-70), 3) := by decide +kernel
theorem dX8_ranked_77 : decode cX8_ranked 77 = .ok (.iload_n 2, 1) := by decide +kernel
theorem dX8_ranked_78 : decode cX8_ranked 78 = .ok (.ireturn, 1) := by decide +kernel
theorem dX8_rankedAt_0 : decode cX8_rankedAt 0 = .ok (.aload_n 0, 1) := by decide +kernel
theorem dX8_rankedAt_1 : decode cX8_rankedAt 1 = .ok (.iload_n 1, 1) := by decide +kernel
theorem dX8_rankedAt_2 : decode cX8_rankedAt 2 = .ok (.iconst 0, 1) := by decide +kernel
theorem dX8_rankedAt_3 : decode cX8_rankedAt 3 = .ok (.aload_n 0, 1) := by decide +kernel
theorem dX8_rankedAt_4 : decode cX8_rankedAt 4 = .ok (.getfield 82, 3) := by decide +kernel
theorem dX8_rankedAt_7 : decode cX8_rankedAt 7 = .ok (.iconst 1, 1) := by decide +kernel
theorem dX8_rankedAt_8 : decode cX8_rankedAt 8 = .ok (.isub, 1) := by decide +kernel
theorem dX8_rankedAt_9 : decode cX8_rankedAt 9 = .ok (.invokestatic 85, 3) := by decide +kernel
theorem dX8_rankedAt_12 : decode cX8_rankedAt 12 = .ok (.iconst 1, 1) := by decide +kernel
theorem dX8_rankedAt_13 : decode cX8_rankedAt 13 = .ok (.iconst 1, 1) := by decide +kernel
theorem dX8_rankedAt_14 : decode cX8_rankedAt 14 = .ok (.invokevirtual 101, 3) := by decide +kernel
theorem dX8_rankedAt_17 : decode cX8_rankedAt 17 = .ok (.ifCond .ne 5, 3) := by decide +kernel
theorem dX8_rankedAt_20 : decode cX8_rankedAt 20 = .ok (.iconst 0, 1) := by decide +kernel
theorem dX8_rankedAt_21 : decode cX8_rankedAt 21 = .ok (.ireturn, 1) := by decide +kernel
theorem dX8_rankedAt_22 : decode cX8_rankedAt 22 = .ok (.aload_n 0, 1) := by decide +kernel
theorem dX8_rankedAt_23 : decode cX8_rankedAt 23 = .ok (.invokevirtual 191, 3) := by decide +kernel
theorem dX8_rankedAt_26 : decode cX8_rankedAt 26 = .ok (.aload_n 0, 1) := by decide +kernel
theorem dX8_rankedAt_27 : decode cX8_rankedAt 27 = .ok (.iload_n 1, 1) := by decide +kernel
theorem dX8_rankedAt_28 : decode cX8_rankedAt 28 = .ok (.invokevirtual 197, 3) := by decide +kernel
theorem dX8_rankedAt_31 : decode cX8_rankedAt 31 = .ok (.ireturn, 1) := by decide +kernel
theorem dX8_areDecided_0 : decode cX8_areDecided 0 = .ok (.iconst 1, 1) := by decide +kernel
theorem dX8_areDecided_1 : decode cX8_areDecided 1 = .ok (.istore_n 1, 1) := by decide +kernel
theorem dX8_areDecided_2 : decode cX8_areDecided 2 = .ok (.iconst 0, 1) := by decide +kernel
theorem dX8_areDecided_3 : decode cX8_areDecided 3 = .ok (.istore_n 2, 1) := by decide +kernel
theorem dX8_areDecided_4 : decode cX8_areDecided 4 = .ok (.iload_n 2, 1) := by decide +kernel
theorem dX8_areDecided_5 : decode cX8_areDecided 5 = .ok (.aload_n 0, 1) := by decide +kernel
theorem dX8_areDecided_6 : decode cX8_areDecided 6 = .ok (.getfield 92, 3) := by decide +kernel
theorem dX8_areDecided_9 : decode cX8_areDecided 9 = .ok (.if_icmp .ge 32, 3) := by decide +kernel
theorem dX8_areDecided_12 : decode cX8_areDecided 12 = .ok (.aload_n 0, 1) := by decide +kernel
theorem dX8_areDecided_13 : decode cX8_areDecided 13 = .ok (.iload_n 2, 1) := by decide +kernel
theorem dX8_areDecided_14 : decode cX8_areDecided 14 = .ok (.invokevirtual 145, 3) := by decide +kernel
theorem dX8_areDecided_17 : decode cX8_areDecided 17 = .ok (.iload_n 1, 1) := by decide +kernel
theorem dX8_areDecided_18 : decode cX8_areDecided 18 = .ok (.ifCond .eq 15, 3) := by decide +kernel
theorem dX8_areDecided_21 : decode cX8_areDecided 21 = .ok (.aload_n 0, 1) := by decide +kernel
theorem dX8_areDecided_22 : decode cX8_areDecided 22 = .ok (.getfield 135, 3) := by decide +kernel
theorem dX8_areDecided_25 : decode cX8_areDecided 25 = .ok (.iconst (-1), 1) := by decide +kernel
theorem dX8_areDecided_26 : decode cX8_areDecided 26 = .ok (.if_icmp .eq 7, 3) := by decide +kernel
theorem dX8_areDecided_29 : decode cX8_areDecided 29 = .ok (.iconst 1, 1) := by decide +kernel
theorem dX8_areDecided_30 : decode cX8_areDecided 30 = .ok (.goto 4, 3) := by decide +kernel
theorem dX8_areDecided_33 : decode cX8_areDecided 33 = .ok (.iconst 0, 1) := by decide +kernel
theorem dX8_areDecided_34 : decode cX8_areDecided 34 = .ok (.istore_n 1, 1) := by decide +kernel
theorem dX8_areDecided_35 : decode cX8_areDecided 35 = .ok (.iinc 2 1, 3) := by decide +kernel
theorem dX8_areDecided_38 : decode cX8_areDecided 38 = .ok (.goto (-34), 3) := by decide +kernel
theorem dX8_areDecided_41 : decode cX8_areDecided 41 = .ok (.iload_n 1, 1) := by decide +kernel
theorem dX8_areDecided_42 : decode cX8_areDecided 42 = .ok (.ireturn, 1) := by decide +kernel
theorem dX8_drawTableau_0 : decode cX8_drawTableau 0 = .ok (.aload_n 0, 1) := by decide +kernel
theorem dX8_drawTableau_1 : decode cX8_drawTableau 1 = .ok (.aload_n 0, 1) := by decide +kernel
theorem dX8_drawTableau_2 : decode cX8_drawTableau 2 = .ok (.getfield 98, 3) := by decide +kernel
theorem dX8_drawTableau_5 : decode cX8_drawTableau 5 = .ok (.ifCond .le 28, 3) := by decide +kernel
theorem dX8_drawTableau_8 : decode cX8_drawTableau 8 = .ok (.aload_n 0, 1) := by decide +kernel
theorem dX8_drawTableau_9 : decode cX8_drawTableau 9 = .ok (.getfield 95, 3) := by decide +kernel
theorem dX8_drawTableau_12 : decode cX8_drawTableau 12 = .ok (.ifCond .ne 21, 3) := by decide +kernel
theorem dX8_drawTableau_15 : decode cX8_drawTableau 15 = .ok (.aload_n 0, 1) := by decide +kernel
theorem dX8_drawTableau_16 : decode cX8_drawTableau 16 = .ok (.getfield 112, 3) := by decide +kernel
theorem dX8_drawTableau_19 : decode cX8_drawTableau 19 = .ok (.ifCond .ne 14, 3) := by decide +kernel
theorem dX8_drawTableau_22 : decode cX8_drawTableau 22 = .ok (.aload_n 0, 1) := by decide +kernel
theorem dX8_drawTableau_23 : decode cX8_drawTableau 23 = .ok (.invokevirtual 200, 3) := by decide +kernel
theorem dX8_drawTableau_26 : decode cX8_drawTableau 26 = .ok (.ifCond .eq 7, 3) := by decide +kernel
theorem dX8_drawTableau_29 : decode cX8_drawTableau 29 = .ok (.iconst 1, 1) := by decide +kernel
theorem dX8_drawTableau_30 : decode cX8_drawTableau 30 = .ok (.goto 4, 3) := by decide +kernel
theorem dX8_drawTableau_33 : decode cX8_drawTableau 33 = .ok (.iconst 0, 1) := by decide +kernel
theorem dX8_drawTableau_34 : decode cX8_drawTableau 34 = .ok (.iconst 1, 1) := by decide +kernel
theorem dX8_drawTableau_35 : decode cX8_drawTableau 35 = .ok (.iconst 1, 1) := by decide +kernel
theorem dX8_drawTableau_36 : decode cX8_drawTableau 36 = .ok (.invokevirtual 101, 3) := by decide +kernel
theorem dX8_drawTableau_39 : decode cX8_drawTableau 39 = .ok (.ifCond .ne 5, 3) := by decide +kernel
theorem dX8_drawTableau_42 : decode cX8_drawTableau 42 = .ok (.iconst 0, 1) := by decide +kernel
theorem dX8_drawTableau_43 : decode cX8_drawTableau 43 = .ok (.ireturn, 1) := by decide +kernel
theorem dX8_drawTableau_44 : decode cX8_drawTableau 44 = .ok (.iconst 2, 1) := by decide +kernel
theorem dX8_drawTableau_45 : decode cX8_drawTableau 45 = .ok (.istore_n 1, 1) := by decide +kernel
theorem dX8_drawTableau_46 : decode cX8_drawTableau 46 = .ok (.iload_n 1, 1) := by decide +kernel
theorem dX8_drawTableau_47 : decode cX8_drawTableau 47 = .ok (.aload_n 0, 1) := by decide +kernel
theorem dX8_drawTableau_48 : decode cX8_drawTableau 48 = .ok (.getfield 82, 3) := by decide +kernel
theorem dX8_drawTableau_51 : decode cX8_drawTableau 51 = .ok (.if_icmp .ge 10, 3) := by decide +kernel
theorem dX8_drawTableau_54 : decode cX8_drawTableau 54 = .ok (.iload_n 1, 1) := by decide +kernel
theorem dX8_drawTableau_55 : decode cX8_drawTableau 55 = .ok (.iconst 2, 1) := by decide +kernel
theorem dX8_drawTableau_56 : decode cX8_drawTableau 56 = .ok (.imul, 1) := by decide +kernel
theorem dX8_drawTableau_57 : decode cX8_drawTableau 57 = .ok (.istore_n 1, 1) := by decide +kernel
theorem dX8_drawTableau_58 : decode cX8_drawTableau 58 = .ok (.goto (-12), 3) := by decide +kernel
theorem dX8_drawTableau_61 : decode cX8_drawTableau 61 = .ok (.aload_n 0, 1) := by decide +kernel
theorem dX8_drawTableau_62 : decode cX8_drawTableau 62 = .ok (.getfield 60, 3) := by decide +kernel
theorem dX8_drawTableau_65 : decode cX8_drawTableau 65 = .ok (.iconst 0, 1) := by decide +kernel
theorem dX8_drawTableau_66 : decode cX8_drawTableau 66 = .ok (.iconst 1, 1) := by decide +kernel
theorem dX8_drawTableau_67 : decode cX8_drawTableau 67 = .ok (.iastore, 1) := by decide +kernel
theorem dX8_drawTableau_68 : decode cX8_drawTableau 68 = .ok (.iconst 1, 1) := by decide +kernel
theorem dX8_drawTableau_69 : decode cX8_drawTableau 69 = .ok (.istore_n 2, 1) := by decide +kernel
theorem dX8_drawTableau_70 : decode cX8_drawTableau 70 = .ok (.iload_n 2, 1) := by decide +kernel
theorem dX8_drawTableau_71 : decode cX8_drawTableau 71 = .ok (.iload_n 1, 1) := by decide +kernel
theorem dX8_drawTableau_72 : decode cX8_drawTableau 72 = .ok (.if_icmp .ge 62, 3) := by decide +kernel
theorem dX8_drawTableau_75 : decode cX8_drawTableau 75 = .ok (.iload_n 2, 1) := by decide +kernel
theorem dX8_drawTableau_76 : decode cX8_drawTableau 76 = .ok (.iconst 1, 1) := by decide +kernel
theorem dX8_drawTableau_77 : decode cX8_drawTableau 77 = .ok (.isub, 1) := by decide +kernel
theorem dX8_drawTableau_78 : decode cX8_drawTableau 78 = .ok (.istore_n 3, 1) := by decide +kernel
theorem dX8_drawTableau_79 : decode cX8_drawTableau 79 = .ok (.iload_n 3, 1) := by decide +kernel
theorem dX8_drawTableau_80 : decode cX8_drawTableau 80 = .ok (.ifCond .lt 47, 3) := by decide +kernel
theorem dX8_drawTableau_83 : decode cX8_drawTableau 83 = .ok (.aload_n 0, 1) := by decide +kernel
theorem dX8_drawTableau_84 : decode cX8_drawTableau 84 = .ok (.getfield 60, 3) := by decide +kernel
theorem dX8_drawTableau_87 : decode cX8_drawTableau 87 = .ok (.iconst 2, 1) := by decide +kernel
theorem dX8_drawTableau_88 : decode cX8_drawTableau 88 = .ok (.iload_n 3, 1) := by decide +kernel
theorem dX8_drawTableau_89 : decode cX8_drawTableau 89 = .ok (.imul, 1) := by decide +kernel
theorem dX8_drawTableau_90 : decode cX8_drawTableau 90 = .ok (.aload_n 0, 1) := by decide +kernel
theorem dX8_drawTableau_91 : decode cX8_drawTableau 91 = .ok (.getfield 60, 3) := by decide +kernel
theorem dX8_drawTableau_94 : decode cX8_drawTableau 94 = .ok (.iload_n 3, 1) := by decide +kernel
theorem dX8_drawTableau_95 : decode cX8_drawTableau 95 = .ok (.iaload, 1) := by decide +kernel
theorem dX8_drawTableau_96 : decode cX8_drawTableau 96 = .ok (.iastore, 1) := by decide +kernel
theorem dX8_drawTableau_97 : decode cX8_drawTableau 97 = .ok (.aload_n 0, 1) := by decide +kernel
theorem dX8_drawTableau_98 : decode cX8_drawTableau 98 = .ok (.getfield 60, 3) := by decide +kernel
theorem dX8_drawTableau_101 : decode cX8_drawTableau 101 = .ok (.iconst 2, 1) := by decide +kernel
theorem dX8_drawTableau_102 : decode cX8_drawTableau 102 = .ok (.iload_n 3, 1) := by decide +kernel
theorem dX8_drawTableau_103 : decode cX8_drawTableau 103 = .ok (.imul, 1) := by decide +kernel
theorem dX8_drawTableau_104 : decode cX8_drawTableau 104 = .ok (.iconst 1, 1) := by decide +kernel
theorem dX8_drawTableau_105 : decode cX8_drawTableau 105 = .ok (.iadd, 1) := by decide +kernel
theorem dX8_drawTableau_106 : decode cX8_drawTableau 106 = .ok (.iconst 2, 1) := by decide +kernel
theorem dX8_drawTableau_107 : decode cX8_drawTableau 107 = .ok (.iload_n 2, 1) := by decide +kernel
theorem dX8_drawTableau_108 : decode cX8_drawTableau 108 = .ok (.imul, 1) := by decide +kernel
theorem dX8_drawTableau_109 : decode cX8_drawTableau 109 = .ok (.iconst 1, 1) := by decide +kernel
theorem dX8_drawTableau_110 : decode cX8_drawTableau 110 = .ok (.iadd, 1) := by decide +kernel
theorem dX8_drawTableau_111 : decode cX8_drawTableau 111 = .ok (.aload_n 0, 1) := by decide +kernel
theorem dX8_drawTableau_112 : decode cX8_drawTableau 112 = .ok (.getfield 60, 3) := by decide +kernel
theorem dX8_drawTableau_115 : decode cX8_drawTableau 115 = .ok (.iconst 2, 1) := by decide +kernel
theorem dX8_drawTableau_116 : decode cX8_drawTableau 116 = .ok (.iload_n 3, 1) := by decide +kernel
theorem dX8_drawTableau_117 : decode cX8_drawTableau 117 = .ok (.imul, 1) := by decide +kernel
theorem dX8_drawTableau_118 : decode cX8_drawTableau 118 = .ok (.iaload, 1) := by decide +kernel
theorem dX8_drawTableau_119 : decode cX8_drawTableau 119 = .ok (.isub, 1) := by decide +kernel
theorem dX8_drawTableau_120 : decode cX8_drawTableau 120 = .ok (.iastore, 1) := by decide +kernel
theorem dX8_drawTableau_121 : decode cX8_drawTableau 121 = .ok (.iinc 3 (-1), 3) := by decide +kernel
theorem dX8_drawTableau_124 : decode cX8_drawTableau 124 = .ok (.goto (-45), 3) := by decide +kernel
theorem dX8_drawTableau_127 : decode cX8_drawTableau 127 = .ok (.iload_n 2, 1) := by decide +kernel
theorem dX8_drawTableau_128 : decode cX8_drawTableau 128 = .ok (.iconst 2, 1) := by decide +kernel
theorem dX8_drawTableau_129 : decode cX8_drawTableau 129 = .ok (.imul, 1) := by decide +kernel
theorem dX8_drawTableau_130 : decode cX8_drawTableau 130 = .ok (.istore_n 2, 1) := by decide +kernel
theorem dX8_drawTableau_131 : decode cX8_drawTableau 131 = .ok (.goto (-61), 3) := by decide +kernel
theorem dX8_drawTableau_134 : decode cX8_drawTableau 134 = .ok (.iconst 1, 1) := by decide +kernel
theorem dX8_drawTableau_135 : decode cX8_drawTableau 135 = .ok (.istore_n 3, 1) := by decide +kernel
theorem dX8_drawTableau_136 : decode cX8_drawTableau 136 = .ok (.iload_n 3, 1) := by decide +kernel
theorem dX8_drawTableau_137 : decode cX8_drawTableau 137 = .ok (.iload_n 1, 1) := by decide +kernel
theorem dX8_drawTableau_138 : decode cX8_drawTableau 138 = .ok (.if_icmp .ge 16, 3) := by decide +kernel
theorem dX8_drawTableau_141 : decode cX8_drawTableau 141 = .ok (.aload_n 0, 1) := by decide +kernel
theorem dX8_drawTableau_142 : decode cX8_drawTableau 142 = .ok (.getfield 54, 3) := by decide +kernel
theorem dX8_drawTableau_145 : decode cX8_drawTableau 145 = .ok (.iload_n 3, 1) := by decide +kernel
theorem dX8_drawTableau_146 : decode cX8_drawTableau 146 = .ok (.iconst (-1), 1) := by decide +kernel
theorem dX8_drawTableau_147 : decode cX8_drawTableau 147 = .ok (.iastore, 1) := by decide +kernel
theorem dX8_drawTableau_148 : decode cX8_drawTableau 148 = .ok (.iinc 3 1, 3) := by decide +kernel
theorem dX8_drawTableau_151 : decode cX8_drawTableau 151 = .ok (.goto (-15), 3) := by decide +kernel
theorem dX8_drawTableau_154 : decode cX8_drawTableau 154 = .ok (.aload_n 0, 1) := by decide +kernel
theorem dX8_drawTableau_155 : decode cX8_drawTableau 155 = .ok (.invokevirtual 191, 3) := by decide +kernel
theorem dX8_drawTableau_158 : decode cX8_drawTableau 158 = .ok (.iconst 0, 1) := by decide +kernel
theorem dX8_drawTableau_159 : decode cX8_drawTableau 159 = .ok (.istore_n 3, 1) := by decide +kernel
theorem dX8_drawTableau_160 : decode cX8_drawTableau 160 = .ok (.iload_n 3, 1) := by decide +kernel
theorem dX8_drawTableau_161 : decode cX8_drawTableau 161 = .ok (.iload_n 1, 1) := by decide +kernel
theorem dX8_drawTableau_162 : decode cX8_drawTableau 162 = .ok (.if_icmp .ge 47, 3) := by decide +kernel
theorem dX8_drawTableau_165 : decode cX8_drawTableau 165 = .ok (.aload_n 0, 1) := by decide +kernel
theorem dX8_drawTableau_166 : decode cX8_drawTableau 166 = .ok (.getfield 54, 3) := by decide +kernel
theorem dX8_drawTableau_169 : decode cX8_drawTableau 169 = .ok (.iload_n 1, 1) := by decide +kernel
theorem dX8_drawTableau_170 : decode cX8_drawTableau 170 = .ok (.iload_n 3, 1) := by decide +kernel
theorem dX8_drawTableau_171 : decode cX8_drawTableau 171 = .ok (.iadd, 1) := by decide +kernel
theorem dX8_drawTableau_172 : decode cX8_drawTableau 172 = .ok (.aload_n 0, 1) := by decide +kernel
theorem dX8_drawTableau_173 : decode cX8_drawTableau 173 = .ok (.getfield 60, 3) := by decide +kernel
theorem dX8_drawTableau_176 : decode cX8_drawTableau 176 = .ok (.iload_n 3, 1) := by decide +kernel
theorem dX8_drawTableau_177 : decode cX8_drawTableau 177 = .ok (.iaload, 1) := by decide +kernel
theorem dX8_drawTableau_178 : decode cX8_drawTableau 178 = .ok (.aload_n 0, 1) := by decide +kernel
theorem dX8_drawTableau_179 : decode cX8_drawTableau 179 = .ok (.getfield 82, 3) := by decide +kernel
theorem dX8_drawTableau_182 : decode cX8_drawTableau 182 = .ok (.if_icmp .le 8, 3) := by decide +kernel
theorem dX8_drawTableau_185 : decode cX8_drawTableau 185 = .ok (.bipush (-2), 2) := by decide +kernel
theorem dX8_drawTableau_187 : decode cX8_drawTableau 187 = .ok (.goto 15, 3) := by decide +kernel
theorem dX8_drawTableau_190 : decode cX8_drawTableau 190 = .ok (.aload_n 0, 1) := by decide +kernel
theorem dX8_drawTableau_191 : decode cX8_drawTableau 191 = .ok (.aload_n 0, 1) := by decide +kernel
theorem dX8_drawTableau_192 : decode cX8_drawTableau 192 = .ok (.getfield 60, 3) := by decide +kernel
theorem dX8_drawTableau_195 : decode cX8_drawTableau 195 = .ok (.iload_n 3, 1) := by decide +kernel
theorem dX8_drawTableau_196 : decode cX8_drawTableau 196 = .ok (.iaload, 1) := by decide +kernel
theorem dX8_drawTableau_197 : decode cX8_drawTableau 197 = .ok (.iconst 1, 1) := by decide +kernel
theorem dX8_drawTableau_198 : decode cX8_drawTableau 198 = .ok (.isub, 1) := by decide +kernel
theorem dX8_drawTableau_199 : decode cX8_drawTableau 199 = .ok (.invokevirtual 197, 3) := by decide +kernel
theorem dX8_drawTableau_202 : decode cX8_drawTableau 202 = .ok (.iastore, 1) := by decide +kernel
theorem dX8_drawTableau_203 : decode cX8_drawTableau 203 = .ok (.iinc 3 1, 3) := by decide +kernel
