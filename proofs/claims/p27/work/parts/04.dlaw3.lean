set_option maxRecDepth 20000 in
theorem ggL_refuses_X4_count : GoodIn wsL_refuses wsX4_count := goodIn_r _ [11, 12, 13, 14, 15, 16, 17, 18, 19, 20, 21, 22, 23, 24, 25, 26, 27, 28, 10, 29, 30, 31, 32, 33, 34, 35, 36, 37, 38, 39, 40, 41, 42, 43, 44, 45, 46, 47, 48, 49, 50, 51, 52, 318, 319, 320, 321, 322, 323, 324, 325, 326, 327, 328, 329, 330, 331, 332, 333, 334, 335, 336, 337, 338, 339, 340] (by decide +kernel) (by decide +kernel)
set_option maxRecDepth 20000 in
theorem gL_refuses_X4_count : GoodIn wsL_refuses (wsV RL 14 RX4 yX4_count wsX4_count) := goodIn_app (goodIn_of _ (by decide +kernel)) ggL_refuses_X4_count
theorem dL_refuses_0 : decode cL_refuses 0 = .ok (.aload_n 0, 1) := by decide +kernel
theorem dL_refuses_1 : decode cL_refuses 1 = .ok (.invokestatic 92, 3) := by decide +kernel
theorem dL_refuses_4 : decode cL_refuses 4 = .ok (.lstore_n 2, 1) := by decide +kernel
theorem dL_refuses_5 : decode cL_refuses 5 = .ok (.aload_n 0, 1) := by decide +kernel
theorem dL_refuses_6 : decode cL_refuses 6 = .ok (.bipush 15, 2) := by decide +kernel
theorem dL_refuses_8 : decode cL_refuses 8 = .ok (.invokevirtual 14, 3) := by decide +kernel
theorem dL_refuses_11 : decode cL_refuses 11 = .ok (.istore 4, 2) := by decide +kernel
theorem dL_refuses_13 : decode cL_refuses 13 = .ok (.aload_n 0, 1) := by decide +kernel
theorem dL_refuses_14 : decode cL_refuses 14 = .ok (.iload_n 1, 1) := by decide +kernel
theorem dL_refuses_15 : decode cL_refuses 15 = .ok (.invokestatic 96, 3) := by decide +kernel
theorem dL_refuses_18 : decode cL_refuses 18 = .ok (.ifCond .eq 27, 3) := by decide +kernel
theorem dL_refuses_21 : decode cL_refuses 21 = .ok (.aload_n 0, 1) := by decide +kernel
theorem dL_refuses_22 : decode cL_refuses 22 = .ok (.invokestatic 92, 3) := by decide +kernel
theorem dL_refuses_25 : decode cL_refuses 25 = .ok (.lload_n 2, 1) := by decide +kernel
theorem dL_refuses_26 : decode cL_refuses 26 = .ok (.lcmp, 1) := by decide +kernel
theorem dL_refuses_27 : decode cL_refuses 27 = .ok (.ifCond .ne 18, 3) := by decide +kernel
theorem dL_refuses_30 : decode cL_refuses 30 = .ok (.aload_n 0, 1) := by decide +kernel
theorem dL_refuses_31 : decode cL_refuses 31 = .ok (.bipush 15, 2) := by decide +kernel
theorem dL_refuses_33 : decode cL_refuses 33 = .ok (.invokevirtual 14, 3) := by decide +kernel
theorem dL_refuses_36 : decode cL_refuses 36 = .ok (.iload 4, 2) := by decide +kernel
theorem dL_refuses_38 : decode cL_refuses 38 = .ok (.if_icmp .ne 7, 3) := by decide +kernel
theorem dL_refuses_41 : decode cL_refuses 41 = .ok (.iconst 1, 1) := by decide +kernel
theorem dL_refuses_42 : decode cL_refuses 42 = .ok (.goto 4, 3) := by decide +kernel
theorem dL_refuses_45 : decode cL_refuses 45 = .ok (.iconst 0, 1) := by decide +kernel
theorem dL_refuses_46 : decode cL_refuses 46 = .ok (.ireturn, 1) := by decide +kernel
set_option maxRecDepth 20000 in
theorem ggL_passes_X4_count : GoodIn wsL_passes wsX4_count := goodIn_r _ [5, 6, 7, 8, 9, 10, 11, 12, 13, 14, 15, 16, 17, 18, 19, 20, 21, 22, 4, 23, 24, 25, 26, 27, 28, 29, 30, 31, 32, 33, 34, 35, 36, 37, 38, 39, 40, 41, 42, 43, 44, 45, 46, 143, 144, 145, 146, 147, 148, 149, 150, 151, 152, 153, 154, 155, 156, 157, 158, 159, 160, 161, 162, 163, 164, 165] (by decide +kernel) (by decide +kernel)
set_option maxRecDepth 20000 in
theorem gL_passes_X4_count : GoodIn wsL_passes (wsV RL 14 RX4 yX4_count wsX4_count) := goodIn_app (goodIn_of _ (by decide +kernel)) ggL_passes_X4_count
set_option maxRecDepth 20000 in
theorem ggL_passes_X4_pass : GoodIn wsL_passes wsX4_pass := goodIn_r _ [50, 6, 8, 19, 9, 51, 52, 53, 54, 55, 56, 57, 58, 59, 60, 61, 62, 63, 64, 27, 65, 66, 67, 68, 69, 70, 71, 72, 73, 37, 74, 75, 76, 77, 78, 79, 80, 4, 81, 82, 83, 84, 85, 86, 87, 88, 89, 90, 91, 92, 93, 94, 95, 96, 97, 98, 99, 100, 101, 102, 103, 104, 105, 106, 107, 108, 109, 110, 111, 112, 113, 114, 115, 38, 39, 116, 117, 118, 119, 21, 22, 23, 143, 144, 145, 146, 147, 148, 149, 150, 151, 152, 153, 154, 155, 156, 157, 158, 159, 160, 161, 164, 165] (by decide +kernel) (by decide +kernel)
set_option maxRecDepth 20000 in
theorem gL_passes_X4_pass : GoodIn wsL_passes (wsV RL 69 RX4 yX4_pass wsX4_pass) := goodIn_app (goodIn_of _ (by decide +kernel)) ggL_passes_X4_pass
set_option maxRecDepth 20000 in
theorem ggL_passes_L_size : GoodIn wsL_passes wsL_size := goodIn_r _ [123] (by decide +kernel) (by decide +kernel)
set_option maxRecDepth 20000 in
theorem gL_passes_L_size : GoodIn wsL_passes (va_wsS RL 30 yL_size wsL_size) := goodIn_app (goodIn_of _ (by decide +kernel)) ggL_passes_L_size
set_option maxRecDepth 20000 in
theorem ggL_passes_X4_puddle : GoodIn wsL_passes wsX4_puddle := goodIn_r _ [127, 6, 128, 9, 129, 130, 131, 4, 132, 133, 105, 106, 27, 107, 68, 134, 95, 96, 97, 74, 98, 99, 135, 136, 137, 138, 75, 139, 140, 141, 142, 33, 34, 35, 36, 37, 38, 39, 143, 144, 145, 146, 147, 148, 149, 150, 151, 152, 153, 154, 155, 156, 157, 158, 159, 160, 161] (by decide +kernel) (by decide +kernel)
set_option maxRecDepth 20000 in
theorem gL_passes_X4_puddle : GoodIn wsL_passes (wsV RL 24 RX4 yX4_puddle wsX4_puddle) := goodIn_app (goodIn_of _ (by decide +kernel)) ggL_passes_X4_puddle
theorem dL_passes_0 : decode cL_passes 0 = .ok (.aload_n 0, 1) := by decide +kernel
theorem dL_passes_1 : decode cL_passes 1 = .ok (.iconst 5, 1) := by decide +kernel
theorem dL_passes_2 : decode cL_passes 2 = .ok (.invokevirtual 14, 3) := by decide +kernel
theorem dL_passes_5 : decode cL_passes 5 = .ok (.istore_n 2, 1) := by decide +kernel
theorem dL_passes_6 : decode cL_passes 6 = .ok (.aload_n 0, 1) := by decide +kernel
theorem dL_passes_7 : decode cL_passes 7 = .ok (.bipush 6, 2) := by decide +kernel
theorem dL_passes_9 : decode cL_passes 9 = .ok (.invokevirtual 14, 3) := by decide +kernel
theorem dL_passes_12 : decode cL_passes 12 = .ok (.istore_n 3, 1) := by decide +kernel
theorem dL_passes_13 : decode cL_passes 13 = .ok (.aload_n 0, 1) := by decide +kernel
theorem dL_passes_14 : decode cL_passes 14 = .ok (.bipush 7, 2) := by decide +kernel
theorem dL_passes_16 : decode cL_passes 16 = .ok (.invokevirtual 14, 3) := by decide +kernel
theorem dL_passes_19 : decode cL_passes 19 = .ok (.istore 4, 2) := by decide +kernel
theorem dL_passes_21 : decode cL_passes 21 = .ok (.aload_n 0, 1) := by decide +kernel
theorem dL_passes_22 : decode cL_passes 22 = .ok (.bipush 9, 2) := by decide +kernel
theorem dL_passes_24 : decode cL_passes 24 = .ok (.invokevirtual 14, 3) := by decide +kernel
theorem dL_passes_27 : decode cL_passes 27 = .ok (.istore 5, 2) := by decide +kernel
theorem dL_passes_29 : decode cL_passes 29 = .ok (.aload_n 0, 1) := by decide +kernel
theorem dL_passes_30 : decode cL_passes 30 = .ok (.bipush 10, 2) := by decide +kernel
theorem dL_passes_32 : decode cL_passes 32 = .ok (.invokevirtual 14, 3) := by decide +kernel
theorem dL_passes_35 : decode cL_passes 35 = .ok (.istore 6, 2) := by decide +kernel
theorem dL_passes_37 : decode cL_passes 37 = .ok (.aload_n 0, 1) := by decide +kernel
theorem dL_passes_38 : decode cL_passes 38 = .ok (.bipush 11, 2) := by decide +kernel
theorem dL_passes_40 : decode cL_passes 40 = .ok (.invokevirtual 14, 3) := by decide +kernel
theorem dL_passes_43 : decode cL_passes 43 = .ok (.istore 7, 2) := by decide +kernel
theorem dL_passes_45 : decode cL_passes 45 = .ok (.aload_n 0, 1) := by decide +kernel
theorem dL_passes_46 : decode cL_passes 46 = .ok (.iconst 4, 1) := by decide +kernel
theorem dL_passes_47 : decode cL_passes 47 = .ok (.invokevirtual 14, 3) := by decide +kernel
theorem dL_passes_50 : decode cL_passes 50 = .ok (.istore 8, 2) := by decide +kernel
theorem dL_passes_52 : decode cL_passes 52 = .ok (.aload_n 0, 1) := by decide +kernel
theorem dL_passes_53 : decode cL_passes 53 = .ok (.iload_n 1, 1) := by decide +kernel
theorem dL_passes_54 : decode cL_passes 54 = .ok (.invokevirtual 69, 3) := by decide +kernel
theorem dL_passes_57 : decode cL_passes 57 = .ok (.istore 9, 2) := by decide +kernel
theorem dL_passes_59 : decode cL_passes 59 = .ok (.iload 9, 2) := by decide +kernel
theorem dL_passes_61 : decode cL_passes 61 = .ok (.aload_n 0, 1) := by decide +kernel
theorem dL_passes_62 : decode cL_passes 62 = .ok (.iconst 5, 1) := by decide +kernel
theorem dL_passes_63 : decode cL_passes 63 = .ok (.invokevirtual 14, 3) := by decide +kernel
theorem dL_passes_66 : decode cL_passes 66 = .ok (.if_icmp .ne 57, 3) := by decide +kernel
theorem dL_passes_69 : decode cL_passes 69 = .ok (.aload_n 0, 1) := by decide +kernel
theorem dL_passes_70 : decode cL_passes 70 = .ok (.iconst 4, 1) := by decide +kernel
theorem dL_passes_71 : decode cL_passes 71 = .ok (.invokevirtual 14, 3) := by decide +kernel
theorem dL_passes_74 : decode cL_passes 74 = .ok (.iload 8, 2) := by decide +kernel
theorem dL_passes_76 : decode cL_passes 76 = .ok (.iload_n 1, 1) := by decide +kernel
theorem dL_passes_77 : decode cL_passes 77 = .ok (.bipush 11, 2) := by decide +kernel
theorem dL_passes_79 : decode cL_passes 79 = .ok (.if_icmp .ne 7, 3) := by decide +kernel
theorem dL_passes_82 : decode cL_passes 82 = .ok (.iconst 1, 1) := by decide +kernel
theorem dL_passes_83 : decode cL_passes 83 = .ok (.goto 4, 3) := by decide +kernel
theorem dL_passes_86 : decode cL_passes 86 = .ok (.iconst 0, 1) := by decide +kernel
theorem dL_passes_87 : decode cL_passes 87 = .ok (.iadd, 1) := by decide +kernel
theorem dL_passes_88 : decode cL_passes 88 = .ok (.if_icmp .ne 35, 3) := by decide +kernel
theorem dL_passes_91 : decode cL_passes 91 = .ok (.iload_n 1, 1) := by decide +kernel
theorem dL_passes_92 : decode cL_passes 92 = .ok (.bipush 11, 2) := by decide +kernel
theorem dL_passes_94 : decode cL_passes 94 = .ok (.if_icmp .eq 25, 3) := by decide +kernel
theorem dL_passes_97 : decode cL_passes 97 = .ok (.aload_n 0, 1) := by decide +kernel
theorem dL_passes_98 : decode cL_passes 98 = .ok (.bipush 10, 2) := by decide +kernel
theorem dL_passes_100 : decode cL_passes 100 = .ok (.invokevirtual 14, 3) := by decide +kernel
theorem dL_passes_103 : decode cL_passes 103 = .ok (.iload 6, 2) := by decide +kernel
theorem dL_passes_105 : decode cL_passes 105 = .ok (.if_icmp .ne 18, 3) := by decide +kernel
theorem dL_passes_108 : decode cL_passes 108 = .ok (.aload_n 0, 1) := by decide +kernel
theorem dL_passes_109 : decode cL_passes 109 = .ok (.bipush 11, 2) := by decide +kernel
theorem dL_passes_111 : decode cL_passes 111 = .ok (.invokevirtual 14, 3) := by decide +kernel
theorem dL_passes_114 : decode cL_passes 114 = .ok (.iload 7, 2) := by decide +kernel
theorem dL_passes_116 : decode cL_passes 116 = .ok (.if_icmp .ne 7, 3) := by decide +kernel
theorem dL_passes_119 : decode cL_passes 119 = .ok (.iconst 1, 1) := by decide +kernel
theorem dL_passes_120 : decode cL_passes 120 = .ok (.goto 4, 3) := by decide +kernel
theorem dL_passes_123 : decode cL_passes 123 = .ok (.iconst 0, 1) := by decide +kernel
theorem dL_passes_124 : decode cL_passes 124 = .ok (.istore 10, 2) := by decide +kernel
theorem dL_passes_126 : decode cL_passes 126 = .ok (.iload_n 1, 1) := by decide +kernel
theorem dL_passes_127 : decode cL_passes 127 = .ok (.ifCond .ne 69, 3) := by decide +kernel
theorem dL_passes_130 : decode cL_passes 130 = .ok (.iload 10, 2) := by decide +kernel
theorem dL_passes_132 : decode cL_passes 132 = .ok (.ifCond .eq 62, 3) := by decide +kernel
theorem dL_passes_135 : decode cL_passes 135 = .ok (.aload_n 0, 1) := by decide +kernel
theorem dL_passes_136 : decode cL_passes 136 = .ok (.bipush 9, 2) := by decide +kernel
theorem dL_passes_138 : decode cL_passes 138 = .ok (.invokevirtual 14, 3) := by decide +kernel
theorem dL_passes_141 : decode cL_passes 141 = .ok (.ifCond .ne 53, 3) := by decide +kernel
theorem dL_passes_144 : decode cL_passes 144 = .ok (.aload_n 0, 1) := by decide +kernel
theorem dL_passes_145 : decode cL_passes 145 = .ok (.bipush 6, 2) := by decide +kernel
theorem dL_passes_147 : decode cL_passes 147 = .ok (.invokevirtual 14, 3) := by decide +kernel
theorem dL_passes_150 : decode cL_passes 150 = .ok (.iload_n 3, 1) := by decide +kernel
theorem dL_passes_151 : decode cL_passes 151 = .ok (.if_icmp .ne 43, 3) := by decide +kernel
theorem dL_passes_154 : decode cL_passes 154 = .ok (.iload_n 2, 1) := by decide +kernel
theorem dL_passes_155 : decode cL_passes 155 = .ok (.iload 9, 2) := by decide +kernel
theorem dL_passes_157 : decode cL_passes 157 = .ok (.isub, 1) := by decide +kernel
theorem dL_passes_158 : decode cL_passes 158 = .ok (.aload_n 0, 1) := by decide +kernel
theorem dL_passes_159 : decode cL_passes 159 = .ok (.bipush 7, 2) := by decide +kernel
theorem dL_passes_161 : decode cL_passes 161 = .ok (.invokevirtual 14, 3) := by decide +kernel
theorem dL_passes_164 : decode cL_passes 164 = .ok (.iload 4, 2) := by decide +kernel
theorem dL_passes_166 : decode cL_passes 166 = .ok (.isub, 1) := by decide +kernel
theorem dL_passes_167 : decode cL_passes 167 = .ok (.if_icmp .ne 27, 3) := by decide +kernel
theorem dL_passes_170 : decode cL_passes 170 = .ok (.aload_n 0, 1) := by decide +kernel
theorem dL_passes_171 : decode cL_passes 171 = .ok (.bipush 7, 2) := by decide +kernel
theorem dL_passes_173 : decode cL_passes 173 = .ok (.invokevirtual 14, 3) := by decide +kernel
theorem dL_passes_176 : decode cL_passes 176 = .ok (.iload 4, 2) := by decide +kernel
theorem dL_passes_178 : decode cL_passes 178 = .ok (.isub, 1) := by decide +kernel
theorem dL_passes_179 : decode cL_passes 179 = .ok (.bipush 12, 2) := by decide +kernel
theorem dL_passes_181 : decode cL_passes 181 = .ok (.aload_n 0, 1) := by decide +kernel
theorem dL_passes_182 : decode cL_passes 182 = .ok (.iconst 1, 1) := by decide +kernel
theorem dL_passes_183 : decode cL_passes 183 = .ok (.invokevirtual 14, 3) := by decide +kernel
theorem dL_passes_186 : decode cL_passes 186 = .ok (.imul, 1) := by decide +kernel
theorem dL_passes_187 : decode cL_passes 187 = .ok (.if_icmp .gt 7, 3) := by decide +kernel
theorem dL_passes_190 : decode cL_passes 190 = .ok (.iconst 1, 1) := by decide +kernel
theorem dL_passes_191 : decode cL_passes 191 = .ok (.goto 4, 3) := by decide +kernel
theorem dL_passes_194 : decode cL_passes 194 = .ok (.iconst 0, 1) := by decide +kernel
theorem dL_passes_195 : decode cL_passes 195 = .ok (.ireturn, 1) := by decide +kernel
theorem dL_passes_196 : decode cL_passes 196 = .ok (.iload_n 1, 1) := by decide +kernel
theorem dL_passes_197 : decode cL_passes 197 = .ok (.bipush 10, 2) := by decide +kernel
theorem dL_passes_199 : decode cL_passes 199 = .ok (.if_icmp .ge 63, 3) := by decide +kernel
theorem dL_passes_202 : decode cL_passes 202 = .ok (.iload 10, 2) := by decide +kernel
theorem dL_passes_204 : decode cL_passes 204 = .ok (.ifCond .eq 56, 3) := by decide +kernel
theorem dL_passes_207 : decode cL_passes 207 = .ok (.aload_n 0, 1) := by decide +kernel
theorem dL_passes_208 : decode cL_passes 208 = .ok (.bipush 9, 2) := by decide +kernel
theorem dL_passes_210 : decode cL_passes 210 = .ok (.invokevirtual 14, 3) := by decide +kernel
theorem dL_passes_213 : decode cL_passes 213 = .ok (.iload 5, 2) := by decide +kernel
theorem dL_passes_215 : decode cL_passes 215 = .ok (.if_icmp .ne 45, 3) := by decide +kernel
theorem dL_passes_218 : decode cL_passes 218 = .ok (.aload_n 0, 1) := by decide +kernel
theorem dL_passes_219 : decode cL_passes 219 = .ok (.bipush 6, 2) := by decide +kernel
theorem dL_passes_221 : decode cL_passes 221 = .ok (.invokevirtual 14, 3) := by decide +kernel
theorem dL_passes_224 : decode cL_passes 224 = .ok (.iload_n 3, 1) := by decide +kernel
theorem dL_passes_225 : decode cL_passes 225 = .ok (.iload_n 1, 1) := by decide +kernel
theorem dL_passes_226 : decode cL_passes 226 = .ok (.bipush 12, 2) := by decide +kernel
theorem dL_passes_228 : decode cL_passes 228 = .ok (.iload 5, 2) := by decide +kernel
theorem dL_passes_230 : decode cL_passes 230 = .ok (.invokestatic 30, 3) := by decide +kernel
theorem dL_passes_233 : decode cL_passes 233 = .ok (.isub, 1) := by decide +kernel
theorem dL_passes_234 : decode cL_passes 234 = .ok (.imul, 1) := by decide +kernel
theorem dL_passes_235 : decode cL_passes 235 = .ok (.iadd, 1) := by decide +kernel
theorem dL_passes_236 : decode cL_passes 236 = .ok (.if_icmp .ne 24, 3) := by decide +kernel
theorem dL_passes_239 : decode cL_passes 239 = .ok (.aload_n 0, 1) := by decide +kernel
theorem dL_passes_240 : decode cL_passes 240 = .ok (.bipush 7, 2) := by decide +kernel
theorem dL_passes_242 : decode cL_passes 242 = .ok (.invokevirtual 14, 3) := by decide +kernel
theorem dL_passes_245 : decode cL_passes 245 = .ok (.iload 4, 2) := by decide +kernel
theorem dL_passes_247 : decode cL_passes 247 = .ok (.if_icmp .ne 13, 3) := by decide +kernel
theorem dL_passes_250 : decode cL_passes 250 = .ok (.iload 9, 2) := by decide +kernel
theorem dL_passes_252 : decode cL_passes 252 = .ok (.iload_n 2, 1) := by decide +kernel
theorem dL_passes_253 : decode cL_passes 253 = .ok (.if_icmp .lt 7, 3) := by decide +kernel
theorem dL_passes_256 : decode cL_passes 256 = .ok (.iconst 1, 1) := by decide +kernel
theorem dL_passes_257 : decode cL_passes 257 = .ok (.goto 4, 3) := by decide +kernel
theorem dL_passes_260 : decode cL_passes 260 = .ok (.iconst 0, 1) := by decide +kernel
theorem dL_passes_261 : decode cL_passes 261 = .ok (.ireturn, 1) := by decide +kernel
theorem dL_passes_262 : decode cL_passes 262 = .ok (.iconst 0, 1) := by decide +kernel
theorem dL_passes_263 : decode cL_passes 263 = .ok (.istore 11, 2) := by decide +kernel
theorem dL_passes_265 : decode cL_passes 265 = .ok (.iload 11, 2) := by decide +kernel
theorem dL_passes_267 : decode cL_passes 267 = .ok (.bipush 12, 2) := by decide +kernel
theorem dL_passes_269 : decode cL_passes 269 = .ok (.if_icmp .ge 132, 3) := by decide +kernel
theorem dL_passes_272 : decode cL_passes 272 = .ok (.iload 10, 2) := by decide +kernel
theorem dL_passes_274 : decode cL_passes 274 = .ok (.ifCond .eq 127, 3) := by decide +kernel
theorem dL_passes_277 : decode cL_passes 277 = .ok (.aload_n 0, 1) := by decide +kernel
theorem dL_passes_278 : decode cL_passes 278 = .ok (.iload 11, 2) := by decide +kernel
theorem dL_passes_280 : decode cL_passes 280 = .ok (.iconst 1, 1) := by decide +kernel
theorem dL_passes_281 : decode cL_passes 281 = .ok (.invokevirtual 24, 3) := by decide +kernel
theorem dL_passes_284 : decode cL_passes 284 = .ok (.bipush 19, 2) := by decide +kernel
theorem dL_passes_286 : decode cL_passes 286 = .ok (.if_icmp .le 7, 3) := by decide +kernel
theorem dL_passes_289 : decode cL_passes 289 = .ok (.iconst 1, 1) := by decide +kernel
theorem dL_passes_290 : decode cL_passes 290 = .ok (.goto 4, 3) := by decide +kernel
theorem dL_passes_293 : decode cL_passes 293 = .ok (.iconst 0, 1) := by decide +kernel
theorem dL_passes_294 : decode cL_passes 294 = .ok (.istore 12, 2) := by decide +kernel
theorem dL_passes_296 : decode cL_passes 296 = .ok (.aload_n 0, 1) := by decide +kernel
theorem dL_passes_297 : decode cL_passes 297 = .ok (.iload 11, 2) := by decide +kernel
theorem dL_passes_299 : decode cL_passes 299 = .ok (.iconst 1, 1) := by decide +kernel
theorem dL_passes_300 : decode cL_passes 300 = .ok (.invokevirtual 24, 3) := by decide +kernel
theorem dL_passes_303 : decode cL_passes 303 = .ok (.aload_n 0, 1) := by decide +kernel
theorem dL_passes_304 : decode cL_passes 304 = .ok (.iconst 2, 1) := by decide +kernel
theorem dL_passes_305 : decode cL_passes 305 = .ok (.invokevirtual 14, 3) := by decide +kernel
theorem dL_passes_308 : decode cL_passes 308 = .ok (.if_icmp .lt 17, 3) := by decide +kernel
theorem dL_passes_311 : decode cL_passes 311 = .ok (.aload_n 0, 1) := by decide +kernel
theorem dL_passes_312 : decode cL_passes 312 = .ok (.iload 11, 2) := by decide +kernel
theorem dL_passes_314 : decode cL_passes 314 = .ok (.iconst 3, 1) := by decide +kernel
theorem dL_passes_315 : decode cL_passes 315 = .ok (.invokevirtual 24, 3) := by decide +kernel
theorem dL_passes_318 : decode cL_passes 318 = .ok (.ifCond .ne 7, 3) := by decide +kernel
theorem dL_passes_321 : decode cL_passes 321 = .ok (.iconst 1, 1) := by decide +kernel
theorem dL_passes_322 : decode cL_passes 322 = .ok (.goto 4, 3) := by decide +kernel
theorem dL_passes_325 : decode cL_passes 325 = .ok (.iconst 0, 1) := by decide +kernel
theorem dL_passes_326 : decode cL_passes 326 = .ok (.istore 13, 2) := by decide +kernel
theorem dL_passes_328 : decode cL_passes 328 = .ok (.iload_n 1, 1) := by decide +kernel
theorem dL_passes_329 : decode cL_passes 329 = .ok (.bipush 10, 2) := by decide +kernel
theorem dL_passes_331 : decode cL_passes 331 = .ok (.if_icmp .ne 37, 3) := by decide +kernel
theorem dL_passes_334 : decode cL_passes 334 = .ok (.aload_n 0, 1) := by decide +kernel
theorem dL_passes_335 : decode cL_passes 335 = .ok (.iload 11, 2) := by decide +kernel
theorem dL_passes_337 : decode cL_passes 337 = .ok (.iconst 3, 1) := by decide +kernel
theorem dL_passes_338 : decode cL_passes 338 = .ok (.invokevirtual 24, 3) := by decide +kernel
theorem dL_passes_341 : decode cL_passes 341 = .ok (.iload 12, 2) := by decide +kernel
theorem dL_passes_343 : decode cL_passes 343 = .ok (.ifCond .eq 13, 3) := by decide +kernel
theorem dL_passes_346 : decode cL_passes 346 = .ok (.iload 5, 2) := by decide +kernel
theorem dL_passes_348 : decode cL_passes 348 = .ok (.iload 11, 2) := by decide +kernel
theorem dL_passes_350 : decode cL_passes 350 = .ok (.ishr, 1) := by decide +kernel
theorem dL_passes_351 : decode cL_passes 351 = .ok (.iconst 1, 1) := by decide +kernel
theorem dL_passes_352 : decode cL_passes 352 = .ok (.iand, 1) := by decide +kernel
theorem dL_passes_353 : decode cL_passes 353 = .ok (.goto 4, 3) := by decide +kernel
theorem dL_passes_356 : decode cL_passes 356 = .ok (.iconst 1, 1) := by decide +kernel
theorem dL_passes_357 : decode cL_passes 357 = .ok (.if_icmp .ne 7, 3) := by decide +kernel
theorem dL_passes_360 : decode cL_passes 360 = .ok (.iconst 1, 1) := by decide +kernel
theorem dL_passes_361 : decode cL_passes 361 = .ok (.goto 32, 3) := by decide +kernel
theorem dL_passes_364 : decode cL_passes 364 = .ok (.iconst 0, 1) := by decide +kernel
theorem dL_passes_365 : decode cL_passes 365 = .ok (.goto 28, 3) := by decide +kernel
theorem dL_passes_368 : decode cL_passes 368 = .ok (.aload_n 0, 1) := by decide +kernel
theorem dL_passes_369 : decode cL_passes 369 = .ok (.iload 11, 2) := by decide +kernel
theorem dL_passes_371 : decode cL_passes 371 = .ok (.iconst 4, 1) := by decide +kernel
theorem dL_passes_372 : decode cL_passes 372 = .ok (.invokevirtual 24, 3) := by decide +kernel
theorem dL_passes_375 : decode cL_passes 375 = .ok (.iload 13, 2) := by decide +kernel
theorem dL_passes_377 : decode cL_passes 377 = .ok (.ifCond .eq 7, 3) := by decide +kernel
theorem dL_passes_380 : decode cL_passes 380 = .ok (.iconst 1, 1) := by decide +kernel
theorem dL_passes_381 : decode cL_passes 381 = .ok (.goto 4, 3) := by decide +kernel
theorem dL_passes_384 : decode cL_passes 384 = .ok (.iconst 0, 1) := by decide +kernel
theorem dL_passes_385 : decode cL_passes 385 = .ok (.if_icmp .ne 7, 3) := by decide +kernel
theorem dL_passes_388 : decode cL_passes 388 = .ok (.iconst 1, 1) := by decide +kernel
theorem dL_passes_389 : decode cL_passes 389 = .ok (.goto 4, 3) := by decide +kernel
theorem dL_passes_392 : decode cL_passes 392 = .ok (.iconst 0, 1) := by decide +kernel
theorem dL_passes_393 : decode cL_passes 393 = .ok (.istore 10, 2) := by decide +kernel
theorem dL_passes_395 : decode cL_passes 395 = .ok (.iinc 11 1, 3) := by decide +kernel
theorem dL_passes_398 : decode cL_passes 398 = .ok (.goto (-133), 3) := by decide +kernel
theorem dL_passes_401 : decode cL_passes 401 = .ok (.iload 10, 2) := by decide +kernel
theorem dL_passes_403 : decode cL_passes 403 = .ok (.ifCond .eq 51, 3) := by decide +kernel
theorem dL_passes_406 : decode cL_passes 406 = .ok (.iload 9, 2) := by decide +kernel
theorem dL_passes_408 : decode cL_passes 408 = .ok (.iload_n 2, 1) := by decide +kernel
theorem dL_passes_409 : decode cL_passes 409 = .ok (.if_icmp .ne 45, 3) := by decide +kernel
theorem dL_passes_412 : decode cL_passes 412 = .ok (.aload_n 0, 1) := by decide +kernel
theorem dL_passes_413 : decode cL_passes 413 = .ok (.bipush 6, 2) := by decide +kernel
theorem dL_passes_415 : decode cL_passes 415 = .ok (.invokevirtual 14, 3) := by decide +kernel
theorem dL_passes_418 : decode cL_passes 418 = .ok (.iload_n 3, 1) := by decide +kernel
theorem dL_passes_419 : decode cL_passes 419 = .ok (.if_icmp .ne 35, 3) := by decide +kernel
theorem dL_passes_422 : decode cL_passes 422 = .ok (.iload_n 1, 1) := by decide +kernel
theorem dL_passes_423 : decode cL_passes 423 = .ok (.bipush 10, 2) := by decide +kernel
theorem dL_passes_425 : decode cL_passes 425 = .ok (.if_icmp .eq 25, 3) := by decide +kernel
theorem dL_passes_428 : decode cL_passes 428 = .ok (.aload_n 0, 1) := by decide +kernel
theorem dL_passes_429 : decode cL_passes 429 = .ok (.bipush 9, 2) := by decide +kernel
theorem dL_passes_431 : decode cL_passes 431 = .ok (.invokevirtual 14, 3) := by decide +kernel
theorem dL_passes_434 : decode cL_passes 434 = .ok (.iload 5, 2) := by decide +kernel
theorem dL_passes_436 : decode cL_passes 436 = .ok (.if_icmp .ne 18, 3) := by decide +kernel
theorem dL_passes_439 : decode cL_passes 439 = .ok (.aload_n 0, 1) := by decide +kernel
theorem dL_passes_440 : decode cL_passes 440 = .ok (.bipush 11, 2) := by decide +kernel
theorem dL_passes_442 : decode cL_passes 442 = .ok (.invokevirtual 14, 3) := by decide +kernel
theorem dL_passes_445 : decode cL_passes 445 = .ok (.iload 7, 2) := by decide +kernel
theorem dL_passes_447 : decode cL_passes 447 = .ok (.if_icmp .gt 7, 3) := by decide +kernel
theorem dL_passes_450 : decode cL_passes 450 = .ok (.iconst 1, 1) := by decide +kernel
theorem dL_passes_451 : decode cL_passes 451 = .ok (.goto 4, 3) := by decide +kernel
theorem dL_passes_454 : decode cL_passes 454 = .ok (.iconst 0, 1) := by decide +kernel
theorem dL_passes_455 : decode cL_passes 455 = .ok (.ireturn, 1) := by decide +kernel
