set_option maxRecDepth 100000 in
theorem ggL_waves_L_up : GoodIn wsL_waves wsL_up := goodIn_r _ [8, 9] rfl (by decide +kernel)
set_option maxRecDepth 100000 in
theorem gL_waves_L_up : GoodIn wsL_waves (va_wsS RL 22 yL_up wsL_up) := goodIn_app (goodIn_of _ (by decide +kernel)) ggL_waves_L_up
set_option maxRecDepth 100000 in
theorem ggL_waves_X9_wave : GoodIn wsL_waves wsX9_wave := goodIn_r _ [14, 15, 16, 17, 13, 18, 19, 20, 21, 22, 23, 24, 25, 26, 27, 28, 29, 30, 31, 32, 33] rfl (by decide +kernel)
set_option maxRecDepth 100000 in
theorem gL_waves_X9_wave : GoodIn wsL_waves (wsV RL 60 RX9 yX9_wave wsX9_wave) := goodIn_app (goodIn_of _ (by decide +kernel)) ggL_waves_X9_wave
set_option maxRecDepth 100000 in
theorem ggL_waves_X9_restAt : GoodIn wsL_waves wsX9_restAt := goodIn_r _ [37, 15, 38, 39, 40, 41, 42, 13, 43, 44, 45, 20, 21, 22, 46, 47, 48, 49, 16, 17, 18, 19, 50, 51, 52, 53, 54, 55, 56, 57, 58, 59, 60, 61, 62, 63, 64, 23, 24, 25, 26, 27, 28, 29, 30, 31, 32, 33, 65, 66, 67, 126, 127, 128, 129, 130, 131, 132, 133, 134, 135, 136, 137, 138] rfl (by decide +kernel)
set_option maxRecDepth 100000 in
theorem gL_waves_X9_restAt : GoodIn wsL_waves (wsV RL 69 RX9 yX9_restAt wsX9_restAt) := goodIn_app (goodIn_of _ (by decide +kernel)) ggL_waves_X9_restAt
set_option maxRecDepth 100000 in
theorem ggL_waves_X9_state : GoodIn wsL_waves wsX9_state := goodIn_r _ [71, 72, 73, 38, 74, 75, 76, 77, 39, 20, 21, 13, 22, 50, 51, 52, 78, 79, 80, 81, 82, 83, 84, 85, 86, 87, 88, 89, 90, 91, 92, 93, 94, 95, 96, 97, 98, 99, 100, 101, 102, 103, 104, 105, 106, 107, 108, 109, 110, 111, 112, 113, 114, 115, 116, 117, 118, 119, 120, 121, 122, 123, 124, 125, 126, 127, 128, 129, 130, 131, 132, 133, 134, 135, 136, 137, 138, 139, 140, 141, 142, 143, 144, 145, 146, 147, 148, 149, 150, 151, 152, 153, 154, 155, 156, 157, 158, 159, 160, 161, 162, 163, 164, 165, 166, 167, 168, 169, 170, 171, 172, 173, 174] rfl (by decide +kernel)
set_option maxRecDepth 100000 in
theorem gL_waves_X9_state : GoodIn wsL_waves (wsV RL 73 RX9 yX9_state wsX9_state) := goodIn_app (goodIn_of _ (by decide +kernel)) ggL_waves_X9_state
theorem dL_waves_0 : decode cL_waves 0 = .ok (.iload_n 1, 1) := by decide +kernel
theorem dL_waves_1 : decode cL_waves 1 = .ok (.sipush 9001, 3) := by decide +kernel
theorem dL_waves_4 : decode cL_waves 4 = .ok (.invokestatic 22, 3) := by decide +kernel
theorem dL_waves_7 : decode cL_waves 7 = .ok (.istore_n 2, 1) := by decide +kernel
theorem dL_waves_8 : decode cL_waves 8 = .ok (.aload_n 0, 1) := by decide +kernel
theorem dL_waves_9 : decode cL_waves 9 = .ok (.iload_n 2, 1) := by decide +kernel
theorem dL_waves_10 : decode cL_waves 10 = .ok (.iconst 0, 1) := by decide +kernel
theorem dL_waves_11 : decode cL_waves 11 = .ok (.invokevirtual 60, 3) := by decide +kernel
theorem dL_waves_14 : decode cL_waves 14 = .ok (.istore_n 3, 1) := by decide +kernel
theorem dL_waves_15 : decode cL_waves 15 = .ok (.aload_n 0, 1) := by decide +kernel
theorem dL_waves_16 : decode cL_waves 16 = .ok (.iload_n 2, 1) := by decide +kernel
theorem dL_waves_17 : decode cL_waves 17 = .ok (.iconst 1, 1) := by decide +kernel
theorem dL_waves_18 : decode cL_waves 18 = .ok (.invokevirtual 60, 3) := by decide +kernel
theorem dL_waves_21 : decode cL_waves 21 = .ok (.istore 4, 2) := by decide +kernel
theorem dL_waves_23 : decode cL_waves 23 = .ok (.iload_n 3, 1) := by decide +kernel
theorem dL_waves_24 : decode cL_waves 24 = .ok (.ifCond .lt 85, 3) := by decide +kernel
theorem dL_waves_27 : decode cL_waves 27 = .ok (.iload_n 3, 1) := by decide +kernel
theorem dL_waves_28 : decode cL_waves 28 = .ok (.ldc 63, 2) := by decide +kernel
theorem dL_waves_30 : decode cL_waves 30 = .ok (.if_icmp .gt 79, 3) := by decide +kernel
theorem dL_waves_33 : decode cL_waves 33 = .ok (.aload_n 0, 1) := by decide +kernel
theorem dL_waves_34 : decode cL_waves 34 = .ok (.sipush 18000, 3) := by decide +kernel
theorem dL_waves_37 : decode cL_waves 37 = .ok (.iload_n 2, 1) := by decide +kernel
theorem dL_waves_38 : decode cL_waves 38 = .ok (.isub, 1) := by decide +kernel
theorem dL_waves_39 : decode cL_waves 39 = .ok (.iconst 0, 1) := by decide +kernel
theorem dL_waves_40 : decode cL_waves 40 = .ok (.invokevirtual 60, 3) := by decide +kernel
theorem dL_waves_43 : decode cL_waves 43 = .ok (.iload_n 3, 1) := by decide +kernel
theorem dL_waves_44 : decode cL_waves 44 = .ok (.if_icmp .ne 65, 3) := by decide +kernel
theorem dL_waves_47 : decode cL_waves 47 = .ok (.iload_n 2, 1) := by decide +kernel
theorem dL_waves_48 : decode cL_waves 48 = .ok (.ifCond .le 17, 3) := by decide +kernel
theorem dL_waves_51 : decode cL_waves 51 = .ok (.aload_n 0, 1) := by decide +kernel
theorem dL_waves_52 : decode cL_waves 52 = .ok (.ldc 64, 2) := by decide +kernel
theorem dL_waves_54 : decode cL_waves 54 = .ok (.iload_n 2, 1) := by decide +kernel
theorem dL_waves_55 : decode cL_waves 55 = .ok (.isub, 1) := by decide +kernel
theorem dL_waves_56 : decode cL_waves 56 = .ok (.iconst 0, 1) := by decide +kernel
theorem dL_waves_57 : decode cL_waves 57 = .ok (.invokevirtual 60, 3) := by decide +kernel
theorem dL_waves_60 : decode cL_waves 60 = .ok (.iload_n 3, 1) := by decide +kernel
theorem dL_waves_61 : decode cL_waves 61 = .ok (.ineg, 1) := by decide +kernel
theorem dL_waves_62 : decode cL_waves 62 = .ok (.if_icmp .ne 47, 3) := by decide +kernel
theorem dL_waves_65 : decode cL_waves 65 = .ok (.aload_n 0, 1) := by decide +kernel
theorem dL_waves_66 : decode cL_waves 66 = .ok (.sipush 18000, 3) := by decide +kernel
theorem dL_waves_69 : decode cL_waves 69 = .ok (.iload_n 2, 1) := by decide +kernel
theorem dL_waves_70 : decode cL_waves 70 = .ok (.iadd, 1) := by decide +kernel
theorem dL_waves_71 : decode cL_waves 71 = .ok (.iconst 0, 1) := by decide +kernel
theorem dL_waves_72 : decode cL_waves 72 = .ok (.invokevirtual 60, 3) := by decide +kernel
theorem dL_waves_75 : decode cL_waves 75 = .ok (.iload_n 3, 1) := by decide +kernel
theorem dL_waves_76 : decode cL_waves 76 = .ok (.ineg, 1) := by decide +kernel
theorem dL_waves_77 : decode cL_waves 77 = .ok (.if_icmp .ne 32, 3) := by decide +kernel
theorem dL_waves_80 : decode cL_waves 80 = .ok (.iload 4, 2) := by decide +kernel
theorem dL_waves_82 : decode cL_waves 82 = .ok (.aload_n 0, 1) := by decide +kernel
theorem dL_waves_83 : decode cL_waves 83 = .ok (.sipush 9000, 3) := by decide +kernel
theorem dL_waves_86 : decode cL_waves 86 = .ok (.iload_n 2, 1) := by decide +kernel
theorem dL_waves_87 : decode cL_waves 87 = .ok (.iadd, 1) := by decide +kernel
theorem dL_waves_88 : decode cL_waves 88 = .ok (.iconst 0, 1) := by decide +kernel
theorem dL_waves_89 : decode cL_waves 89 = .ok (.invokevirtual 60, 3) := by decide +kernel
theorem dL_waves_92 : decode cL_waves 92 = .ok (.if_icmp .ne 17, 3) := by decide +kernel
theorem dL_waves_95 : decode cL_waves 95 = .ok (.aload_n 0, 1) := by decide +kernel
theorem dL_waves_96 : decode cL_waves 96 = .ok (.sipush 9000, 3) := by decide +kernel
theorem dL_waves_99 : decode cL_waves 99 = .ok (.iload_n 2, 1) := by decide +kernel
theorem dL_waves_100 : decode cL_waves 100 = .ok (.isub, 1) := by decide +kernel
theorem dL_waves_101 : decode cL_waves 101 = .ok (.iconst 1, 1) := by decide +kernel
theorem dL_waves_102 : decode cL_waves 102 = .ok (.invokevirtual 60, 3) := by decide +kernel
theorem dL_waves_105 : decode cL_waves 105 = .ok (.iload_n 3, 1) := by decide +kernel
theorem dL_waves_106 : decode cL_waves 106 = .ok (.if_icmp .eq 5, 3) := by decide +kernel
theorem dL_waves_109 : decode cL_waves 109 = .ok (.iconst 0, 1) := by decide +kernel
theorem dL_waves_110 : decode cL_waves 110 = .ok (.ireturn, 1) := by decide +kernel
theorem dL_waves_111 : decode cL_waves 111 = .ok (.iload_n 2, 1) := by decide +kernel
theorem dL_waves_112 : decode cL_waves 112 = .ok (.sipush 9000, 3) := by decide +kernel
theorem dL_waves_115 : decode cL_waves 115 = .ok (.if_icmp .ge 17, 3) := by decide +kernel
theorem dL_waves_118 : decode cL_waves 118 = .ok (.aload_n 0, 1) := by decide +kernel
theorem dL_waves_119 : decode cL_waves 119 = .ok (.iload_n 2, 1) := by decide +kernel
theorem dL_waves_120 : decode cL_waves 120 = .ok (.iconst 1, 1) := by decide +kernel
theorem dL_waves_121 : decode cL_waves 121 = .ok (.iadd, 1) := by decide +kernel
theorem dL_waves_122 : decode cL_waves 122 = .ok (.iconst 0, 1) := by decide +kernel
theorem dL_waves_123 : decode cL_waves 123 = .ok (.invokevirtual 60, 3) := by decide +kernel
theorem dL_waves_126 : decode cL_waves 126 = .ok (.iload_n 3, 1) := by decide +kernel
theorem dL_waves_127 : decode cL_waves 127 = .ok (.if_icmp .ge 5, 3) := by decide +kernel
theorem dL_waves_130 : decode cL_waves 130 = .ok (.iconst 0, 1) := by decide +kernel
theorem dL_waves_131 : decode cL_waves 131 = .ok (.ireturn, 1) := by decide +kernel
theorem dL_waves_132 : decode cL_waves 132 = .ok (.iload_n 3, 1) := by decide +kernel
theorem dL_waves_133 : decode cL_waves 133 = .ok (.i2l, 1) := by decide +kernel
theorem dL_waves_134 : decode cL_waves 134 = .ok (.iload_n 3, 1) := by decide +kernel
theorem dL_waves_135 : decode cL_waves 135 = .ok (.i2l, 1) := by decide +kernel
theorem dL_waves_136 : decode cL_waves 136 = .ok (.lmul, 1) := by decide +kernel
theorem dL_waves_137 : decode cL_waves 137 = .ok (.iload 4, 2) := by decide +kernel
theorem dL_waves_139 : decode cL_waves 139 = .ok (.i2l, 1) := by decide +kernel
theorem dL_waves_140 : decode cL_waves 140 = .ok (.iload 4, 2) := by decide +kernel
theorem dL_waves_142 : decode cL_waves 142 = .ok (.i2l, 1) := by decide +kernel
theorem dL_waves_143 : decode cL_waves 143 = .ok (.lmul, 1) := by decide +kernel
theorem dL_waves_144 : decode cL_waves 144 = .ok (.ladd, 1) := by decide +kernel
theorem dL_waves_145 : decode cL_waves 145 = .ok (.lstore 5, 2) := by decide +kernel
theorem dL_waves_147 : decode cL_waves 147 = .ok (.lload 5, 2) := by decide +kernel
theorem dL_waves_149 : decode cL_waves 149 = .ok (.ldc2_w 65, 3) := by decide +kernel
theorem dL_waves_152 : decode cL_waves 152 = .ok (.lcmp, 1) := by decide +kernel
theorem dL_waves_153 : decode cL_waves 153 = .ok (.ifCond .lt 12, 3) := by decide +kernel
theorem dL_waves_156 : decode cL_waves 156 = .ok (.lload 5, 2) := by decide +kernel
theorem dL_waves_158 : decode cL_waves 158 = .ok (.ldc2_w 67, 3) := by decide +kernel
theorem dL_waves_161 : decode cL_waves 161 = .ok (.lcmp, 1) := by decide +kernel
theorem dL_waves_162 : decode cL_waves 162 = .ok (.ifCond .le 5, 3) := by decide +kernel
theorem dL_waves_165 : decode cL_waves 165 = .ok (.iconst 0, 1) := by decide +kernel
theorem dL_waves_166 : decode cL_waves 166 = .ok (.ireturn, 1) := by decide +kernel
theorem dL_waves_167 : decode cL_waves 167 = .ok (.iload_n 1, 1) := by decide +kernel
theorem dL_waves_168 : decode cL_waves 168 = .ok (.iconst 4, 1) := by decide +kernel
theorem dL_waves_169 : decode cL_waves 169 = .ok (.ishr, 1) := by decide +kernel
theorem dL_waves_170 : decode cL_waves 170 = .ok (.bipush 71, 2) := by decide +kernel
theorem dL_waves_172 : decode cL_waves 172 = .ok (.invokestatic 22, 3) := by decide +kernel
theorem dL_waves_175 : decode cL_waves 175 = .ok (.istore 7, 2) := by decide +kernel
theorem dL_waves_177 : decode cL_waves 177 = .ok (.iload_n 1, 1) := by decide +kernel
theorem dL_waves_178 : decode cL_waves 178 = .ok (.bipush 7, 2) := by decide +kernel
theorem dL_waves_180 : decode cL_waves 180 = .ok (.ishr, 1) := by decide +kernel
theorem dL_waves_181 : decode cL_waves 181 = .ok (.sipush 401, 3) := by decide +kernel
theorem dL_waves_184 : decode cL_waves 184 = .ok (.invokestatic 22, 3) := by decide +kernel
theorem dL_waves_187 : decode cL_waves 187 = .ok (.istore 8, 2) := by decide +kernel
theorem dL_waves_189 : decode cL_waves 189 = .ok (.aload_n 0, 1) := by decide +kernel
theorem dL_waves_190 : decode cL_waves 190 = .ok (.iload 7, 2) := by decide +kernel
theorem dL_waves_192 : decode cL_waves 192 = .ok (.iconst 0, 1) := by decide +kernel
theorem dL_waves_193 : decode cL_waves 193 = .ok (.iload_n 2, 1) := by decide +kernel
theorem dL_waves_194 : decode cL_waves 194 = .ok (.invokevirtual 69, 3) := by decide +kernel
theorem dL_waves_197 : decode cL_waves 197 = .ok (.istore 9, 2) := by decide +kernel
theorem dL_waves_199 : decode cL_waves 199 = .ok (.aload_n 0, 1) := by decide +kernel
theorem dL_waves_200 : decode cL_waves 200 = .ok (.bipush 100, 2) := by decide +kernel
theorem dL_waves_202 : decode cL_waves 202 = .ok (.iload 7, 2) := by decide +kernel
theorem dL_waves_204 : decode cL_waves 204 = .ok (.imul, 1) := by decide +kernel
theorem dL_waves_205 : decode cL_waves 205 = .ok (.iconst 1, 1) := by decide +kernel
theorem dL_waves_206 : decode cL_waves 206 = .ok (.invokevirtual 60, 3) := by decide +kernel
theorem dL_waves_209 : decode cL_waves 209 = .ok (.istore 10, 2) := by decide +kernel
theorem dL_waves_211 : decode cL_waves 211 = .ok (.iload 9, 2) := by decide +kernel
theorem dL_waves_213 : decode cL_waves 213 = .ok (.i2l, 1) := by decide +kernel
theorem dL_waves_214 : decode cL_waves 214 = .ok (.iload 10, 2) := by decide +kernel
theorem dL_waves_216 : decode cL_waves 216 = .ok (.i2l, 1) := by decide +kernel
theorem dL_waves_217 : decode cL_waves 217 = .ok (.lmul, 1) := by decide +kernel
theorem dL_waves_218 : decode cL_waves 218 = .ok (.aload_n 0, 1) := by decide +kernel
theorem dL_waves_219 : decode cL_waves 219 = .ok (.bipush 24, 2) := by decide +kernel
theorem dL_waves_221 : decode cL_waves 221 = .ok (.invokevirtual 73, 3) := by decide +kernel
theorem dL_waves_224 : decode cL_waves 224 = .ok (.i2l, 1) := by decide +kernel
theorem dL_waves_225 : decode cL_waves 225 = .ok (.aload_n 0, 1) := by decide +kernel
theorem dL_waves_226 : decode cL_waves 226 = .ok (.bipush 100, 2) := by decide +kernel
theorem dL_waves_228 : decode cL_waves 228 = .ok (.iload 7, 2) := by decide +kernel
theorem dL_waves_230 : decode cL_waves 230 = .ok (.imul, 1) := by decide +kernel
theorem dL_waves_231 : decode cL_waves 231 = .ok (.iconst 0, 1) := by decide +kernel
theorem dL_waves_232 : decode cL_waves 232 = .ok (.invokevirtual 60, 3) := by decide +kernel
theorem dL_waves_235 : decode cL_waves 235 = .ok (.i2l, 1) := by decide +kernel
theorem dL_waves_236 : decode cL_waves 236 = .ok (.lmul, 1) := by decide +kernel
theorem dL_waves_237 : decode cL_waves 237 = .ok (.lsub, 1) := by decide +kernel
theorem dL_waves_238 : decode cL_waves 238 = .ok (.lstore 11, 2) := by decide +kernel
theorem dL_waves_240 : decode cL_waves 240 = .ok (.lload 11, 2) := by decide +kernel
theorem dL_waves_242 : decode cL_waves 242 = .ok (.lconst 0, 1) := by decide +kernel
theorem dL_waves_243 : decode cL_waves 243 = .ok (.lcmp, 1) := by decide +kernel
theorem dL_waves_244 : decode cL_waves 244 = .ok (.ifCond .gt 60, 3) := by decide +kernel
theorem dL_waves_247 : decode cL_waves 247 = .ok (.lload 11, 2) := by decide +kernel
theorem dL_waves_249 : decode cL_waves 249 = .ok (.iload 10, 2) := by decide +kernel
theorem dL_waves_251 : decode cL_waves 251 = .ok (.ineg, 1) := by decide +kernel
theorem dL_waves_252 : decode cL_waves 252 = .ok (.i2l, 1) := by decide +kernel
theorem dL_waves_253 : decode cL_waves 253 = .ok (.lcmp, 1) := by decide +kernel
theorem dL_waves_254 : decode cL_waves 254 = .ok (.ifCond .le 50, 3) := by decide +kernel
theorem dL_waves_257 : decode cL_waves 257 = .ok (.aload_n 0, 1) := by decide +kernel
theorem dL_waves_258 : decode cL_waves 258 = .ok (.iload 7, 2) := by decide +kernel
theorem dL_waves_260 : decode cL_waves 260 = .ok (.ineg, 1) := by decide +kernel
theorem dL_waves_261 : decode cL_waves 261 = .ok (.iconst 0, 1) := by decide +kernel
theorem dL_waves_262 : decode cL_waves 262 = .ok (.iload_n 2, 1) := by decide +kernel
theorem dL_waves_263 : decode cL_waves 263 = .ok (.invokevirtual 69, 3) := by decide +kernel
theorem dL_waves_266 : decode cL_waves 266 = .ok (.iload 9, 2) := by decide +kernel
theorem dL_waves_268 : decode cL_waves 268 = .ok (.ineg, 1) := by decide +kernel
theorem dL_waves_269 : decode cL_waves 269 = .ok (.if_icmp .ne 35, 3) := by decide +kernel
theorem dL_waves_272 : decode cL_waves 272 = .ok (.aload_n 0, 1) := by decide +kernel
theorem dL_waves_273 : decode cL_waves 273 = .ok (.iload 7, 2) := by decide +kernel
theorem dL_waves_275 : decode cL_waves 275 = .ok (.iload 8, 2) := by decide +kernel
theorem dL_waves_277 : decode cL_waves 277 = .ok (.sipush 9000, 3) := by decide +kernel
theorem dL_waves_280 : decode cL_waves 280 = .ok (.invokevirtual 69, 3) := by decide +kernel
theorem dL_waves_283 : decode cL_waves 283 = .ok (.iload 9, 2) := by decide +kernel
theorem dL_waves_285 : decode cL_waves 285 = .ok (.if_icmp .ne 19, 3) := by decide +kernel
theorem dL_waves_288 : decode cL_waves 288 = .ok (.aload_n 0, 1) := by decide +kernel
theorem dL_waves_289 : decode cL_waves 289 = .ok (.iload 7, 2) := by decide +kernel
theorem dL_waves_291 : decode cL_waves 291 = .ok (.iload 8, 2) := by decide +kernel
theorem dL_waves_293 : decode cL_waves 293 = .ok (.sipush 27000, 3) := by decide +kernel
theorem dL_waves_296 : decode cL_waves 296 = .ok (.invokevirtual 69, 3) := by decide +kernel
theorem dL_waves_299 : decode cL_waves 299 = .ok (.iload 9, 2) := by decide +kernel
theorem dL_waves_301 : decode cL_waves 301 = .ok (.if_icmp .eq 5, 3) := by decide +kernel
theorem dL_waves_304 : decode cL_waves 304 = .ok (.iconst 0, 1) := by decide +kernel
theorem dL_waves_305 : decode cL_waves 305 = .ok (.ireturn, 1) := by decide +kernel
theorem dL_waves_306 : decode cL_waves 306 = .ok (.aload_n 0, 1) := by decide +kernel
theorem dL_waves_307 : decode cL_waves 307 = .ok (.iload 7, 2) := by decide +kernel
theorem dL_waves_309 : decode cL_waves 309 = .ok (.iload 8, 2) := by decide +kernel
theorem dL_waves_311 : decode cL_waves 311 = .ok (.iload_n 2, 1) := by decide +kernel
theorem dL_waves_312 : decode cL_waves 312 = .ok (.invokevirtual 69, 3) := by decide +kernel
theorem dL_waves_315 : decode cL_waves 315 = .ok (.iload 9, 2) := by decide +kernel
theorem dL_waves_317 : decode cL_waves 317 = .ok (.isub, 1) := by decide +kernel
theorem dL_waves_318 : decode cL_waves 318 = .ok (.iload 9, 2) := by decide +kernel
theorem dL_waves_320 : decode cL_waves 320 = .ok (.aload_n 0, 1) := by decide +kernel
theorem dL_waves_321 : decode cL_waves 321 = .ok (.iload 7, 2) := by decide +kernel
theorem dL_waves_323 : decode cL_waves 323 = .ok (.iload 8, 2) := by decide +kernel
theorem dL_waves_325 : decode cL_waves 325 = .ok (.sipush 18000, 3) := by decide +kernel
theorem dL_waves_328 : decode cL_waves 328 = .ok (.iload_n 2, 1) := by decide +kernel
theorem dL_waves_329 : decode cL_waves 329 = .ok (.isub, 1) := by decide +kernel
theorem dL_waves_330 : decode cL_waves 330 = .ok (.invokevirtual 69, 3) := by decide +kernel
theorem dL_waves_333 : decode cL_waves 333 = .ok (.isub, 1) := by decide +kernel
theorem dL_waves_334 : decode cL_waves 334 = .ok (.if_icmp .ne 28, 3) := by decide +kernel
theorem dL_waves_337 : decode cL_waves 337 = .ok (.aload_n 0, 1) := by decide +kernel
theorem dL_waves_338 : decode cL_waves 338 = .ok (.iload 7, 2) := by decide +kernel
theorem dL_waves_340 : decode cL_waves 340 = .ok (.iload 8, 2) := by decide +kernel
theorem dL_waves_342 : decode cL_waves 342 = .ok (.iconst 0, 1) := by decide +kernel
theorem dL_waves_343 : decode cL_waves 343 = .ok (.invokevirtual 69, 3) := by decide +kernel
theorem dL_waves_346 : decode cL_waves 346 = .ok (.aload_n 0, 1) := by decide +kernel
theorem dL_waves_347 : decode cL_waves 347 = .ok (.iload 7, 2) := by decide +kernel
theorem dL_waves_349 : decode cL_waves 349 = .ok (.iload 8, 2) := by decide +kernel
theorem dL_waves_351 : decode cL_waves 351 = .ok (.iload_n 2, 1) := by decide +kernel
theorem dL_waves_352 : decode cL_waves 352 = .ok (.invokevirtual 69, 3) := by decide +kernel
theorem dL_waves_355 : decode cL_waves 355 = .ok (.if_icmp .gt 7, 3) := by decide +kernel
theorem dL_waves_358 : decode cL_waves 358 = .ok (.iconst 1, 1) := by decide +kernel
theorem dL_waves_359 : decode cL_waves 359 = .ok (.goto 4, 3) := by decide +kernel
theorem dL_waves_362 : decode cL_waves 362 = .ok (.iconst 0, 1) := by decide +kernel
theorem dL_waves_363 : decode cL_waves 363 = .ok (.ireturn, 1) := by decide +kernel
