set_option maxRecDepth 100000 in
theorem ggL_trust_X9_state : GoodIn wsL_trust wsX9_state := goodIn_r _ [7, 8, 9, 10, 11, 12, 13, 14, 15, 16, 17, 6, 18, 19, 20, 21, 22, 23, 24, 25, 26, 27, 28, 29, 30, 31, 32, 33, 34, 35, 36, 37, 38, 39, 40, 41, 42, 43, 44, 45, 46, 47, 48, 49, 50, 51, 52, 53, 54, 55, 56, 57, 58, 59, 60, 61, 62, 63, 64, 65, 66, 67, 68, 69, 186, 187, 188, 189, 190, 191, 192, 193, 194, 195, 196, 197, 198, 199, 200, 201, 202, 203, 204, 205, 206, 207, 208, 209, 210, 211, 212, 213, 214, 215, 216, 217, 218, 219, 220, 221, 222, 223, 224, 225, 226, 227, 228, 229, 230, 231, 232, 233, 234] rfl (by decide +kernel)
set_option maxRecDepth 100000 in
theorem gL_trust_X9_state : GoodIn wsL_trust (wsV RL 73 RX9 yX9_state wsX9_state) := goodIn_app (goodIn_of _ (by decide +kernel)) ggL_trust_X9_state
set_option maxRecDepth 100000 in
theorem ggL_trust_X9_turn : GoodIn wsL_trust wsX9_turn := goodIn_r _ [73, 10, 56, 57, 58, 74, 75, 76, 77, 16, 17, 6, 18, 19, 20, 21, 186, 187, 188, 189, 190, 191, 192, 193, 194, 195, 196, 197, 198, 215, 216, 217, 218, 219, 220, 221, 222] rfl (by decide +kernel)
set_option maxRecDepth 100000 in
theorem gL_trust_X9_turn : GoodIn wsL_trust (wsV RL 104 RX9 yX9_turn wsX9_turn) := goodIn_app (goodIn_of _ (by decide +kernel)) ggL_trust_X9_turn
set_option maxRecDepth 100000 in
theorem ggL_trust_X9_check : GoodIn wsL_trust wsX9_check := goodIn_r _ [81, 10, 60, 61, 58, 74, 75, 16, 17, 6, 18, 19, 20, 21, 186, 187, 188, 189, 190, 191, 192, 193, 194, 195, 196, 197, 198, 223, 224, 225, 226, 221, 222] rfl (by decide +kernel)
set_option maxRecDepth 100000 in
theorem gL_trust_X9_check : GoodIn wsL_trust (wsV RL 134 RX9 yX9_check wsX9_check) := goodIn_app (goodIn_of _ (by decide +kernel)) ggL_trust_X9_check
set_option maxRecDepth 100000 in
theorem ggL_trust_X9_compass : GoodIn wsL_trust wsX9_compass := goodIn_r _ [85, 10, 11, 86, 87, 56, 88, 89, 57, 58, 60, 61, 27, 90, 91, 92, 77, 93, 94, 95, 45, 96, 97, 98, 99, 100, 101, 47, 102, 103, 104, 20, 6, 21, 105, 106, 107, 108, 109, 110, 111, 112, 113, 114, 115, 116, 117, 118, 119, 120, 121, 122, 123, 124, 125, 126, 127, 128, 129, 130, 131, 132, 133, 134, 135, 136, 137, 138, 139, 140, 141, 142, 143, 144, 145, 146, 147, 148, 149, 150, 151, 152, 153, 154, 155, 156, 157, 158, 159, 160, 186, 187, 188, 189, 190, 191, 192, 193, 194, 195, 196, 197, 198, 199, 200, 201, 202, 203, 204, 205, 215, 216, 217, 218, 219, 220, 221, 222, 223, 224, 225, 226, 206, 207, 208, 209, 210] rfl (by decide +kernel)
set_option maxRecDepth 100000 in
theorem gL_trust_X9_compass : GoodIn wsL_trust (wsV RL 76 RX9 yX9_compass wsX9_compass) := goodIn_app (goodIn_of _ (by decide +kernel)) ggL_trust_X9_compass
set_option maxRecDepth 100000 in
theorem ggL_trust_X9_reason : GoodIn wsL_trust wsX9_reason := goodIn_r _ [164, 10, 165, 166, 167, 45, 168, 169, 97, 170, 112, 113, 114, 171, 172, 173, 174, 175, 47, 176, 177, 131, 132, 133, 134, 135, 136, 178, 138, 139, 140, 141, 142, 143, 20, 6, 21, 179, 151, 152, 153, 180, 145, 146, 147, 148, 149, 128, 129, 181, 155, 156, 157, 158, 159, 160, 186, 187, 188, 189, 190, 191, 192, 193, 194, 195, 196, 197, 198, 223, 224, 225, 226, 221, 222, 199, 200, 201, 202, 203, 204, 205, 215, 216, 217, 218, 219, 220] rfl (by decide +kernel)
set_option maxRecDepth 100000 in
theorem gL_trust_X9_reason : GoodIn wsL_trust (wsV RL 146 RX9 yX9_reason wsX9_reason) := goodIn_app (goodIn_of _ (by decide +kernel)) ggL_trust_X9_reason
set_option maxRecDepth 100000 in
theorem ggL_trust_L_size : GoodIn wsL_trust wsL_size := goodIn_r _ [185] rfl (by decide +kernel)
set_option maxRecDepth 100000 in
theorem gL_trust_L_size : GoodIn wsL_trust (va_wsS RL 98 yL_size wsL_size) := goodIn_app (goodIn_of _ (by decide +kernel)) ggL_trust_L_size
theorem dL_trust_0 : decode cL_trust 0 = .ok (.aload_n 0, 1) := by decide +kernel
theorem dL_trust_1 : decode cL_trust 1 = .ok (.bipush 13, 2) := by decide +kernel
theorem dL_trust_3 : decode cL_trust 3 = .ok (.invokevirtual 73, 3) := by decide +kernel
theorem dL_trust_6 : decode cL_trust 6 = .ok (.istore_n 1, 1) := by decide +kernel
theorem dL_trust_7 : decode cL_trust 7 = .ok (.iconst 0, 1) := by decide +kernel
theorem dL_trust_8 : decode cL_trust 8 = .ok (.istore_n 2, 1) := by decide +kernel
theorem dL_trust_9 : decode cL_trust 9 = .ok (.iload_n 2, 1) := by decide +kernel
theorem dL_trust_10 : decode cL_trust 10 = .ok (.iconst 1, 1) := by decide +kernel
theorem dL_trust_11 : decode cL_trust 11 = .ok (.iadd, 1) := by decide +kernel
theorem dL_trust_12 : decode cL_trust 12 = .ok (.iload_n 1, 1) := by decide +kernel
theorem dL_trust_13 : decode cL_trust 13 = .ok (.if_icmp .ge 28, 3) := by decide +kernel
theorem dL_trust_16 : decode cL_trust 16 = .ok (.aload_n 0, 1) := by decide +kernel
theorem dL_trust_17 : decode cL_trust 17 = .ok (.iload_n 2, 1) := by decide +kernel
theorem dL_trust_18 : decode cL_trust 18 = .ok (.iconst 1, 1) := by decide +kernel
theorem dL_trust_19 : decode cL_trust 19 = .ok (.invokevirtual 104, 3) := by decide +kernel
theorem dL_trust_22 : decode cL_trust 22 = .ok (.aload_n 0, 1) := by decide +kernel
theorem dL_trust_23 : decode cL_trust 23 = .ok (.iload_n 2, 1) := by decide +kernel
theorem dL_trust_24 : decode cL_trust 24 = .ok (.iconst 1, 1) := by decide +kernel
theorem dL_trust_25 : decode cL_trust 25 = .ok (.iadd, 1) := by decide +kernel
theorem dL_trust_26 : decode cL_trust 26 = .ok (.iconst 1, 1) := by decide +kernel
theorem dL_trust_27 : decode cL_trust 27 = .ok (.invokevirtual 104, 3) := by decide +kernel
theorem dL_trust_30 : decode cL_trust 30 = .ok (.if_icmp .gt 5, 3) := by decide +kernel
theorem dL_trust_33 : decode cL_trust 33 = .ok (.iconst 0, 1) := by decide +kernel
theorem dL_trust_34 : decode cL_trust 34 = .ok (.ireturn, 1) := by decide +kernel
theorem dL_trust_35 : decode cL_trust 35 = .ok (.iinc 2 1, 3) := by decide +kernel
theorem dL_trust_38 : decode cL_trust 38 = .ok (.goto (-29), 3) := by decide +kernel
theorem dL_trust_41 : decode cL_trust 41 = .ok (.aload_n 0, 1) := by decide +kernel
theorem dL_trust_42 : decode cL_trust 42 = .ok (.iload_n 1, 1) := by decide +kernel
theorem dL_trust_43 : decode cL_trust 43 = .ok (.iconst 0, 1) := by decide +kernel
theorem dL_trust_44 : decode cL_trust 44 = .ok (.invokevirtual 104, 3) := by decide +kernel
theorem dL_trust_47 : decode cL_trust 47 = .ok (.ldc 144, 2) := by decide +kernel
theorem dL_trust_49 : decode cL_trust 49 = .ok (.if_icmp .ne 18, 3) := by decide +kernel
theorem dL_trust_52 : decode cL_trust 52 = .ok (.aload_n 0, 1) := by decide +kernel
theorem dL_trust_53 : decode cL_trust 53 = .ok (.aload_n 0, 1) := by decide +kernel
theorem dL_trust_54 : decode cL_trust 54 = .ok (.bipush 15, 2) := by decide +kernel
theorem dL_trust_56 : decode cL_trust 56 = .ok (.invokevirtual 73, 3) := by decide +kernel
theorem dL_trust_59 : decode cL_trust 59 = .ok (.invokevirtual 134, 3) := by decide +kernel
theorem dL_trust_62 : decode cL_trust 62 = .ok (.ldc 144, 2) := by decide +kernel
theorem dL_trust_64 : decode cL_trust 64 = .ok (.if_icmp .eq 5, 3) := by decide +kernel
theorem dL_trust_67 : decode cL_trust 67 = .ok (.iconst 0, 1) := by decide +kernel
theorem dL_trust_68 : decode cL_trust 68 = .ok (.ireturn, 1) := by decide +kernel
theorem dL_trust_69 : decode cL_trust 69 = .ok (.iload_n 1, 1) := by decide +kernel
theorem dL_trust_70 : decode cL_trust 70 = .ok (.iconst 2, 1) := by decide +kernel
theorem dL_trust_71 : decode cL_trust 71 = .ok (.if_icmp .ge 7, 3) := by decide +kernel
theorem dL_trust_74 : decode cL_trust 74 = .ok (.iconst 1, 1) := by decide +kernel
theorem dL_trust_75 : decode cL_trust 75 = .ok (.goto 4, 3) := by decide +kernel
theorem dL_trust_78 : decode cL_trust 78 = .ok (.iconst 0, 1) := by decide +kernel
theorem dL_trust_79 : decode cL_trust 79 = .ok (.aload_n 0, 1) := by decide +kernel
theorem dL_trust_80 : decode cL_trust 80 = .ok (.bipush 6, 2) := by decide +kernel
theorem dL_trust_82 : decode cL_trust 82 = .ok (.invokevirtual 76, 3) := by decide +kernel
theorem dL_trust_85 : decode cL_trust 85 = .ok (.ldc 145, 2) := by decide +kernel
theorem dL_trust_87 : decode cL_trust 87 = .ok (.if_icmp .ne 7, 3) := by decide +kernel
theorem dL_trust_90 : decode cL_trust 90 = .ok (.iconst 1, 1) := by decide +kernel
theorem dL_trust_91 : decode cL_trust 91 = .ok (.goto 4, 3) := by decide +kernel
theorem dL_trust_94 : decode cL_trust 94 = .ok (.iconst 0, 1) := by decide +kernel
theorem dL_trust_95 : decode cL_trust 95 = .ok (.if_icmp .ne 30, 3) := by decide +kernel
theorem dL_trust_98 : decode cL_trust 98 = .ok (.iload_n 1, 1) := by decide +kernel
theorem dL_trust_99 : decode cL_trust 99 = .ok (.iconst 1, 1) := by decide +kernel
theorem dL_trust_100 : decode cL_trust 100 = .ok (.if_icmp .le 27, 3) := by decide +kernel
theorem dL_trust_103 : decode cL_trust 103 = .ok (.aload_n 0, 1) := by decide +kernel
theorem dL_trust_104 : decode cL_trust 104 = .ok (.bipush 6, 2) := by decide +kernel
theorem dL_trust_106 : decode cL_trust 106 = .ok (.invokevirtual 76, 3) := by decide +kernel
theorem dL_trust_109 : decode cL_trust 109 = .ok (.aload_n 0, 1) := by decide +kernel
theorem dL_trust_110 : decode cL_trust 110 = .ok (.iconst 0, 1) := by decide +kernel
theorem dL_trust_111 : decode cL_trust 111 = .ok (.iconst 0, 1) := by decide +kernel
theorem dL_trust_112 : decode cL_trust 112 = .ok (.invokevirtual 104, 3) := by decide +kernel
theorem dL_trust_115 : decode cL_trust 115 = .ok (.aload_n 0, 1) := by decide +kernel
theorem dL_trust_116 : decode cL_trust 116 = .ok (.iconst 1, 1) := by decide +kernel
theorem dL_trust_117 : decode cL_trust 117 = .ok (.iconst 0, 1) := by decide +kernel
theorem dL_trust_118 : decode cL_trust 118 = .ok (.invokevirtual 104, 3) := by decide +kernel
theorem dL_trust_121 : decode cL_trust 121 = .ok (.isub, 1) := by decide +kernel
theorem dL_trust_122 : decode cL_trust 122 = .ok (.if_icmp .eq 5, 3) := by decide +kernel
theorem dL_trust_125 : decode cL_trust 125 = .ok (.iconst 0, 1) := by decide +kernel
theorem dL_trust_126 : decode cL_trust 126 = .ok (.ireturn, 1) := by decide +kernel
theorem dL_trust_127 : decode cL_trust 127 = .ok (.iload_n 1, 1) := by decide +kernel
theorem dL_trust_128 : decode cL_trust 128 = .ok (.iconst 3, 1) := by decide +kernel
theorem dL_trust_129 : decode cL_trust 129 = .ok (.if_icmp .ge 37, 3) := by decide +kernel
theorem dL_trust_132 : decode cL_trust 132 = .ok (.aload_n 0, 1) := by decide +kernel
theorem dL_trust_133 : decode cL_trust 133 = .ok (.invokevirtual 146, 3) := by decide +kernel
theorem dL_trust_136 : decode cL_trust 136 = .ok (.iconst 1, 1) := by decide +kernel
theorem dL_trust_137 : decode cL_trust 137 = .ok (.if_icmp .ne 27, 3) := by decide +kernel
theorem dL_trust_140 : decode cL_trust 140 = .ok (.aload_n 0, 1) := by decide +kernel
theorem dL_trust_141 : decode cL_trust 141 = .ok (.iconst 4, 1) := by decide +kernel
theorem dL_trust_142 : decode cL_trust 142 = .ok (.invokevirtual 76, 3) := by decide +kernel
theorem dL_trust_145 : decode cL_trust 145 = .ok (.ldc 145, 2) := by decide +kernel
theorem dL_trust_147 : decode cL_trust 147 = .ok (.if_icmp .ne 17, 3) := by decide +kernel
theorem dL_trust_150 : decode cL_trust 150 = .ok (.aload_n 0, 1) := by decide +kernel
theorem dL_trust_151 : decode cL_trust 151 = .ok (.iconst 5, 1) := by decide +kernel
theorem dL_trust_152 : decode cL_trust 152 = .ok (.invokevirtual 76, 3) := by decide +kernel
theorem dL_trust_155 : decode cL_trust 155 = .ok (.ldc 145, 2) := by decide +kernel
theorem dL_trust_157 : decode cL_trust 157 = .ok (.if_icmp .ne 7, 3) := by decide +kernel
theorem dL_trust_160 : decode cL_trust 160 = .ok (.iconst 1, 1) := by decide +kernel
theorem dL_trust_161 : decode cL_trust 161 = .ok (.goto 4, 3) := by decide +kernel
theorem dL_trust_164 : decode cL_trust 164 = .ok (.iconst 0, 1) := by decide +kernel
theorem dL_trust_165 : decode cL_trust 165 = .ok (.ireturn, 1) := by decide +kernel
theorem dL_trust_166 : decode cL_trust 166 = .ok (.aload_n 0, 1) := by decide +kernel
theorem dL_trust_167 : decode cL_trust 167 = .ok (.iconst 2, 1) := by decide +kernel
theorem dL_trust_168 : decode cL_trust 168 = .ok (.iconst 0, 1) := by decide +kernel
theorem dL_trust_169 : decode cL_trust 169 = .ok (.invokevirtual 104, 3) := by decide +kernel
theorem dL_trust_172 : decode cL_trust 172 = .ok (.iconst 2, 1) := by decide +kernel
theorem dL_trust_173 : decode cL_trust 173 = .ok (.aload_n 0, 1) := by decide +kernel
theorem dL_trust_174 : decode cL_trust 174 = .ok (.iconst 1, 1) := by decide +kernel
theorem dL_trust_175 : decode cL_trust 175 = .ok (.iconst 0, 1) := by decide +kernel
theorem dL_trust_176 : decode cL_trust 176 = .ok (.invokevirtual 104, 3) := by decide +kernel
theorem dL_trust_179 : decode cL_trust 179 = .ok (.imul, 1) := by decide +kernel
theorem dL_trust_180 : decode cL_trust 180 = .ok (.iadd, 1) := by decide +kernel
theorem dL_trust_181 : decode cL_trust 181 = .ok (.aload_n 0, 1) := by decide +kernel
theorem dL_trust_182 : decode cL_trust 182 = .ok (.iconst 0, 1) := by decide +kernel
theorem dL_trust_183 : decode cL_trust 183 = .ok (.iconst 0, 1) := by decide +kernel
theorem dL_trust_184 : decode cL_trust 184 = .ok (.invokevirtual 104, 3) := by decide +kernel
theorem dL_trust_187 : decode cL_trust 187 = .ok (.iadd, 1) := by decide +kernel
theorem dL_trust_188 : decode cL_trust 188 = .ok (.iconst 4, 1) := by decide +kernel
theorem dL_trust_189 : decode cL_trust 189 = .ok (.idiv, 1) := by decide +kernel
theorem dL_trust_190 : decode cL_trust 190 = .ok (.istore_n 2, 1) := by decide +kernel
theorem dL_trust_191 : decode cL_trust 191 = .ok (.aload_n 0, 1) := by decide +kernel
theorem dL_trust_192 : decode cL_trust 192 = .ok (.iconst 4, 1) := by decide +kernel
theorem dL_trust_193 : decode cL_trust 193 = .ok (.invokevirtual 76, 3) := by decide +kernel
theorem dL_trust_196 : decode cL_trust 196 = .ok (.iload_n 2, 1) := by decide +kernel
theorem dL_trust_197 : decode cL_trust 197 = .ok (.if_icmp .eq 5, 3) := by decide +kernel
theorem dL_trust_200 : decode cL_trust 200 = .ok (.iconst 0, 1) := by decide +kernel
theorem dL_trust_201 : decode cL_trust 201 = .ok (.ireturn, 1) := by decide +kernel
theorem dL_trust_202 : decode cL_trust 202 = .ok (.aload_n 0, 1) := by decide +kernel
theorem dL_trust_203 : decode cL_trust 203 = .ok (.iconst 5, 1) := by decide +kernel
theorem dL_trust_204 : decode cL_trust 204 = .ok (.invokevirtual 76, 3) := by decide +kernel
theorem dL_trust_207 : decode cL_trust 207 = .ok (.istore_n 3, 1) := by decide +kernel
theorem dL_trust_208 : decode cL_trust 208 = .ok (.aload_n 0, 1) := by decide +kernel
theorem dL_trust_209 : decode cL_trust 209 = .ok (.invokevirtual 146, 3) := by decide +kernel
theorem dL_trust_212 : decode cL_trust 212 = .ok (.istore 4, 2) := by decide +kernel
theorem dL_trust_214 : decode cL_trust 214 = .ok (.aload_n 0, 1) := by decide +kernel
theorem dL_trust_215 : decode cL_trust 215 = .ok (.bipush 6, 2) := by decide +kernel
theorem dL_trust_217 : decode cL_trust 217 = .ok (.invokevirtual 76, 3) := by decide +kernel
theorem dL_trust_220 : decode cL_trust 220 = .ok (.invokestatic 98, 3) := by decide +kernel
theorem dL_trust_223 : decode cL_trust 223 = .ok (.aload_n 0, 1) := by decide +kernel
theorem dL_trust_224 : decode cL_trust 224 = .ok (.bipush 25, 2) := by decide +kernel
theorem dL_trust_226 : decode cL_trust 226 = .ok (.invokevirtual 73, 3) := by decide +kernel
theorem dL_trust_229 : decode cL_trust 229 = .ok (.if_icmp .le 15, 3) := by decide +kernel
theorem dL_trust_232 : decode cL_trust 232 = .ok (.iload 4, 2) := by decide +kernel
theorem dL_trust_234 : decode cL_trust 234 = .ok (.iconst 2, 1) := by decide +kernel
theorem dL_trust_235 : decode cL_trust 235 = .ok (.if_icmp .ne 7, 3) := by decide +kernel
theorem dL_trust_238 : decode cL_trust 238 = .ok (.iconst 1, 1) := by decide +kernel
theorem dL_trust_239 : decode cL_trust 239 = .ok (.goto 4, 3) := by decide +kernel
theorem dL_trust_242 : decode cL_trust 242 = .ok (.iconst 0, 1) := by decide +kernel
theorem dL_trust_243 : decode cL_trust 243 = .ok (.ireturn, 1) := by decide +kernel
theorem dL_trust_244 : decode cL_trust 244 = .ok (.iload_n 2, 1) := by decide +kernel
theorem dL_trust_245 : decode cL_trust 245 = .ok (.iload_n 3, 1) := by decide +kernel
theorem dL_trust_246 : decode cL_trust 246 = .ok (.isub, 1) := by decide +kernel
theorem dL_trust_247 : decode cL_trust 247 = .ok (.invokestatic 98, 3) := by decide +kernel
theorem dL_trust_250 : decode cL_trust 250 = .ok (.aload_n 0, 1) := by decide +kernel
theorem dL_trust_251 : decode cL_trust 251 = .ok (.bipush 26, 2) := by decide +kernel
theorem dL_trust_253 : decode cL_trust 253 = .ok (.invokevirtual 73, 3) := by decide +kernel
theorem dL_trust_256 : decode cL_trust 256 = .ok (.if_icmp .le 15, 3) := by decide +kernel
theorem dL_trust_259 : decode cL_trust 259 = .ok (.iload 4, 2) := by decide +kernel
theorem dL_trust_261 : decode cL_trust 261 = .ok (.iconst 3, 1) := by decide +kernel
theorem dL_trust_262 : decode cL_trust 262 = .ok (.if_icmp .ne 7, 3) := by decide +kernel
theorem dL_trust_265 : decode cL_trust 265 = .ok (.iconst 1, 1) := by decide +kernel
theorem dL_trust_266 : decode cL_trust 266 = .ok (.goto 4, 3) := by decide +kernel
theorem dL_trust_269 : decode cL_trust 269 = .ok (.iconst 0, 1) := by decide +kernel
theorem dL_trust_270 : decode cL_trust 270 = .ok (.ireturn, 1) := by decide +kernel
theorem dL_trust_271 : decode cL_trust 271 = .ok (.aload_n 0, 1) := by decide +kernel
theorem dL_trust_272 : decode cL_trust 272 = .ok (.bipush 15, 2) := by decide +kernel
theorem dL_trust_274 : decode cL_trust 274 = .ok (.invokevirtual 73, 3) := by decide +kernel
theorem dL_trust_277 : decode cL_trust 277 = .ok (.iconst 3, 1) := by decide +kernel
theorem dL_trust_278 : decode cL_trust 278 = .ok (.if_icmp .ge 15, 3) := by decide +kernel
theorem dL_trust_281 : decode cL_trust 281 = .ok (.iload 4, 2) := by decide +kernel
theorem dL_trust_283 : decode cL_trust 283 = .ok (.iconst 4, 1) := by decide +kernel
theorem dL_trust_284 : decode cL_trust 284 = .ok (.if_icmp .ne 7, 3) := by decide +kernel
theorem dL_trust_287 : decode cL_trust 287 = .ok (.iconst 1, 1) := by decide +kernel
theorem dL_trust_288 : decode cL_trust 288 = .ok (.goto 4, 3) := by decide +kernel
theorem dL_trust_291 : decode cL_trust 291 = .ok (.iconst 0, 1) := by decide +kernel
theorem dL_trust_292 : decode cL_trust 292 = .ok (.ireturn, 1) := by decide +kernel
theorem dL_trust_293 : decode cL_trust 293 = .ok (.aload_n 0, 1) := by decide +kernel
theorem dL_trust_294 : decode cL_trust 294 = .ok (.iconst 0, 1) := by decide +kernel
theorem dL_trust_295 : decode cL_trust 295 = .ok (.invokevirtual 134, 3) := by decide +kernel
theorem dL_trust_298 : decode cL_trust 298 = .ok (.aload_n 0, 1) := by decide +kernel
theorem dL_trust_299 : decode cL_trust 299 = .ok (.iconst 1, 1) := by decide +kernel
theorem dL_trust_300 : decode cL_trust 300 = .ok (.invokevirtual 134, 3) := by decide +kernel
theorem dL_trust_303 : decode cL_trust 303 = .ok (.iadd, 1) := by decide +kernel
theorem dL_trust_304 : decode cL_trust 304 = .ok (.aload_n 0, 1) := by decide +kernel
theorem dL_trust_305 : decode cL_trust 305 = .ok (.iconst 2, 1) := by decide +kernel
theorem dL_trust_306 : decode cL_trust 306 = .ok (.invokevirtual 134, 3) := by decide +kernel
theorem dL_trust_309 : decode cL_trust 309 = .ok (.iadd, 1) := by decide +kernel
theorem dL_trust_310 : decode cL_trust 310 = .ok (.iconst 3, 1) := by decide +kernel
theorem dL_trust_311 : decode cL_trust 311 = .ok (.idiv, 1) := by decide +kernel
theorem dL_trust_312 : decode cL_trust 312 = .ok (.istore 5, 2) := by decide +kernel
theorem dL_trust_314 : decode cL_trust 314 = .ok (.bipush 100, 2) := by decide +kernel
theorem dL_trust_316 : decode cL_trust 316 = .ok (.iload 5, 2) := by decide +kernel
theorem dL_trust_318 : decode cL_trust 318 = .ok (.imul, 1) := by decide +kernel
theorem dL_trust_319 : decode cL_trust 319 = .ok (.iload_n 2, 1) := by decide +kernel
theorem dL_trust_320 : decode cL_trust 320 = .ok (.isub, 1) := by decide +kernel
theorem dL_trust_321 : decode cL_trust 321 = .ok (.invokestatic 98, 3) := by decide +kernel
theorem dL_trust_324 : decode cL_trust 324 = .ok (.aload_n 0, 1) := by decide +kernel
theorem dL_trust_325 : decode cL_trust 325 = .ok (.bipush 27, 2) := by decide +kernel
theorem dL_trust_327 : decode cL_trust 327 = .ok (.invokevirtual 73, 3) := by decide +kernel
theorem dL_trust_330 : decode cL_trust 330 = .ok (.if_icmp .le 15, 3) := by decide +kernel
theorem dL_trust_333 : decode cL_trust 333 = .ok (.iload 4, 2) := by decide +kernel
theorem dL_trust_335 : decode cL_trust 335 = .ok (.iconst 5, 1) := by decide +kernel
theorem dL_trust_336 : decode cL_trust 336 = .ok (.if_icmp .ne 7, 3) := by decide +kernel
theorem dL_trust_339 : decode cL_trust 339 = .ok (.iconst 1, 1) := by decide +kernel
theorem dL_trust_340 : decode cL_trust 340 = .ok (.goto 4, 3) := by decide +kernel
theorem dL_trust_343 : decode cL_trust 343 = .ok (.iconst 0, 1) := by decide +kernel
theorem dL_trust_344 : decode cL_trust 344 = .ok (.ireturn, 1) := by decide +kernel
theorem dL_trust_345 : decode cL_trust 345 = .ok (.iload 4, 2) := by decide +kernel
theorem dL_trust_347 : decode cL_trust 347 = .ok (.iload_n 2, 1) := by decide +kernel
theorem dL_trust_348 : decode cL_trust 348 = .ok (.invokestatic 98, 3) := by decide +kernel
theorem dL_trust_351 : decode cL_trust 351 = .ok (.aload_n 0, 1) := by decide +kernel
theorem dL_trust_352 : decode cL_trust 352 = .ok (.bipush 27, 2) := by decide +kernel
theorem dL_trust_354 : decode cL_trust 354 = .ok (.invokevirtual 73, 3) := by decide +kernel
theorem dL_trust_357 : decode cL_trust 357 = .ok (.if_icmp .le 8, 3) := by decide +kernel
theorem dL_trust_360 : decode cL_trust 360 = .ok (.bipush 6, 2) := by decide +kernel
theorem dL_trust_362 : decode cL_trust 362 = .ok (.goto 18, 3) := by decide +kernel
theorem dL_trust_365 : decode cL_trust 365 = .ok (.aload_n 0, 1) := by decide +kernel
theorem dL_trust_366 : decode cL_trust 366 = .ok (.bipush 6, 2) := by decide +kernel
theorem dL_trust_368 : decode cL_trust 368 = .ok (.invokevirtual 73, 3) := by decide +kernel
theorem dL_trust_371 : decode cL_trust 371 = .ok (.ifCond .ne 8, 3) := by decide +kernel
theorem dL_trust_374 : decode cL_trust 374 = .ok (.bipush 7, 2) := by decide +kernel
theorem dL_trust_376 : decode cL_trust 376 = .ok (.goto 4, 3) := by decide +kernel
theorem dL_trust_379 : decode cL_trust 379 = .ok (.iconst 0, 1) := by decide +kernel
theorem dL_trust_380 : decode cL_trust 380 = .ok (.if_icmp .ne 7, 3) := by decide +kernel
theorem dL_trust_383 : decode cL_trust 383 = .ok (.iconst 1, 1) := by decide +kernel
theorem dL_trust_384 : decode cL_trust 384 = .ok (.goto 4, 3) := by decide +kernel
theorem dL_trust_387 : decode cL_trust 387 = .ok (.iconst 0, 1) := by decide +kernel
theorem dL_trust_388 : decode cL_trust 388 = .ok (.ireturn, 1) := by decide +kernel
