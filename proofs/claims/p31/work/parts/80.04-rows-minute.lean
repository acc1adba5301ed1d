set_option maxRecDepth 100000 in
theorem ggL_minute_X9_compass : GoodIn wsL_minute wsX9_compass := goodIn_r _ [14, 15, 16, 17, 18, 19, 20, 21, 22, 23, 24, 25, 26, 27, 28, 29, 30, 31, 32, 33, 34, 35, 36, 37, 38, 39, 40, 41, 42, 43, 44, 45, 13, 46, 47, 48, 49, 50, 51, 52, 53, 54, 55, 56, 57, 58, 59, 60, 61, 62, 63, 64, 65, 66, 67, 68, 69, 70, 71, 72, 73, 74, 75, 76, 77, 78, 79, 80, 81, 82, 83, 84, 85, 86, 87, 88, 89, 90, 91, 92, 93, 94, 95, 96, 97, 98, 99, 100, 101, 102, 362, 363, 364, 365, 366, 367, 368, 369, 370, 371, 372, 373, 374, 375, 376, 377, 378, 379, 380, 381, 382, 383, 384, 385, 386, 387, 388, 389, 390, 391, 392, 393, 394, 395, 396, 397, 398] rfl (by decide +kernel)
set_option maxRecDepth 100000 in
theorem gL_minute_X9_compass : GoodIn wsL_minute (wsV RL 76 RX9 yX9_compass wsX9_compass) := goodIn_app (goodIn_of _ (by decide +kernel)) ggL_minute_X9_compass
set_option maxRecDepth 100000 in
theorem ggL_minute_X9_state : GoodIn wsL_minute wsX9_state := goodIn_r _ [106, 107, 108, 15, 16, 109, 110, 111, 112, 113, 114, 13, 115, 116, 45, 46, 117, 118, 119, 120, 121, 26, 122, 123, 124, 125, 126, 127, 128, 129, 130, 131, 132, 133, 134, 135, 136, 137, 138, 34, 139, 41, 140, 141, 142, 143, 144, 145, 146, 147, 19, 22, 23, 148, 24, 25, 149, 150, 151, 152, 153, 154, 155, 156, 362, 363, 364, 365, 366, 367, 368, 369, 370, 371, 372, 373, 374, 375, 376, 377, 378, 379, 380, 381, 394, 395, 396, 397, 398, 399, 400, 401, 402, 382, 383, 384, 385, 386, 387, 388, 389, 390, 391, 392, 393, 403, 404, 405, 406, 407, 408, 409, 410] rfl (by decide +kernel)
set_option maxRecDepth 100000 in
theorem gL_minute_X9_state : GoodIn wsL_minute (wsV RL 73 RX9 yX9_state wsX9_state) := goodIn_app (goodIn_of _ (by decide +kernel)) ggL_minute_X9_state
set_option maxRecDepth 100000 in
theorem ggL_minute_X9_turn : GoodIn wsL_minute wsX9_turn := goodIn_r _ [160, 15, 19, 22, 23, 161, 162, 163, 30, 113, 114, 13, 115, 116, 45, 46, 362, 363, 364, 365, 366, 367, 368, 369, 370, 371, 372, 373, 374, 382, 383, 384, 385, 386, 387, 388, 389] rfl (by decide +kernel)
set_option maxRecDepth 100000 in
theorem gL_minute_X9_turn : GoodIn wsL_minute (wsV RL 104 RX9 yX9_turn wsX9_turn) := goodIn_app (goodIn_of _ (by decide +kernel)) ggL_minute_X9_turn
set_option maxRecDepth 100000 in
theorem ggL_minute_X9_pass : GoodIn wsL_minute wsX9_pass := goodIn_r _ [167, 15, 121, 168, 155, 19, 148, 169, 170, 13, 171, 172, 113, 114, 115, 173, 174, 175, 176, 177, 178, 179, 180, 181, 182, 55, 183, 184, 185, 186, 187, 34, 188, 189, 190, 191, 192, 193, 194, 36, 195, 196, 131, 37, 197, 198, 199, 41, 200, 201, 75, 202, 203, 204, 205, 206, 207, 208, 209, 210, 211, 212, 133, 213, 214, 215, 216, 217, 218, 219, 220, 221, 222, 223, 224, 225, 226, 227, 228, 229, 230, 231, 232, 233, 234, 99, 77, 91, 90, 235, 236, 237, 238, 239, 102, 240, 241, 242, 243, 244, 245, 246, 247, 248, 249, 250, 143, 251, 252, 253, 254, 255, 256, 257, 258, 259, 260, 261, 262, 263, 264, 265, 266, 267, 268, 269, 270, 271, 272, 273, 274, 275, 276, 277, 278, 279, 280, 281, 282, 283, 284, 285, 286, 101, 287, 288, 289, 290, 291, 292, 293, 294, 295, 296, 297, 298, 38, 299, 300, 51, 52, 53, 54, 56, 57, 65, 66, 67, 68, 58, 59, 60, 61, 62, 63, 45, 46, 301, 32, 33, 35, 39, 40, 42, 43, 44, 47, 48, 49, 50, 64, 69, 70, 71, 302, 303, 304, 305, 306, 307, 308, 309, 310, 311, 312, 313, 314, 315, 316, 317, 318, 319, 320, 321, 322, 323, 324, 325, 326, 327, 328, 329, 330, 331, 332, 333, 334, 335, 134, 336, 337, 338, 339, 135, 340, 341, 342, 343, 344, 345, 346, 347, 348, 349, 362, 363, 364, 365, 366, 367, 368, 369, 370, 371, 372, 373, 374, 382, 383, 384, 385, 386, 387, 408, 409, 410, 394, 395, 396, 397, 398, 375, 376, 377, 378, 379, 380, 381, 390, 391, 392, 393, 399, 400, 401, 402, 388, 389] rfl (by decide +kernel)
set_option maxRecDepth 100000 in
theorem gL_minute_X9_pass : GoodIn wsL_minute (wsV RL 107 RX9 yX9_pass wsX9_pass) := goodIn_app (goodIn_of _ (by decide +kernel)) ggL_minute_X9_pass
set_option maxRecDepth 100000 in
theorem ggL_minute_L_size : GoodIn wsL_minute wsL_size := goodIn_r _ [353] rfl (by decide +kernel)
set_option maxRecDepth 100000 in
theorem gL_minute_L_size : GoodIn wsL_minute (va_wsS RL 98 yL_size wsL_size) := goodIn_app (goodIn_of _ (by decide +kernel)) ggL_minute_L_size
set_option maxRecDepth 100000 in
theorem ggL_minute_X9_wave : GoodIn wsL_minute wsX9_wave := goodIn_r _ [357, 30, 358, 359, 13, 360, 361, 113, 114, 115, 58, 59, 60, 61, 62, 63, 64, 65, 66, 67, 68] rfl (by decide +kernel)
set_option maxRecDepth 100000 in
theorem gL_minute_X9_wave : GoodIn wsL_minute (wsV RL 60 RX9 yX9_wave wsX9_wave) := goodIn_app (goodIn_of _ (by decide +kernel)) ggL_minute_X9_wave
theorem dL_minute_0 : decode cL_minute 0 = .ok (.aload_n 0, 1) := by decide +kernel
theorem dL_minute_1 : decode cL_minute 1 = .ok (.iconst 0, 1) := by decide +kernel
theorem dL_minute_2 : decode cL_minute 2 = .ok (.invokevirtual 76, 3) := by decide +kernel
theorem dL_minute_5 : decode cL_minute 5 = .ok (.istore_n 1, 1) := by decide +kernel
theorem dL_minute_6 : decode cL_minute 6 = .ok (.aload_n 0, 1) := by decide +kernel
theorem dL_minute_7 : decode cL_minute 7 = .ok (.iconst 1, 1) := by decide +kernel
theorem dL_minute_8 : decode cL_minute 8 = .ok (.invokevirtual 76, 3) := by decide +kernel
theorem dL_minute_11 : decode cL_minute 11 = .ok (.istore_n 2, 1) := by decide +kernel
theorem dL_minute_12 : decode cL_minute 12 = .ok (.aload_n 0, 1) := by decide +kernel
theorem dL_minute_13 : decode cL_minute 13 = .ok (.iconst 2, 1) := by decide +kernel
theorem dL_minute_14 : decode cL_minute 14 = .ok (.invokevirtual 76, 3) := by decide +kernel
theorem dL_minute_17 : decode cL_minute 17 = .ok (.istore_n 3, 1) := by decide +kernel
theorem dL_minute_18 : decode cL_minute 18 = .ok (.aload_n 0, 1) := by decide +kernel
theorem dL_minute_19 : decode cL_minute 19 = .ok (.iconst 3, 1) := by decide +kernel
theorem dL_minute_20 : decode cL_minute 20 = .ok (.invokevirtual 76, 3) := by decide +kernel
theorem dL_minute_23 : decode cL_minute 23 = .ok (.istore 4, 2) := by decide +kernel
theorem dL_minute_25 : decode cL_minute 25 = .ok (.aload_n 0, 1) := by decide +kernel
theorem dL_minute_26 : decode cL_minute 26 = .ok (.bipush 8, 2) := by decide +kernel
theorem dL_minute_28 : decode cL_minute 28 = .ok (.invokevirtual 76, 3) := by decide +kernel
theorem dL_minute_31 : decode cL_minute 31 = .ok (.istore 5, 2) := by decide +kernel
theorem dL_minute_33 : decode cL_minute 33 = .ok (.aload_n 0, 1) := by decide +kernel
theorem dL_minute_34 : decode cL_minute 34 = .ok (.iconst 0, 1) := by decide +kernel
theorem dL_minute_35 : decode cL_minute 35 = .ok (.invokevirtual 73, 3) := by decide +kernel
theorem dL_minute_38 : decode cL_minute 38 = .ok (.istore 6, 2) := by decide +kernel
theorem dL_minute_40 : decode cL_minute 40 = .ok (.aload_n 0, 1) := by decide +kernel
theorem dL_minute_41 : decode cL_minute 41 = .ok (.iconst 1, 1) := by decide +kernel
theorem dL_minute_42 : decode cL_minute 42 = .ok (.invokevirtual 73, 3) := by decide +kernel
theorem dL_minute_45 : decode cL_minute 45 = .ok (.istore 7, 2) := by decide +kernel
theorem dL_minute_47 : decode cL_minute 47 = .ok (.aload_n 0, 1) := by decide +kernel
theorem dL_minute_48 : decode cL_minute 48 = .ok (.iconst 2, 1) := by decide +kernel
theorem dL_minute_49 : decode cL_minute 49 = .ok (.invokevirtual 73, 3) := by decide +kernel
theorem dL_minute_52 : decode cL_minute 52 = .ok (.istore 8, 2) := by decide +kernel
theorem dL_minute_54 : decode cL_minute 54 = .ok (.aload_n 0, 1) := by decide +kernel
theorem dL_minute_55 : decode cL_minute 55 = .ok (.iconst 3, 1) := by decide +kernel
theorem dL_minute_56 : decode cL_minute 56 = .ok (.invokevirtual 73, 3) := by decide +kernel
theorem dL_minute_59 : decode cL_minute 59 = .ok (.istore 9, 2) := by decide +kernel
theorem dL_minute_61 : decode cL_minute 61 = .ok (.aload_n 0, 1) := by decide +kernel
theorem dL_minute_62 : decode cL_minute 62 = .ok (.iconst 4, 1) := by decide +kernel
theorem dL_minute_63 : decode cL_minute 63 = .ok (.invokevirtual 73, 3) := by decide +kernel
theorem dL_minute_66 : decode cL_minute 66 = .ok (.istore 10, 2) := by decide +kernel
theorem dL_minute_68 : decode cL_minute 68 = .ok (.aload_n 0, 1) := by decide +kernel
theorem dL_minute_69 : decode cL_minute 69 = .ok (.iconst 5, 1) := by decide +kernel
theorem dL_minute_70 : decode cL_minute 70 = .ok (.invokevirtual 73, 3) := by decide +kernel
theorem dL_minute_73 : decode cL_minute 73 = .ok (.istore 11, 2) := by decide +kernel
theorem dL_minute_75 : decode cL_minute 75 = .ok (.aload_n 0, 1) := by decide +kernel
theorem dL_minute_76 : decode cL_minute 76 = .ok (.bipush 6, 2) := by decide +kernel
theorem dL_minute_78 : decode cL_minute 78 = .ok (.invokevirtual 73, 3) := by decide +kernel
theorem dL_minute_81 : decode cL_minute 81 = .ok (.istore 12, 2) := by decide +kernel
theorem dL_minute_83 : decode cL_minute 83 = .ok (.aload_n 0, 1) := by decide +kernel
theorem dL_minute_84 : decode cL_minute 84 = .ok (.bipush 7, 2) := by decide +kernel
theorem dL_minute_86 : decode cL_minute 86 = .ok (.invokevirtual 73, 3) := by decide +kernel
theorem dL_minute_89 : decode cL_minute 89 = .ok (.istore 13, 2) := by decide +kernel
theorem dL_minute_91 : decode cL_minute 91 = .ok (.aload_n 0, 1) := by decide +kernel
theorem dL_minute_92 : decode cL_minute 92 = .ok (.bipush 8, 2) := by decide +kernel
theorem dL_minute_94 : decode cL_minute 94 = .ok (.iload 12, 2) := by decide +kernel
theorem dL_minute_96 : decode cL_minute 96 = .ok (.iadd, 1) := by decide +kernel
theorem dL_minute_97 : decode cL_minute 97 = .ok (.invokevirtual 73, 3) := by decide +kernel
theorem dL_minute_100 : decode cL_minute 100 = .ok (.istore 14, 2) := by decide +kernel
theorem dL_minute_102 : decode cL_minute 102 = .ok (.aload_n 0, 1) := by decide +kernel
theorem dL_minute_103 : decode cL_minute 103 = .ok (.bipush 13, 2) := by decide +kernel
theorem dL_minute_105 : decode cL_minute 105 = .ok (.invokevirtual 73, 3) := by decide +kernel
theorem dL_minute_108 : decode cL_minute 108 = .ok (.istore 15, 2) := by decide +kernel
theorem dL_minute_110 : decode cL_minute 110 = .ok (.aload_n 0, 1) := by decide +kernel
theorem dL_minute_111 : decode cL_minute 111 = .ok (.bipush 14, 2) := by decide +kernel
theorem dL_minute_113 : decode cL_minute 113 = .ok (.invokevirtual 73, 3) := by decide +kernel
theorem dL_minute_116 : decode cL_minute 116 = .ok (.istore 16, 2) := by decide +kernel
theorem dL_minute_118 : decode cL_minute 118 = .ok (.iload 15, 2) := by decide +kernel
theorem dL_minute_120 : decode cL_minute 120 = .ok (.ifCond .le 12, 3) := by decide +kernel
theorem dL_minute_123 : decode cL_minute 123 = .ok (.aload_n 0, 1) := by decide +kernel
theorem dL_minute_124 : decode cL_minute 124 = .ok (.iconst 0, 1) := by decide +kernel
theorem dL_minute_125 : decode cL_minute 125 = .ok (.iconst 0, 1) := by decide +kernel
theorem dL_minute_126 : decode cL_minute 126 = .ok (.invokevirtual 104, 3) := by decide +kernel
theorem dL_minute_129 : decode cL_minute 129 = .ok (.goto 4, 3) := by decide +kernel
theorem dL_minute_132 : decode cL_minute 132 = .ok (.iconst 0, 1) := by decide +kernel
theorem dL_minute_133 : decode cL_minute 133 = .ok (.istore 17, 2) := by decide +kernel
theorem dL_minute_135 : decode cL_minute 135 = .ok (.aload_n 0, 1) := by decide +kernel
theorem dL_minute_136 : decode cL_minute 136 = .ok (.iconst 1, 1) := by decide +kernel
theorem dL_minute_137 : decode cL_minute 137 = .ok (.invokevirtual 107, 3) := by decide +kernel
theorem dL_minute_140 : decode cL_minute 140 = .ok (.istore 18, 2) := by decide +kernel
theorem dL_minute_142 : decode cL_minute 142 = .ok (.aload_n 0, 1) := by decide +kernel
theorem dL_minute_143 : decode cL_minute 143 = .ok (.bipush 22, 2) := by decide +kernel
theorem dL_minute_145 : decode cL_minute 145 = .ok (.invokevirtual 73, 3) := by decide +kernel
theorem dL_minute_148 : decode cL_minute 148 = .ok (.i2l, 1) := by decide +kernel
theorem dL_minute_149 : decode cL_minute 149 = .ok (.iload_n 1, 1) := by decide +kernel
theorem dL_minute_150 : decode cL_minute 150 = .ok (.iload_n 3, 1) := by decide +kernel
theorem dL_minute_151 : decode cL_minute 151 = .ok (.isub, 1) := by decide +kernel
theorem dL_minute_152 : decode cL_minute 152 = .ok (.i2l, 1) := by decide +kernel
theorem dL_minute_153 : decode cL_minute 153 = .ok (.lmul, 1) := by decide +kernel
theorem dL_minute_154 : decode cL_minute 154 = .ok (.ldc2_w 110, 3) := by decide +kernel
theorem dL_minute_157 : decode cL_minute 157 = .ok (.ldiv, 1) := by decide +kernel
theorem dL_minute_158 : decode cL_minute 158 = .ok (.aload_n 0, 1) := by decide +kernel
theorem dL_minute_159 : decode cL_minute 159 = .ok (.iload 5, 2) := by decide +kernel
theorem dL_minute_161 : decode cL_minute 161 = .ok (.invokestatic 98, 3) := by decide +kernel
theorem dL_minute_164 : decode cL_minute 164 = .ok (.sipush 10000, 3) := by decide +kernel
theorem dL_minute_167 : decode cL_minute 167 = .ok (.idiv, 1) := by decide +kernel
theorem dL_minute_168 : decode cL_minute 168 = .ok (.iconst 1, 1) := by decide +kernel
theorem dL_minute_169 : decode cL_minute 169 = .ok (.invokevirtual 60, 3) := by decide +kernel
theorem dL_minute_172 : decode cL_minute 172 = .ok (.i2l, 1) := by decide +kernel
theorem dL_minute_173 : decode cL_minute 173 = .ok (.lmul, 1) := by decide +kernel
theorem dL_minute_174 : decode cL_minute 174 = .ok (.ldc2_w 112, 3) := by decide +kernel
theorem dL_minute_177 : decode cL_minute 177 = .ok (.ldiv, 1) := by decide +kernel
theorem dL_minute_178 : decode cL_minute 178 = .ok (.lstore 19, 2) := by decide +kernel
theorem dL_minute_180 : decode cL_minute 180 = .ok (.iload_n 2, 1) := by decide +kernel
theorem dL_minute_181 : decode cL_minute 181 = .ok (.i2l, 1) := by decide +kernel
theorem dL_minute_182 : decode cL_minute 182 = .ok (.lload 19, 2) := by decide +kernel
theorem dL_minute_184 : decode cL_minute 184 = .ok (.lsub, 1) := by decide +kernel
theorem dL_minute_185 : decode cL_minute 185 = .ok (.lstore 21, 2) := by decide +kernel
theorem dL_minute_187 : decode cL_minute 187 = .ok (.lload 21, 2) := by decide +kernel
theorem dL_minute_189 : decode cL_minute 189 = .ok (.lload 21, 2) := by decide +kernel
theorem dL_minute_191 : decode cL_minute 191 = .ok (.iload 12, 2) := by decide +kernel
theorem dL_minute_193 : decode cL_minute 193 = .ok (.ifCond .ne 7, 3) := by decide +kernel
theorem dL_minute_196 : decode cL_minute 196 = .ok (.iconst 0, 1) := by decide +kernel
theorem dL_minute_197 : decode cL_minute 197 = .ok (.goto 10, 3) := by decide +kernel
theorem dL_minute_200 : decode cL_minute 200 = .ok (.bipush 10, 2) := by decide +kernel
theorem dL_minute_202 : decode cL_minute 202 = .ok (.iload 12, 2) := by decide +kernel
theorem dL_minute_204 : decode cL_minute 204 = .ok (.iconst 1, 1) := by decide +kernel
theorem dL_minute_205 : decode cL_minute 205 = .ok (.isub, 1) := by decide +kernel
theorem dL_minute_206 : decode cL_minute 206 = .ok (.ishl, 1) := by decide +kernel
theorem dL_minute_207 : decode cL_minute 207 = .ok (.i2l, 1) := by decide +kernel
theorem dL_minute_208 : decode cL_minute 208 = .ok (.lmul, 1) := by decide +kernel
theorem dL_minute_209 : decode cL_minute 209 = .ok (.ldc2_w 110, 3) := by decide +kernel
theorem dL_minute_212 : decode cL_minute 212 = .ok (.ldiv, 1) := by decide +kernel
theorem dL_minute_213 : decode cL_minute 213 = .ok (.lsub, 1) := by decide +kernel
theorem dL_minute_214 : decode cL_minute 214 = .ok (.lstore 21, 2) := by decide +kernel
theorem dL_minute_216 : decode cL_minute 216 = .ok (.lload 21, 2) := by decide +kernel
theorem dL_minute_218 : decode cL_minute 218 = .ok (.ldc2_w 114, 3) := by decide +kernel
theorem dL_minute_221 : decode cL_minute 221 = .ok (.lcmp, 1) := by decide +kernel
theorem dL_minute_222 : decode cL_minute 222 = .ok (.ifCond .le 9, 3) := by decide +kernel
theorem dL_minute_225 : decode cL_minute 225 = .ok (.ldc2_w 114, 3) := by decide +kernel
theorem dL_minute_228 : decode cL_minute 228 = .ok (.goto 20, 3) := by decide +kernel
theorem dL_minute_231 : decode cL_minute 231 = .ok (.lload 21, 2) := by decide +kernel
theorem dL_minute_233 : decode cL_minute 233 = .ok (.ldc2_w 116, 3) := by decide +kernel
theorem dL_minute_236 : decode cL_minute 236 = .ok (.lcmp, 1) := by decide +kernel
theorem dL_minute_237 : decode cL_minute 237 = .ok (.ifCond .ge 9, 3) := by decide +kernel
theorem dL_minute_240 : decode cL_minute 240 = .ok (.ldc2_w 116, 3) := by decide +kernel
theorem dL_minute_243 : decode cL_minute 243 = .ok (.goto 5, 3) := by decide +kernel
theorem dL_minute_246 : decode cL_minute 246 = .ok (.lload 21, 2) := by decide +kernel
theorem dL_minute_248 : decode cL_minute 248 = .ok (.lstore 21, 2) := by decide +kernel
theorem dL_minute_250 : decode cL_minute 250 = .ok (.iload_n 1, 1) := by decide +kernel
theorem dL_minute_251 : decode cL_minute 251 = .ok (.i2l, 1) := by decide +kernel
theorem dL_minute_252 : decode cL_minute 252 = .ok (.aload_n 0, 1) := by decide +kernel
theorem dL_minute_253 : decode cL_minute 253 = .ok (.bipush 23, 2) := by decide +kernel
theorem dL_minute_255 : decode cL_minute 255 = .ok (.invokevirtual 73, 3) := by decide +kernel
theorem dL_minute_258 : decode cL_minute 258 = .ok (.i2l, 1) := by decide +kernel
theorem dL_minute_259 : decode cL_minute 259 = .ok (.lload 21, 2) := by decide +kernel
theorem dL_minute_261 : decode cL_minute 261 = .ok (.lmul, 1) := by decide +kernel
theorem dL_minute_262 : decode cL_minute 262 = .ok (.ldc2_w 110, 3) := by decide +kernel
theorem dL_minute_265 : decode cL_minute 265 = .ok (.ldiv, 1) := by decide +kernel
theorem dL_minute_266 : decode cL_minute 266 = .ok (.ladd, 1) := by decide +kernel
theorem dL_minute_267 : decode cL_minute 267 = .ok (.lstore 23, 2) := by decide +kernel
theorem dL_minute_269 : decode cL_minute 269 = .ok (.lload 23, 2) := by decide +kernel
theorem dL_minute_271 : decode cL_minute 271 = .ok (.ldc2_w 118, 3) := by decide +kernel
theorem dL_minute_274 : decode cL_minute 274 = .ok (.lcmp, 1) := by decide +kernel
theorem dL_minute_275 : decode cL_minute 275 = .ok (.ifCond .le 9, 3) := by decide +kernel
theorem dL_minute_278 : decode cL_minute 278 = .ok (.ldc2_w 118, 3) := by decide +kernel
theorem dL_minute_281 : decode cL_minute 281 = .ok (.goto 20, 3) := by decide +kernel
theorem dL_minute_284 : decode cL_minute 284 = .ok (.lload 23, 2) := by decide +kernel
theorem dL_minute_286 : decode cL_minute 286 = .ok (.ldc2_w 120, 3) := by decide +kernel
theorem dL_minute_289 : decode cL_minute 289 = .ok (.lcmp, 1) := by decide +kernel
theorem dL_minute_290 : decode cL_minute 290 = .ok (.ifCond .ge 9, 3) := by decide +kernel
theorem dL_minute_293 : decode cL_minute 293 = .ok (.ldc2_w 120, 3) := by decide +kernel
theorem dL_minute_296 : decode cL_minute 296 = .ok (.goto 5, 3) := by decide +kernel
theorem dL_minute_299 : decode cL_minute 299 = .ok (.lload 23, 2) := by decide +kernel
theorem dL_minute_301 : decode cL_minute 301 = .ok (.lstore 23, 2) := by decide +kernel
theorem dL_minute_303 : decode cL_minute 303 = .ok (.lload 23, 2) := by decide +kernel
theorem dL_minute_305 : decode cL_minute 305 = .ok (.iload_n 1, 1) := by decide +kernel
theorem dL_minute_306 : decode cL_minute 306 = .ok (.i2l, 1) := by decide +kernel
theorem dL_minute_307 : decode cL_minute 307 = .ok (.lcmp, 1) := by decide +kernel
theorem dL_minute_308 : decode cL_minute 308 = .ok (.ifCond .le 7, 3) := by decide +kernel
theorem dL_minute_311 : decode cL_minute 311 = .ok (.iconst 1, 1) := by decide +kernel
theorem dL_minute_312 : decode cL_minute 312 = .ok (.goto 16, 3) := by decide +kernel
theorem dL_minute_315 : decode cL_minute 315 = .ok (.lload 23, 2) := by decide +kernel
theorem dL_minute_317 : decode cL_minute 317 = .ok (.iload_n 1, 1) := by decide +kernel
theorem dL_minute_318 : decode cL_minute 318 = .ok (.i2l, 1) := by decide +kernel
theorem dL_minute_319 : decode cL_minute 319 = .ok (.lcmp, 1) := by decide +kernel
theorem dL_minute_320 : decode cL_minute 320 = .ok (.ifCond .ge 7, 3) := by decide +kernel
theorem dL_minute_323 : decode cL_minute 323 = .ok (.iconst (-1), 1) := by decide +kernel
theorem dL_minute_324 : decode cL_minute 324 = .ok (.goto 4, 3) := by decide +kernel
theorem dL_minute_327 : decode cL_minute 327 = .ok (.iconst 0, 1) := by decide +kernel
theorem dL_minute_328 : decode cL_minute 328 = .ok (.istore 25, 2) := by decide +kernel
theorem dL_minute_330 : decode cL_minute 330 = .ok (.iload 25, 2) := by decide +kernel
theorem dL_minute_332 : decode cL_minute 332 = .ok (.ifCond .eq 15, 3) := by decide +kernel
theorem dL_minute_335 : decode cL_minute 335 = .ok (.iload 4, 2) := by decide +kernel
theorem dL_minute_337 : decode cL_minute 337 = .ok (.iload 25, 2) := by decide +kernel
theorem dL_minute_339 : decode cL_minute 339 = .ok (.ineg, 1) := by decide +kernel
theorem dL_minute_340 : decode cL_minute 340 = .ok (.if_icmp .ne 7, 3) := by decide +kernel
theorem dL_minute_343 : decode cL_minute 343 = .ok (.iconst 1, 1) := by decide +kernel
theorem dL_minute_344 : decode cL_minute 344 = .ok (.goto 4, 3) := by decide +kernel
theorem dL_minute_347 : decode cL_minute 347 = .ok (.iconst 0, 1) := by decide +kernel
theorem dL_minute_348 : decode cL_minute 348 = .ok (.istore 26, 2) := by decide +kernel
theorem dL_minute_350 : decode cL_minute 350 = .ok (.aload_n 0, 1) := by decide +kernel
theorem dL_minute_351 : decode cL_minute 351 = .ok (.iconst 1, 1) := by decide +kernel
theorem dL_minute_352 : decode cL_minute 352 = .ok (.invokevirtual 76, 3) := by decide +kernel
theorem dL_minute_355 : decode cL_minute 355 = .ok (.i2l, 1) := by decide +kernel
theorem dL_minute_356 : decode cL_minute 356 = .ok (.lload 21, 2) := by decide +kernel
theorem dL_minute_358 : decode cL_minute 358 = .ok (.lcmp, 1) := by decide +kernel
theorem dL_minute_359 : decode cL_minute 359 = .ok (.ifCond .ne 94, 3) := by decide +kernel
theorem dL_minute_362 : decode cL_minute 362 = .ok (.aload_n 0, 1) := by decide +kernel
theorem dL_minute_363 : decode cL_minute 363 = .ok (.iconst 0, 1) := by decide +kernel
theorem dL_minute_364 : decode cL_minute 364 = .ok (.invokevirtual 76, 3) := by decide +kernel
theorem dL_minute_367 : decode cL_minute 367 = .ok (.i2l, 1) := by decide +kernel
theorem dL_minute_368 : decode cL_minute 368 = .ok (.lload 23, 2) := by decide +kernel
theorem dL_minute_370 : decode cL_minute 370 = .ok (.lcmp, 1) := by decide +kernel
theorem dL_minute_371 : decode cL_minute 371 = .ok (.ifCond .ne 82, 3) := by decide +kernel
theorem dL_minute_374 : decode cL_minute 374 = .ok (.aload_n 0, 1) := by decide +kernel
theorem dL_minute_375 : decode cL_minute 375 = .ok (.iconst 3, 1) := by decide +kernel
theorem dL_minute_376 : decode cL_minute 376 = .ok (.invokevirtual 76, 3) := by decide +kernel
theorem dL_minute_379 : decode cL_minute 379 = .ok (.iload 25, 2) := by decide +kernel
theorem dL_minute_381 : decode cL_minute 381 = .ok (.ifCond .ne 8, 3) := by decide +kernel
theorem dL_minute_384 : decode cL_minute 384 = .ok (.iload 4, 2) := by decide +kernel
theorem dL_minute_386 : decode cL_minute 386 = .ok (.goto 5, 3) := by decide +kernel
theorem dL_minute_389 : decode cL_minute 389 = .ok (.iload 25, 2) := by decide +kernel
theorem dL_minute_391 : decode cL_minute 391 = .ok (.if_icmp .ne 62, 3) := by decide +kernel
theorem dL_minute_394 : decode cL_minute 394 = .ok (.iload 18, 2) := by decide +kernel
theorem dL_minute_396 : decode cL_minute 396 = .ok (.iload 26, 2) := by decide +kernel
theorem dL_minute_398 : decode cL_minute 398 = .ok (.ifCond .eq 7, 3) := by decide +kernel
theorem dL_minute_401 : decode cL_minute 401 = .ok (.iconst 1, 1) := by decide +kernel
theorem dL_minute_402 : decode cL_minute 402 = .ok (.goto 4, 3) := by decide +kernel
theorem dL_minute_405 : decode cL_minute 405 = .ok (.iconst 0, 1) := by decide +kernel
theorem dL_minute_406 : decode cL_minute 406 = .ok (.if_icmp .ne 47, 3) := by decide +kernel
theorem dL_minute_409 : decode cL_minute 409 = .ok (.aload_n 0, 1) := by decide +kernel
theorem dL_minute_410 : decode cL_minute 410 = .ok (.bipush 14, 2) := by decide +kernel
theorem dL_minute_412 : decode cL_minute 412 = .ok (.invokevirtual 73, 3) := by decide +kernel
theorem dL_minute_415 : decode cL_minute 415 = .ok (.iload 16, 2) := by decide +kernel
theorem dL_minute_417 : decode cL_minute 417 = .ok (.iload 18, 2) := by decide +kernel
theorem dL_minute_419 : decode cL_minute 419 = .ok (.iadd, 1) := by decide +kernel
theorem dL_minute_420 : decode cL_minute 420 = .ok (.if_icmp .ne 33, 3) := by decide +kernel
theorem dL_minute_423 : decode cL_minute 423 = .ok (.aload_n 0, 1) := by decide +kernel
theorem dL_minute_424 : decode cL_minute 424 = .ok (.bipush 13, 2) := by decide +kernel
theorem dL_minute_426 : decode cL_minute 426 = .ok (.invokevirtual 73, 3) := by decide +kernel
theorem dL_minute_429 : decode cL_minute 429 = .ok (.iload 26, 2) := by decide +kernel
theorem dL_minute_431 : decode cL_minute 431 = .ok (.ifCond .eq 17, 3) := by decide +kernel
theorem dL_minute_434 : decode cL_minute 434 = .ok (.iload 15, 2) := by decide +kernel
theorem dL_minute_436 : decode cL_minute 436 = .ok (.bipush 8, 2) := by decide +kernel
theorem dL_minute_438 : decode cL_minute 438 = .ok (.if_icmp .ge 10, 3) := by decide +kernel
theorem dL_minute_441 : decode cL_minute 441 = .ok (.iload 15, 2) := by decide +kernel
theorem dL_minute_443 : decode cL_minute 443 = .ok (.iconst 1, 1) := by decide +kernel
theorem dL_minute_444 : decode cL_minute 444 = .ok (.iadd, 1) := by decide +kernel
theorem dL_minute_445 : decode cL_minute 445 = .ok (.goto 5, 3) := by decide +kernel
theorem dL_minute_448 : decode cL_minute 448 = .ok (.iload 15, 2) := by decide +kernel
theorem dL_minute_450 : decode cL_minute 450 = .ok (.if_icmp .eq 5, 3) := by decide +kernel
theorem dL_minute_453 : decode cL_minute 453 = .ok (.iconst 0, 1) := by decide +kernel
theorem dL_minute_454 : decode cL_minute 454 = .ok (.ireturn, 1) := by decide +kernel
theorem dL_minute_455 : decode cL_minute 455 = .ok (.iload 26, 2) := by decide +kernel
theorem dL_minute_457 : decode cL_minute 457 = .ok (.ifCond .eq 40, 3) := by decide +kernel
theorem dL_minute_460 : decode cL_minute 460 = .ok (.aload_n 0, 1) := by decide +kernel
theorem dL_minute_461 : decode cL_minute 461 = .ok (.iconst 0, 1) := by decide +kernel
theorem dL_minute_462 : decode cL_minute 462 = .ok (.iconst 0, 1) := by decide +kernel
theorem dL_minute_463 : decode cL_minute 463 = .ok (.invokevirtual 104, 3) := by decide +kernel
theorem dL_minute_466 : decode cL_minute 466 = .ok (.iload_n 1, 1) := by decide +kernel
theorem dL_minute_467 : decode cL_minute 467 = .ok (.if_icmp .ne 51, 3) := by decide +kernel
theorem dL_minute_470 : decode cL_minute 470 = .ok (.aload_n 0, 1) := by decide +kernel
theorem dL_minute_471 : decode cL_minute 471 = .ok (.iconst 0, 1) := by decide +kernel
theorem dL_minute_472 : decode cL_minute 472 = .ok (.iconst 1, 1) := by decide +kernel
theorem dL_minute_473 : decode cL_minute 473 = .ok (.invokevirtual 104, 3) := by decide +kernel
theorem dL_minute_476 : decode cL_minute 476 = .ok (.iload 6, 2) := by decide +kernel
theorem dL_minute_478 : decode cL_minute 478 = .ok (.if_icmp .ne 40, 3) := by decide +kernel
theorem dL_minute_481 : decode cL_minute 481 = .ok (.iload 15, 2) := by decide +kernel
theorem dL_minute_483 : decode cL_minute 483 = .ok (.ifCond .le 14, 3) := by decide +kernel
theorem dL_minute_486 : decode cL_minute 486 = .ok (.aload_n 0, 1) := by decide +kernel
theorem dL_minute_487 : decode cL_minute 487 = .ok (.iconst 1, 1) := by decide +kernel
theorem dL_minute_488 : decode cL_minute 488 = .ok (.iconst 0, 1) := by decide +kernel
theorem dL_minute_489 : decode cL_minute 489 = .ok (.invokevirtual 104, 3) := by decide +kernel
theorem dL_minute_492 : decode cL_minute 492 = .ok (.iload 17, 2) := by decide +kernel
theorem dL_minute_494 : decode cL_minute 494 = .ok (.if_icmp .ne 24, 3) := by decide +kernel
theorem dL_minute_497 : decode cL_minute 497 = .ok (.iload 26, 2) := by decide +kernel
theorem dL_minute_499 : decode cL_minute 499 = .ok (.ifCond .ne 21, 3) := by decide +kernel
theorem dL_minute_502 : decode cL_minute 502 = .ok (.iload 15, 2) := by decide +kernel
theorem dL_minute_504 : decode cL_minute 504 = .ok (.ifCond .le 16, 3) := by decide +kernel
theorem dL_minute_507 : decode cL_minute 507 = .ok (.aload_n 0, 1) := by decide +kernel
theorem dL_minute_508 : decode cL_minute 508 = .ok (.iconst 0, 1) := by decide +kernel
theorem dL_minute_509 : decode cL_minute 509 = .ok (.iconst 0, 1) := by decide +kernel
theorem dL_minute_510 : decode cL_minute 510 = .ok (.invokevirtual 104, 3) := by decide +kernel
theorem dL_minute_513 : decode cL_minute 513 = .ok (.iload 17, 2) := by decide +kernel
theorem dL_minute_515 : decode cL_minute 515 = .ok (.if_icmp .eq 5, 3) := by decide +kernel
theorem dL_minute_518 : decode cL_minute 518 = .ok (.iconst 0, 1) := by decide +kernel
theorem dL_minute_519 : decode cL_minute 519 = .ok (.ireturn, 1) := by decide +kernel
theorem dL_minute_520 : decode cL_minute 520 = .ok (.iload 5, 2) := by decide +kernel
theorem dL_minute_522 : decode cL_minute 522 = .ok (.i2l, 1) := by decide +kernel
theorem dL_minute_523 : decode cL_minute 523 = .ok (.iload 8, 2) := by decide +kernel
theorem dL_minute_525 : decode cL_minute 525 = .ok (.i2l, 1) := by decide +kernel
theorem dL_minute_526 : decode cL_minute 526 = .ok (.ldc2_w 122, 3) := by decide +kernel
theorem dL_minute_529 : decode cL_minute 529 = .ok (.lmul, 1) := by decide +kernel
theorem dL_minute_530 : decode cL_minute 530 = .ok (.aload_n 0, 1) := by decide +kernel
theorem dL_minute_531 : decode cL_minute 531 = .ok (.iload 7, 2) := by decide +kernel
theorem dL_minute_533 : decode cL_minute 533 = .ok (.iconst 1, 1) := by decide +kernel
theorem dL_minute_534 : decode cL_minute 534 = .ok (.invokevirtual 60, 3) := by decide +kernel
theorem dL_minute_537 : decode cL_minute 537 = .ok (.i2l, 1) := by decide +kernel
theorem dL_minute_538 : decode cL_minute 538 = .ok (.lmul, 1) := by decide +kernel
theorem dL_minute_539 : decode cL_minute 539 = .ok (.ldc2_w 112, 3) := by decide +kernel
theorem dL_minute_542 : decode cL_minute 542 = .ok (.ldiv, 1) := by decide +kernel
theorem dL_minute_543 : decode cL_minute 543 = .ok (.ladd, 1) := by decide +kernel
theorem dL_minute_544 : decode cL_minute 544 = .ok (.lstore 27, 2) := by decide +kernel
theorem dL_minute_546 : decode cL_minute 546 = .ok (.lload 27, 2) := by decide +kernel
theorem dL_minute_548 : decode cL_minute 548 = .ok (.ldc2_w 124, 3) := by decide +kernel
theorem dL_minute_551 : decode cL_minute 551 = .ok (.lcmp, 1) := by decide +kernel
theorem dL_minute_552 : decode cL_minute 552 = .ok (.ifCond .le 9, 3) := by decide +kernel
theorem dL_minute_555 : decode cL_minute 555 = .ok (.ldc2_w 124, 3) := by decide +kernel
theorem dL_minute_558 : decode cL_minute 558 = .ok (.goto 20, 3) := by decide +kernel
theorem dL_minute_561 : decode cL_minute 561 = .ok (.lload 27, 2) := by decide +kernel
theorem dL_minute_563 : decode cL_minute 563 = .ok (.ldc2_w 126, 3) := by decide +kernel
theorem dL_minute_566 : decode cL_minute 566 = .ok (.lcmp, 1) := by decide +kernel
theorem dL_minute_567 : decode cL_minute 567 = .ok (.ifCond .ge 9, 3) := by decide +kernel
theorem dL_minute_570 : decode cL_minute 570 = .ok (.ldc2_w 126, 3) := by decide +kernel
theorem dL_minute_573 : decode cL_minute 573 = .ok (.goto 5, 3) := by decide +kernel
theorem dL_minute_576 : decode cL_minute 576 = .ok (.lload 27, 2) := by decide +kernel
theorem dL_minute_578 : decode cL_minute 578 = .ok (.lstore 27, 2) := by decide +kernel
theorem dL_minute_580 : decode cL_minute 580 = .ok (.aload_n 0, 1) := by decide +kernel
theorem dL_minute_581 : decode cL_minute 581 = .ok (.bipush 8, 2) := by decide +kernel
theorem dL_minute_583 : decode cL_minute 583 = .ok (.invokevirtual 76, 3) := by decide +kernel
theorem dL_minute_586 : decode cL_minute 586 = .ok (.i2l, 1) := by decide +kernel
theorem dL_minute_587 : decode cL_minute 587 = .ok (.lload 27, 2) := by decide +kernel
theorem dL_minute_589 : decode cL_minute 589 = .ok (.lcmp, 1) := by decide +kernel
theorem dL_minute_590 : decode cL_minute 590 = .ok (.ifCond .ne 67, 3) := by decide +kernel
theorem dL_minute_593 : decode cL_minute 593 = .ok (.aload_n 0, 1) := by decide +kernel
theorem dL_minute_594 : decode cL_minute 594 = .ok (.iconst 0, 1) := by decide +kernel
theorem dL_minute_595 : decode cL_minute 595 = .ok (.invokevirtual 73, 3) := by decide +kernel
theorem dL_minute_598 : decode cL_minute 598 = .ok (.iload 6, 2) := by decide +kernel
theorem dL_minute_600 : decode cL_minute 600 = .ok (.iconst 1, 1) := by decide +kernel
theorem dL_minute_601 : decode cL_minute 601 = .ok (.iadd, 1) := by decide +kernel
theorem dL_minute_602 : decode cL_minute 602 = .ok (.if_icmp .ne 55, 3) := by decide +kernel
theorem dL_minute_605 : decode cL_minute 605 = .ok (.aload_n 0, 1) := by decide +kernel
theorem dL_minute_606 : decode cL_minute 606 = .ok (.iconst 5, 1) := by decide +kernel
theorem dL_minute_607 : decode cL_minute 607 = .ok (.invokevirtual 73, 3) := by decide +kernel
theorem dL_minute_610 : decode cL_minute 610 = .ok (.iload 11, 2) := by decide +kernel
theorem dL_minute_612 : decode cL_minute 612 = .ok (.iload 8, 2) := by decide +kernel
theorem dL_minute_614 : decode cL_minute 614 = .ok (.iadd, 1) := by decide +kernel
theorem dL_minute_615 : decode cL_minute 615 = .ok (.if_icmp .ne 42, 3) := by decide +kernel
theorem dL_minute_618 : decode cL_minute 618 = .ok (.aload_n 0, 1) := by decide +kernel
theorem dL_minute_619 : decode cL_minute 619 = .ok (.bipush 8, 2) := by decide +kernel
theorem dL_minute_621 : decode cL_minute 621 = .ok (.iload 12, 2) := by decide +kernel
theorem dL_minute_623 : decode cL_minute 623 = .ok (.iadd, 1) := by decide +kernel
theorem dL_minute_624 : decode cL_minute 624 = .ok (.invokevirtual 73, 3) := by decide +kernel
theorem dL_minute_627 : decode cL_minute 627 = .ok (.iload 14, 2) := by decide +kernel
theorem dL_minute_629 : decode cL_minute 629 = .ok (.iconst 1, 1) := by decide +kernel
theorem dL_minute_630 : decode cL_minute 630 = .ok (.iadd, 1) := by decide +kernel
theorem dL_minute_631 : decode cL_minute 631 = .ok (.if_icmp .ne 26, 3) := by decide +kernel
theorem dL_minute_634 : decode cL_minute 634 = .ok (.aload_n 0, 1) := by decide +kernel
theorem dL_minute_635 : decode cL_minute 635 = .ok (.bipush 7, 2) := by decide +kernel
theorem dL_minute_637 : decode cL_minute 637 = .ok (.invokevirtual 73, 3) := by decide +kernel
theorem dL_minute_640 : decode cL_minute 640 = .ok (.iload 13, 2) := by decide +kernel
theorem dL_minute_642 : decode cL_minute 642 = .ok (.ifCond .ge 8, 3) := by decide +kernel
theorem dL_minute_645 : decode cL_minute 645 = .ok (.bipush (-6), 2) := by decide +kernel
theorem dL_minute_647 : decode cL_minute 647 = .ok (.goto 7, 3) := by decide +kernel
theorem dL_minute_650 : decode cL_minute 650 = .ok (.iload 13, 2) := by decide +kernel
theorem dL_minute_652 : decode cL_minute 652 = .ok (.iconst 1, 1) := by decide +kernel
theorem dL_minute_653 : decode cL_minute 653 = .ok (.iadd, 1) := by decide +kernel
theorem dL_minute_654 : decode cL_minute 654 = .ok (.if_icmp .eq 5, 3) := by decide +kernel
theorem dL_minute_657 : decode cL_minute 657 = .ok (.iconst 0, 1) := by decide +kernel
theorem dL_minute_658 : decode cL_minute 658 = .ok (.ireturn, 1) := by decide +kernel
theorem dL_minute_659 : decode cL_minute 659 = .ok (.iload 9, 2) := by decide +kernel
theorem dL_minute_661 : decode cL_minute 661 = .ok (.ifCond .ne 37, 3) := by decide +kernel
theorem dL_minute_664 : decode cL_minute 664 = .ok (.aload_n 0, 1) := by decide +kernel
theorem dL_minute_665 : decode cL_minute 665 = .ok (.iconst 1, 1) := by decide +kernel
theorem dL_minute_666 : decode cL_minute 666 = .ok (.invokevirtual 73, 3) := by decide +kernel
theorem dL_minute_669 : decode cL_minute 669 = .ok (.iload 7, 2) := by decide +kernel
theorem dL_minute_671 : decode cL_minute 671 = .ok (.if_icmp .ne 25, 3) := by decide +kernel
theorem dL_minute_674 : decode cL_minute 674 = .ok (.aload_n 0, 1) := by decide +kernel
theorem dL_minute_675 : decode cL_minute 675 = .ok (.iconst 2, 1) := by decide +kernel
theorem dL_minute_676 : decode cL_minute 676 = .ok (.invokevirtual 73, 3) := by decide +kernel
theorem dL_minute_679 : decode cL_minute 679 = .ok (.iload 8, 2) := by decide +kernel
theorem dL_minute_681 : decode cL_minute 681 = .ok (.if_icmp .ne 15, 3) := by decide +kernel
theorem dL_minute_684 : decode cL_minute 684 = .ok (.aload_n 0, 1) := by decide +kernel
theorem dL_minute_685 : decode cL_minute 685 = .ok (.iconst 3, 1) := by decide +kernel
theorem dL_minute_686 : decode cL_minute 686 = .ok (.invokevirtual 73, 3) := by decide +kernel
theorem dL_minute_689 : decode cL_minute 689 = .ok (.ifCond .ne 7, 3) := by decide +kernel
theorem dL_minute_692 : decode cL_minute 692 = .ok (.iconst 1, 1) := by decide +kernel
theorem dL_minute_693 : decode cL_minute 693 = .ok (.goto 4, 3) := by decide +kernel
theorem dL_minute_696 : decode cL_minute 696 = .ok (.iconst 0, 1) := by decide +kernel
theorem dL_minute_697 : decode cL_minute 697 = .ok (.ireturn, 1) := by decide +kernel
theorem dL_minute_698 : decode cL_minute 698 = .ok (.iload 10, 2) := by decide +kernel
theorem dL_minute_700 : decode cL_minute 700 = .ok (.iconst 1, 1) := by decide +kernel
theorem dL_minute_701 : decode cL_minute 701 = .ok (.if_icmp .le 51, 3) := by decide +kernel
theorem dL_minute_704 : decode cL_minute 704 = .ok (.aload_n 0, 1) := by decide +kernel
theorem dL_minute_705 : decode cL_minute 705 = .ok (.iconst 3, 1) := by decide +kernel
theorem dL_minute_706 : decode cL_minute 706 = .ok (.invokevirtual 73, 3) := by decide +kernel
theorem dL_minute_709 : decode cL_minute 709 = .ok (.iload 9, 2) := by decide +kernel
theorem dL_minute_711 : decode cL_minute 711 = .ok (.if_icmp .ne 39, 3) := by decide +kernel
theorem dL_minute_714 : decode cL_minute 714 = .ok (.aload_n 0, 1) := by decide +kernel
theorem dL_minute_715 : decode cL_minute 715 = .ok (.iconst 4, 1) := by decide +kernel
theorem dL_minute_716 : decode cL_minute 716 = .ok (.invokevirtual 73, 3) := by decide +kernel
theorem dL_minute_719 : decode cL_minute 719 = .ok (.iload 10, 2) := by decide +kernel
theorem dL_minute_721 : decode cL_minute 721 = .ok (.iconst 1, 1) := by decide +kernel
theorem dL_minute_722 : decode cL_minute 722 = .ok (.isub, 1) := by decide +kernel
theorem dL_minute_723 : decode cL_minute 723 = .ok (.if_icmp .ne 27, 3) := by decide +kernel
theorem dL_minute_726 : decode cL_minute 726 = .ok (.aload_n 0, 1) := by decide +kernel
theorem dL_minute_727 : decode cL_minute 727 = .ok (.iconst 1, 1) := by decide +kernel
theorem dL_minute_728 : decode cL_minute 728 = .ok (.invokevirtual 73, 3) := by decide +kernel
theorem dL_minute_731 : decode cL_minute 731 = .ok (.iload 7, 2) := by decide +kernel
theorem dL_minute_733 : decode cL_minute 733 = .ok (.if_icmp .ne 17, 3) := by decide +kernel
theorem dL_minute_736 : decode cL_minute 736 = .ok (.aload_n 0, 1) := by decide +kernel
theorem dL_minute_737 : decode cL_minute 737 = .ok (.iconst 2, 1) := by decide +kernel
theorem dL_minute_738 : decode cL_minute 738 = .ok (.invokevirtual 73, 3) := by decide +kernel
theorem dL_minute_741 : decode cL_minute 741 = .ok (.iload 8, 2) := by decide +kernel
theorem dL_minute_743 : decode cL_minute 743 = .ok (.if_icmp .ne 7, 3) := by decide +kernel
theorem dL_minute_746 : decode cL_minute 746 = .ok (.iconst 1, 1) := by decide +kernel
theorem dL_minute_747 : decode cL_minute 747 = .ok (.goto 4, 3) := by decide +kernel
theorem dL_minute_750 : decode cL_minute 750 = .ok (.iconst 0, 1) := by decide +kernel
theorem dL_minute_751 : decode cL_minute 751 = .ok (.ireturn, 1) := by decide +kernel
theorem dL_minute_752 : decode cL_minute 752 = .ok (.aload_n 0, 1) := by decide +kernel
theorem dL_minute_753 : decode cL_minute 753 = .ok (.iconst 3, 1) := by decide +kernel
theorem dL_minute_754 : decode cL_minute 754 = .ok (.invokevirtual 73, 3) := by decide +kernel
theorem dL_minute_757 : decode cL_minute 757 = .ok (.iload 9, 2) := by decide +kernel
theorem dL_minute_759 : decode cL_minute 759 = .ok (.iconst 1, 1) := by decide +kernel
theorem dL_minute_760 : decode cL_minute 760 = .ok (.isub, 1) := by decide +kernel
theorem dL_minute_761 : decode cL_minute 761 = .ok (.if_icmp .ne 39, 3) := by decide +kernel
theorem dL_minute_764 : decode cL_minute 764 = .ok (.iload 9, 2) := by decide +kernel
theorem dL_minute_766 : decode cL_minute 766 = .ok (.iconst 1, 1) := by decide +kernel
theorem dL_minute_767 : decode cL_minute 767 = .ok (.if_icmp .gt 29, 3) := by decide +kernel
theorem dL_minute_770 : decode cL_minute 770 = .ok (.aload_n 0, 1) := by decide +kernel
theorem dL_minute_771 : decode cL_minute 771 = .ok (.iconst 1, 1) := by decide +kernel
theorem dL_minute_772 : decode cL_minute 772 = .ok (.invokevirtual 73, 3) := by decide +kernel
theorem dL_minute_775 : decode cL_minute 775 = .ok (.iload 7, 2) := by decide +kernel
theorem dL_minute_777 : decode cL_minute 777 = .ok (.if_icmp .ne 23, 3) := by decide +kernel
theorem dL_minute_780 : decode cL_minute 780 = .ok (.aload_n 0, 1) := by decide +kernel
theorem dL_minute_781 : decode cL_minute 781 = .ok (.iconst 2, 1) := by decide +kernel
theorem dL_minute_782 : decode cL_minute 782 = .ok (.invokevirtual 73, 3) := by decide +kernel
theorem dL_minute_785 : decode cL_minute 785 = .ok (.ifCond .ne 15, 3) := by decide +kernel
theorem dL_minute_788 : decode cL_minute 788 = .ok (.aload_n 0, 1) := by decide +kernel
theorem dL_minute_789 : decode cL_minute 789 = .ok (.iconst 4, 1) := by decide +kernel
theorem dL_minute_790 : decode cL_minute 790 = .ok (.invokevirtual 73, 3) := by decide +kernel
theorem dL_minute_793 : decode cL_minute 793 = .ok (.ifCond .ne 7, 3) := by decide +kernel
theorem dL_minute_796 : decode cL_minute 796 = .ok (.iconst 1, 1) := by decide +kernel
theorem dL_minute_797 : decode cL_minute 797 = .ok (.goto 4, 3) := by decide +kernel
theorem dL_minute_800 : decode cL_minute 800 = .ok (.iconst 0, 1) := by decide +kernel
theorem dL_minute_801 : decode cL_minute 801 = .ok (.ireturn, 1) := by decide +kernel
