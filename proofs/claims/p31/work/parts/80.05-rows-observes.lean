set_option maxRecDepth 100000 in
theorem ggL_observes_X9_state : GoodIn wsL_observes wsX9_state := goodIn_r _ [10, 11, 12, 13, 14, 15, 16, 17, 18, 19, 20, 9, 21, 22, 23, 24, 25, 26, 27, 28, 29, 30, 31, 32, 33, 34, 35, 36, 37, 38, 39, 40, 41, 42, 43, 44, 45, 46, 47, 48, 49, 50, 51, 52, 53, 54, 55, 56, 57, 58, 59, 60, 61, 62, 63, 64, 65, 66, 67, 68, 69, 70, 71, 72, 326, 327, 328, 329, 330, 331, 332, 333, 334, 335, 336, 337, 338, 339, 340, 341, 342, 343, 344, 345, 346, 347, 348, 349, 350, 351, 352, 353, 354, 355, 356, 357, 358, 359, 360, 361, 362, 363, 364, 365, 366, 367, 368, 369, 370, 371, 372, 373, 374] rfl (by decide +kernel)
set_option maxRecDepth 100000 in
theorem gL_observes_X9_state : GoodIn wsL_observes (wsV RL 73 RX9 yX9_state wsX9_state) := goodIn_app (goodIn_of _ (by decide +kernel)) ggL_observes_X9_state
set_option maxRecDepth 100000 in
theorem ggL_observes_X9_line : GoodIn wsL_observes wsX9_line := goodIn_r _ [76, 13, 63, 68, 71, 77, 78, 9, 79, 80, 19, 20, 21, 81, 82, 83, 84, 85, 86, 87, 88, 89, 90, 91, 92, 93, 94, 95, 96, 48, 97, 98, 99, 100, 101, 102, 103, 104, 105, 106, 40, 107, 108, 109, 110, 50, 111, 112, 113, 114, 115, 116, 117, 118, 119, 120, 121, 122, 123, 124, 42, 125, 126, 127, 128, 129, 130, 131, 132, 133, 134, 135, 136, 137, 138, 139, 140, 141, 142, 143, 144, 145, 146, 147, 148, 149, 150, 151, 152, 153, 154, 155, 156, 157, 158, 159, 160, 161, 162, 163, 164, 165, 166, 167, 54, 168, 169, 170, 171, 172, 173, 174, 175, 176, 177, 178, 179, 180, 181, 182, 183, 184, 185, 186, 187, 188, 189, 190, 191, 192, 193, 194, 195, 196, 197, 198, 199, 200, 201, 202, 203, 204, 205, 206, 207, 208, 209, 210, 211, 212, 213, 214, 215, 216, 217, 326, 327, 328, 329, 330, 331, 332, 333, 334, 335, 336, 337, 338, 363, 364, 365, 366, 372, 373, 374, 346, 347, 348, 349, 350, 339, 340, 341, 342, 343, 344, 345, 355, 356, 357, 358, 359, 360, 351, 352, 353, 354, 361, 362] rfl (by decide +kernel)
set_option maxRecDepth 100000 in
theorem gL_observes_X9_line : GoodIn wsL_observes (wsV RL 128 RX9 yX9_line wsX9_line) := goodIn_app (goodIn_of _ (by decide +kernel)) ggL_observes_X9_line
set_option maxRecDepth 100000 in
theorem ggL_observes_X9_observe : GoodIn wsL_observes wsX9_observe := goodIn_r _ [221, 13, 63, 68, 71, 14, 222, 223, 224, 225, 19, 20, 9, 21, 81, 82, 83, 84, 85, 86, 87, 88, 89, 90, 91, 92, 93, 94, 95, 96, 48, 97, 98, 99, 100, 101, 102, 103, 104, 105, 106, 40, 107, 108, 109, 110, 50, 111, 112, 113, 114, 115, 116, 117, 118, 119, 120, 121, 122, 123, 124, 42, 125, 126, 127, 128, 129, 130, 131, 132, 133, 134, 135, 136, 137, 138, 139, 140, 141, 142, 143, 144, 145, 146, 147, 148, 149, 150, 151, 152, 153, 154, 155, 156, 157, 158, 159, 160, 161, 162, 163, 164, 165, 166, 167, 54, 168, 169, 170, 171, 172, 173, 174, 175, 176, 177, 178, 179, 180, 181, 182, 183, 184, 185, 186, 187, 188, 189, 190, 191, 192, 193, 194, 195, 196, 197, 198, 199, 200, 201, 202, 203, 204, 205, 206, 207, 208, 209, 210, 211, 226, 227, 228, 229, 230, 231, 232, 233, 234, 23, 24, 216, 217, 235, 236, 237, 238, 239, 240, 241, 242, 243, 22, 244, 245, 246, 247, 326, 327, 328, 329, 330, 331, 332, 333, 334, 335, 336, 337, 338, 363, 364, 365, 366, 339, 340, 341, 342, 343, 344, 345, 372, 373, 374, 346, 347, 348, 349, 350, 355, 356, 357, 358, 359, 360, 351, 352, 353, 354, 361, 362] rfl (by decide +kernel)
set_option maxRecDepth 100000 in
theorem gL_observes_X9_observe : GoodIn wsL_observes (wsV RL 131 RX9 yX9_observe wsX9_observe) := goodIn_app (goodIn_of _ (by decide +kernel)) ggL_observes_X9_observe
set_option maxRecDepth 100000 in
theorem ggL_observes_X9_check : GoodIn wsL_observes wsX9_check := goodIn_r _ [251, 13, 63, 64, 61, 252, 253, 19, 20, 9, 21, 22, 23, 24, 326, 327, 328, 329, 330, 331, 332, 333, 334, 335, 336, 337, 338, 363, 364, 365, 366, 361, 362] rfl (by decide +kernel)
set_option maxRecDepth 100000 in
theorem gL_observes_X9_check : GoodIn wsL_observes (wsV RL 134 RX9 yX9_check wsX9_check) := goodIn_app (goodIn_of _ (by decide +kernel)) ggL_observes_X9_check
set_option maxRecDepth 100000 in
theorem ggL_observes_X9_compass : GoodIn wsL_observes wsX9_compass := goodIn_r _ [257, 13, 14, 222, 258, 59, 259, 260, 60, 61, 63, 64, 30, 261, 262, 263, 264, 265, 266, 267, 48, 268, 104, 107, 269, 270, 271, 50, 272, 273, 274, 23, 9, 24, 275, 276, 277, 278, 279, 280, 281, 282, 91, 283, 284, 285, 286, 287, 288, 289, 290, 291, 292, 293, 294, 225, 295, 296, 297, 298, 299, 300, 113, 301, 148, 302, 303, 304, 305, 306, 307, 308, 309, 310, 311, 312, 313, 150, 149, 314, 315, 316, 317, 318, 319, 320, 147, 321, 204, 156, 326, 327, 328, 329, 330, 331, 332, 333, 334, 335, 336, 337, 338, 339, 340, 341, 342, 343, 344, 345, 355, 356, 357, 358, 359, 360, 361, 362, 363, 364, 365, 366, 346, 347, 348, 349, 350] rfl (by decide +kernel)
set_option maxRecDepth 100000 in
theorem gL_observes_X9_compass : GoodIn wsL_observes (wsV RL 76 RX9 yX9_compass wsX9_compass) := goodIn_app (goodIn_of _ (by decide +kernel)) ggL_observes_X9_compass
set_option maxRecDepth 100000 in
theorem ggL_observes_L_size : GoodIn wsL_observes wsL_size := goodIn_r _ [325] rfl (by decide +kernel)
set_option maxRecDepth 100000 in
theorem gL_observes_L_size : GoodIn wsL_observes (va_wsS RL 98 yL_size wsL_size) := goodIn_app (goodIn_of _ (by decide +kernel)) ggL_observes_L_size
theorem dL_observes_0 : decode cL_observes 0 = .ok (.aload_n 0, 1) := by decide +kernel
theorem dL_observes_1 : decode cL_observes 1 = .ok (.bipush 19, 2) := by decide +kernel
theorem dL_observes_3 : decode cL_observes 3 = .ok (.invokevirtual 73, 3) := by decide +kernel
theorem dL_observes_6 : decode cL_observes 6 = .ok (.istore_n 2, 1) := by decide +kernel
theorem dL_observes_7 : decode cL_observes 7 = .ok (.aload_n 0, 1) := by decide +kernel
theorem dL_observes_8 : decode cL_observes 8 = .ok (.iload_n 1, 1) := by decide +kernel
theorem dL_observes_9 : decode cL_observes 9 = .ok (.invokevirtual 128, 3) := by decide +kernel
theorem dL_observes_12 : decode cL_observes 12 = .ok (.istore_n 3, 1) := by decide +kernel
theorem dL_observes_13 : decode cL_observes 13 = .ok (.iload_n 2, 1) := by decide +kernel
theorem dL_observes_14 : decode cL_observes 14 = .ok (.bipush 6, 2) := by decide +kernel
theorem dL_observes_16 : decode cL_observes 16 = .ok (.if_icmp .ne 12, 3) := by decide +kernel
theorem dL_observes_19 : decode cL_observes 19 = .ok (.iload_n 3, 1) := by decide +kernel
theorem dL_observes_20 : decode cL_observes 20 = .ok (.bipush (-4), 2) := by decide +kernel
theorem dL_observes_22 : decode cL_observes 22 = .ok (.if_icmp .eq 13, 3) := by decide +kernel
theorem dL_observes_25 : decode cL_observes 25 = .ok (.goto 8, 3) := by decide +kernel
theorem dL_observes_28 : decode cL_observes 28 = .ok (.iload_n 3, 1) := by decide +kernel
theorem dL_observes_29 : decode cL_observes 29 = .ok (.iload_n 2, 1) := by decide +kernel
theorem dL_observes_30 : decode cL_observes 30 = .ok (.if_icmp .eq 5, 3) := by decide +kernel
theorem dL_observes_33 : decode cL_observes 33 = .ok (.iconst 0, 1) := by decide +kernel
theorem dL_observes_34 : decode cL_observes 34 = .ok (.ireturn, 1) := by decide +kernel
theorem dL_observes_35 : decode cL_observes 35 = .ok (.iload_n 3, 1) := by decide +kernel
theorem dL_observes_36 : decode cL_observes 36 = .ok (.ifCond .ge 19, 3) := by decide +kernel
theorem dL_observes_39 : decode cL_observes 39 = .ok (.aload_n 0, 1) := by decide +kernel
theorem dL_observes_40 : decode cL_observes 40 = .ok (.bipush 6, 2) := by decide +kernel
theorem dL_observes_42 : decode cL_observes 42 = .ok (.invokevirtual 131, 3) := by decide +kernel
theorem dL_observes_45 : decode cL_observes 45 = .ok (.iconst (-1), 1) := by decide +kernel
theorem dL_observes_46 : decode cL_observes 46 = .ok (.if_icmp .ne 7, 3) := by decide +kernel
theorem dL_observes_49 : decode cL_observes 49 = .ok (.iconst 1, 1) := by decide +kernel
theorem dL_observes_50 : decode cL_observes 50 = .ok (.goto 4, 3) := by decide +kernel
theorem dL_observes_53 : decode cL_observes 53 = .ok (.iconst 0, 1) := by decide +kernel
theorem dL_observes_54 : decode cL_observes 54 = .ok (.ireturn, 1) := by decide +kernel
theorem dL_observes_55 : decode cL_observes 55 = .ok (.aload_n 0, 1) := by decide +kernel
theorem dL_observes_56 : decode cL_observes 56 = .ok (.bipush 29, 2) := by decide +kernel
theorem dL_observes_58 : decode cL_observes 58 = .ok (.invokevirtual 73, 3) := by decide +kernel
theorem dL_observes_61 : decode cL_observes 61 = .ok (.istore 4, 2) := by decide +kernel
theorem dL_observes_63 : decode cL_observes 63 = .ok (.aload_n 0, 1) := by decide +kernel
theorem dL_observes_64 : decode cL_observes 64 = .ok (.bipush 28, 2) := by decide +kernel
theorem dL_observes_66 : decode cL_observes 66 = .ok (.invokevirtual 73, 3) := by decide +kernel
theorem dL_observes_69 : decode cL_observes 69 = .ok (.istore 5, 2) := by decide +kernel
theorem dL_observes_71 : decode cL_observes 71 = .ok (.aload_n 0, 1) := by decide +kernel
theorem dL_observes_72 : decode cL_observes 72 = .ok (.bipush 15, 2) := by decide +kernel
theorem dL_observes_74 : decode cL_observes 74 = .ok (.invokevirtual 73, 3) := by decide +kernel
theorem dL_observes_77 : decode cL_observes 77 = .ok (.istore 6, 2) := by decide +kernel
theorem dL_observes_79 : decode cL_observes 79 = .ok (.iload 6, 2) := by decide +kernel
theorem dL_observes_81 : decode cL_observes 81 = .ok (.ifCond .le 11, 3) := by decide +kernel
theorem dL_observes_84 : decode cL_observes 84 = .ok (.aload_n 0, 1) := by decide +kernel
theorem dL_observes_85 : decode cL_observes 85 = .ok (.iconst 0, 1) := by decide +kernel
theorem dL_observes_86 : decode cL_observes 86 = .ok (.invokevirtual 134, 3) := by decide +kernel
theorem dL_observes_89 : decode cL_observes 89 = .ok (.goto 4, 3) := by decide +kernel
theorem dL_observes_92 : decode cL_observes 92 = .ok (.iconst 0, 1) := by decide +kernel
theorem dL_observes_93 : decode cL_observes 93 = .ok (.istore 7, 2) := by decide +kernel
theorem dL_observes_95 : decode cL_observes 95 = .ok (.aload_n 0, 1) := by decide +kernel
theorem dL_observes_96 : decode cL_observes 96 = .ok (.iload_n 3, 1) := by decide +kernel
theorem dL_observes_97 : decode cL_observes 97 = .ok (.invokevirtual 131, 3) := by decide +kernel
theorem dL_observes_100 : decode cL_observes 100 = .ok (.istore 8, 2) := by decide +kernel
theorem dL_observes_102 : decode cL_observes 102 = .ok (.ldc2_w 137, 3) := by decide +kernel
theorem dL_observes_105 : decode cL_observes 105 = .ok (.iload 4, 2) := by decide +kernel
theorem dL_observes_107 : decode cL_observes 107 = .ok (.i2l, 1) := by decide +kernel
theorem dL_observes_108 : decode cL_observes 108 = .ok (.lmul, 1) := by decide +kernel
theorem dL_observes_109 : decode cL_observes 109 = .ok (.ldc2_w 139, 3) := by decide +kernel
theorem dL_observes_112 : decode cL_observes 112 = .ok (.ladd, 1) := by decide +kernel
theorem dL_observes_113 : decode cL_observes 113 = .ok (.ldc2_w 141, 3) := by decide +kernel
theorem dL_observes_116 : decode cL_observes 116 = .ok (.lrem, 1) := by decide +kernel
theorem dL_observes_117 : decode cL_observes 117 = .ok (.l2i, 1) := by decide +kernel
theorem dL_observes_118 : decode cL_observes 118 = .ok (.istore 9, 2) := by decide +kernel
theorem dL_observes_120 : decode cL_observes 120 = .ok (.iload 9, 2) := by decide +kernel
theorem dL_observes_122 : decode cL_observes 122 = .ok (.ldc 143, 2) := by decide +kernel
theorem dL_observes_124 : decode cL_observes 124 = .ok (.if_icmp .ne 7, 3) := by decide +kernel
theorem dL_observes_127 : decode cL_observes 127 = .ok (.iconst 0, 1) := by decide +kernel
theorem dL_observes_128 : decode cL_observes 128 = .ok (.goto 5, 3) := by decide +kernel
theorem dL_observes_131 : decode cL_observes 131 = .ok (.iload 9, 2) := by decide +kernel
theorem dL_observes_133 : decode cL_observes 133 = .ok (.istore 9, 2) := by decide +kernel
theorem dL_observes_135 : decode cL_observes 135 = .ok (.aload_n 0, 1) := by decide +kernel
theorem dL_observes_136 : decode cL_observes 136 = .ok (.iconst 0, 1) := by decide +kernel
theorem dL_observes_137 : decode cL_observes 137 = .ok (.invokevirtual 76, 3) := by decide +kernel
theorem dL_observes_140 : decode cL_observes 140 = .ok (.bipush 100, 2) := by decide +kernel
theorem dL_observes_142 : decode cL_observes 142 = .ok (.idiv, 1) := by decide +kernel
theorem dL_observes_143 : decode cL_observes 143 = .ok (.iload 9, 2) := by decide +kernel
theorem dL_observes_145 : decode cL_observes 145 = .ok (.iconst 2, 1) := by decide +kernel
theorem dL_observes_146 : decode cL_observes 146 = .ok (.iload 5, 2) := by decide +kernel
theorem dL_observes_148 : decode cL_observes 148 = .ok (.imul, 1) := by decide +kernel
theorem dL_observes_149 : decode cL_observes 149 = .ok (.iconst 1, 1) := by decide +kernel
theorem dL_observes_150 : decode cL_observes 150 = .ok (.iadd, 1) := by decide +kernel
theorem dL_observes_151 : decode cL_observes 151 = .ok (.irem, 1) := by decide +kernel
theorem dL_observes_152 : decode cL_observes 152 = .ok (.iadd, 1) := by decide +kernel
theorem dL_observes_153 : decode cL_observes 153 = .ok (.iload 5, 2) := by decide +kernel
theorem dL_observes_155 : decode cL_observes 155 = .ok (.isub, 1) := by decide +kernel
theorem dL_observes_156 : decode cL_observes 156 = .ok (.istore 10, 2) := by decide +kernel
theorem dL_observes_158 : decode cL_observes 158 = .ok (.aload_n 0, 1) := by decide +kernel
theorem dL_observes_159 : decode cL_observes 159 = .ok (.bipush 29, 2) := by decide +kernel
theorem dL_observes_161 : decode cL_observes 161 = .ok (.invokevirtual 73, 3) := by decide +kernel
theorem dL_observes_164 : decode cL_observes 164 = .ok (.iload 9, 2) := by decide +kernel
theorem dL_observes_166 : decode cL_observes 166 = .ok (.if_icmp .ne 99, 3) := by decide +kernel
theorem dL_observes_169 : decode cL_observes 169 = .ok (.aload_n 0, 1) := by decide +kernel
theorem dL_observes_170 : decode cL_observes 170 = .ok (.iconst 0, 1) := by decide +kernel
theorem dL_observes_171 : decode cL_observes 171 = .ok (.invokevirtual 134, 3) := by decide +kernel
theorem dL_observes_174 : decode cL_observes 174 = .ok (.iload 10, 2) := by decide +kernel
theorem dL_observes_176 : decode cL_observes 176 = .ok (.if_icmp .ne 89, 3) := by decide +kernel
theorem dL_observes_179 : decode cL_observes 179 = .ok (.iload_n 1, 1) := by decide +kernel
theorem dL_observes_180 : decode cL_observes 180 = .ok (.iload 10, 2) := by decide +kernel
theorem dL_observes_182 : decode cL_observes 182 = .ok (.iadd, 1) := by decide +kernel
theorem dL_observes_183 : decode cL_observes 183 = .ok (.iload 8, 2) := by decide +kernel
theorem dL_observes_185 : decode cL_observes 185 = .ok (.isub, 1) := by decide +kernel
theorem dL_observes_186 : decode cL_observes 186 = .ok (.ldc 64, 2) := by decide +kernel
theorem dL_observes_188 : decode cL_observes 188 = .ok (.irem, 1) := by decide +kernel
theorem dL_observes_189 : decode cL_observes 189 = .ok (.ifCond .ne 76, 3) := by decide +kernel
theorem dL_observes_192 : decode cL_observes 192 = .ok (.iload 8, 2) := by decide +kernel
theorem dL_observes_194 : decode cL_observes 194 = .ok (.ifCond .lt 71, 3) := by decide +kernel
theorem dL_observes_197 : decode cL_observes 197 = .ok (.iload 8, 2) := by decide +kernel
theorem dL_observes_199 : decode cL_observes 199 = .ok (.ldc 64, 2) := by decide +kernel
theorem dL_observes_201 : decode cL_observes 201 = .ok (.if_icmp .ge 64, 3) := by decide +kernel
theorem dL_observes_204 : decode cL_observes 204 = .ok (.aload_n 0, 1) := by decide +kernel
theorem dL_observes_205 : decode cL_observes 205 = .ok (.bipush 15, 2) := by decide +kernel
theorem dL_observes_207 : decode cL_observes 207 = .ok (.invokevirtual 73, 3) := by decide +kernel
theorem dL_observes_210 : decode cL_observes 210 = .ok (.iload 6, 2) := by decide +kernel
theorem dL_observes_212 : decode cL_observes 212 = .ok (.iconst 5, 1) := by decide +kernel
theorem dL_observes_213 : decode cL_observes 213 = .ok (.if_icmp .ne 7, 3) := by decide +kernel
theorem dL_observes_216 : decode cL_observes 216 = .ok (.iconst 5, 1) := by decide +kernel
theorem dL_observes_217 : decode cL_observes 217 = .ok (.goto 7, 3) := by decide +kernel
theorem dL_observes_220 : decode cL_observes 220 = .ok (.iload 6, 2) := by decide +kernel
theorem dL_observes_222 : decode cL_observes 222 = .ok (.iconst 1, 1) := by decide +kernel
theorem dL_observes_223 : decode cL_observes 223 = .ok (.iadd, 1) := by decide +kernel
theorem dL_observes_224 : decode cL_observes 224 = .ok (.if_icmp .ne 41, 3) := by decide +kernel
theorem dL_observes_227 : decode cL_observes 227 = .ok (.iload 6, 2) := by decide +kernel
theorem dL_observes_229 : decode cL_observes 229 = .ok (.ifCond .eq 13, 3) := by decide +kernel
theorem dL_observes_232 : decode cL_observes 232 = .ok (.aload_n 0, 1) := by decide +kernel
theorem dL_observes_233 : decode cL_observes 233 = .ok (.iconst 1, 1) := by decide +kernel
theorem dL_observes_234 : decode cL_observes 234 = .ok (.invokevirtual 134, 3) := by decide +kernel
theorem dL_observes_237 : decode cL_observes 237 = .ok (.iload 7, 2) := by decide +kernel
theorem dL_observes_239 : decode cL_observes 239 = .ok (.if_icmp .ne 26, 3) := by decide +kernel
theorem dL_observes_242 : decode cL_observes 242 = .ok (.iload 10, 2) := by decide +kernel
theorem dL_observes_244 : decode cL_observes 244 = .ok (.aload_n 0, 1) := by decide +kernel
theorem dL_observes_245 : decode cL_observes 245 = .ok (.iconst 0, 1) := by decide +kernel
theorem dL_observes_246 : decode cL_observes 246 = .ok (.invokevirtual 76, 3) := by decide +kernel
theorem dL_observes_249 : decode cL_observes 249 = .ok (.bipush 100, 2) := by decide +kernel
theorem dL_observes_251 : decode cL_observes 251 = .ok (.idiv, 1) := by decide +kernel
theorem dL_observes_252 : decode cL_observes 252 = .ok (.isub, 1) := by decide +kernel
theorem dL_observes_253 : decode cL_observes 253 = .ok (.invokestatic 98, 3) := by decide +kernel
theorem dL_observes_256 : decode cL_observes 256 = .ok (.iload 5, 2) := by decide +kernel
theorem dL_observes_258 : decode cL_observes 258 = .ok (.if_icmp .gt 7, 3) := by decide +kernel
theorem dL_observes_261 : decode cL_observes 261 = .ok (.iconst 1, 1) := by decide +kernel
theorem dL_observes_262 : decode cL_observes 262 = .ok (.goto 4, 3) := by decide +kernel
theorem dL_observes_265 : decode cL_observes 265 = .ok (.iconst 0, 1) := by decide +kernel
theorem dL_observes_266 : decode cL_observes 266 = .ok (.ireturn, 1) := by decide +kernel
