set_option maxRecDepth 100000 in
theorem ggL_told_L_up : GoodIn wsL_told wsL_up := goodIn_r _ [11, 12] rfl (by decide +kernel)
set_option maxRecDepth 100000 in
theorem gL_told_L_up : GoodIn wsL_told (va_wsS RL 22 yL_up wsL_up) := goodIn_app (goodIn_of _ (by decide +kernel)) ggL_told_L_up
set_option maxRecDepth 100000 in
theorem ggL_told_X9_steer : GoodIn wsL_told wsX9_steer := goodIn_r _ [17, 18, 19, 20, 21, 22, 23, 24, 25, 26, 16, 27, 28, 29, 30, 31, 32, 33, 34, 35, 36, 37, 38, 39, 40, 41, 42, 43, 44, 45, 46, 47, 48, 49, 50, 51, 52, 53, 54, 55, 56, 57, 58, 59, 60, 61, 62, 63, 64, 65, 66, 67, 68, 69, 70, 71, 72, 73, 74, 75, 76, 77, 78, 79, 80, 81, 82, 83, 84, 85, 86, 87, 88, 89, 90, 91, 92, 93, 94, 95, 96, 97, 98, 99, 100, 101, 102, 103, 104, 105, 106, 107, 108, 109, 110, 111, 112, 113, 114, 115, 116, 117, 118, 119, 120, 121, 122, 123, 124, 125, 126, 127, 128, 129, 130, 131, 132, 133, 134, 135, 136, 137, 138, 139, 140, 141, 142, 143, 144, 145, 146, 147, 148, 149, 150, 151, 152, 153, 154, 155, 156, 157, 158, 159, 160, 161, 162, 163, 164, 165, 166, 167, 168, 169, 170, 171, 172, 173, 174, 175, 397, 398, 399, 400, 401, 402, 403, 404, 405, 406, 407, 408, 409, 410, 411, 412, 413, 414, 415, 416, 417, 418, 419, 420, 421, 422, 423, 424, 425, 426, 427, 428, 429, 430, 431, 432, 433, 434, 435, 436, 437, 438, 439, 440] rfl (by decide +kernel)
set_option maxRecDepth 100000 in
theorem gL_told_X9_steer : GoodIn wsL_told (wsV RL 83 RX9 yX9_steer wsX9_steer) := goodIn_app (goodIn_of _ (by decide +kernel)) ggL_told_X9_steer
set_option maxRecDepth 100000 in
theorem ggL_told_X9_wipe : GoodIn wsL_told wsX9_wipe := goodIn_r _ [179, 180, 181, 397, 398, 399, 400, 401, 441, 442, 443, 444, 445] rfl (by decide +kernel)
set_option maxRecDepth 100000 in
theorem gL_told_X9_wipe : GoodIn wsL_told (wsV RL 166 RX9 yX9_wipe wsX9_wipe) := goodIn_app (goodIn_of _ (by decide +kernel)) ggL_told_X9_wipe
set_option maxRecDepth 100000 in
theorem ggL_told_X9_put : GoodIn wsL_told wsX9_put := goodIn_r _ [185, 180, 181, 186, 187, 188, 16, 189, 190, 191, 29, 30, 31, 192, 193, 194, 195, 196, 197, 198, 397, 398, 399, 400, 401, 441, 442, 443, 444, 445] rfl (by decide +kernel)
set_option maxRecDepth 100000 in
theorem gL_told_X9_put : GoodIn wsL_told (wsV RL 175 RX9 yX9_put wsX9_put) := goodIn_app (goodIn_of _ (by decide +kernel)) ggL_told_X9_put
set_option maxRecDepth 100000 in
theorem ggL_told_X9_fault : GoodIn wsL_told wsX9_fault := goodIn_r _ [202, 180, 203, 204, 205, 195, 206, 207, 208, 197, 209, 173, 174, 82, 175, 144, 210, 211, 212, 213, 214, 215, 216, 217, 218, 219, 220, 221, 222, 223, 198, 224, 225, 226, 227, 228, 229, 230, 231, 232, 233, 234, 235, 236, 91, 92, 93, 237, 16, 238, 397, 398, 399, 400, 401, 441, 442, 443, 444, 445, 415, 416, 417, 418] rfl (by decide +kernel)
set_option maxRecDepth 100000 in
theorem gL_told_X9_fault : GoodIn wsL_told (wsV RL 179 RX9 yX9_fault wsX9_fault) := goodIn_app (goodIn_of _ (by decide +kernel)) ggL_told_X9_fault
set_option maxRecDepth 100000 in
theorem ggL_told_X9_load : GoodIn wsL_told wsX9_load := goodIn_r _ [242, 180, 19, 20, 21, 22, 243, 18, 244, 245, 246, 181, 203, 204, 205, 195, 206, 207, 208, 197, 209, 173, 174, 82, 175, 144, 210, 211, 212, 213, 214, 215, 216, 217, 218, 219, 220, 221, 222, 223, 198, 224, 225, 226, 227, 228, 229, 230, 231, 232, 233, 234, 235, 236, 91, 92, 93, 237, 16, 238, 36, 37, 38, 39, 40, 41, 42, 43, 44, 45, 46, 47, 48, 49, 50, 51, 52, 53, 54, 55, 56, 57, 58, 59, 60, 61, 62, 63, 64, 65, 66, 67, 68, 69, 70, 71, 72, 73, 74, 75, 76, 77, 78, 79, 80, 81, 83, 84, 85, 86, 87, 88, 89, 90, 94, 95, 96, 97, 98, 99, 100, 101, 102, 103, 104, 105, 106, 107, 108, 109, 110, 111, 112, 113, 114, 115, 116, 117, 118, 119, 120, 121, 122, 123, 124, 125, 126, 127, 128, 129, 130, 131, 132, 133, 134, 135, 136, 137, 138, 139, 140, 141, 142, 143, 145, 146, 147, 148, 149, 150, 151, 152, 153, 154, 155, 156, 157, 158, 159, 160, 161, 162, 163, 164, 165, 166, 167, 168, 169, 170, 171, 247, 248, 249, 250, 251, 252, 253, 254, 255, 256, 257, 258, 259, 260, 261, 397, 398, 399, 400, 401, 402, 403, 404, 405, 406, 407, 408, 409, 410, 411, 412, 413, 414, 415, 416, 417, 418, 441, 442, 443, 444, 445, 419, 420, 421, 422, 423, 424, 425, 426, 427, 428, 429, 430, 431, 432, 433, 434, 435, 436, 437, 438, 439, 440] rfl (by decide +kernel)
set_option maxRecDepth 100000 in
theorem gL_told_X9_load : GoodIn wsL_told (wsV RL 182 RX9 yX9_load wsX9_load) := goodIn_app (goodIn_of _ (by decide +kernel)) ggL_told_X9_load
set_option maxRecDepth 100000 in
theorem ggL_told_X9_state : GoodIn wsL_told wsX9_state := goodIn_r _ [265, 266, 267, 19, 268, 269, 270, 271, 272, 29, 30, 16, 31, 247, 248, 249, 273, 274, 275, 276, 277, 20, 23, 24, 21, 22, 278, 279, 280, 281, 282, 63, 283, 83, 259, 284, 285, 286, 287, 52, 288, 68, 289, 290, 291, 127, 292, 293, 294, 295, 296, 297, 298, 299, 300, 301, 302, 303, 304, 305, 180, 181, 18, 306, 397, 398, 399, 400, 401, 402, 403, 404, 405, 406, 407, 408, 409, 422, 423, 424, 425, 426, 427, 428, 410, 411, 412, 413, 414, 415, 416, 417, 418, 429, 430, 431, 432, 433, 434, 439, 440, 435, 436, 437, 438, 441, 442, 443, 444, 445, 419, 420, 421] rfl (by decide +kernel)
set_option maxRecDepth 100000 in
theorem gL_told_X9_state : GoodIn wsL_told (wsV RL 73 RX9 yX9_state wsX9_state) := goodIn_app (goodIn_of _ (by decide +kernel)) ggL_told_X9_state
set_option maxRecDepth 100000 in
theorem ggL_told_X9_pass : GoodIn wsL_told wsX9_pass := goodIn_r _ [310, 19, 277, 311, 18, 296, 299, 312, 313, 16, 314, 315, 29, 30, 31, 36, 37, 38, 39, 40, 41, 42, 43, 44, 45, 46, 47, 48, 49, 50, 51, 52, 53, 54, 55, 56, 57, 58, 59, 60, 61, 62, 63, 64, 65, 66, 67, 68, 69, 70, 71, 72, 73, 74, 75, 76, 77, 78, 79, 80, 81, 82, 83, 84, 85, 86, 87, 88, 89, 90, 91, 92, 93, 94, 95, 96, 97, 98, 99, 100, 101, 102, 103, 104, 105, 106, 107, 108, 109, 110, 111, 112, 113, 114, 115, 116, 117, 118, 119, 120, 121, 122, 123, 124, 125, 126, 127, 128, 129, 130, 131, 132, 133, 134, 135, 136, 137, 138, 139, 140, 141, 142, 143, 144, 145, 146, 147, 148, 149, 150, 151, 152, 153, 154, 155, 156, 157, 158, 159, 160, 161, 162, 163, 164, 165, 166, 167, 168, 169, 170, 171, 316, 317, 318, 319, 320, 321, 322, 323, 324, 325, 326, 327, 328, 329, 330, 331, 332, 333, 334, 335, 336, 337, 338, 339, 248, 249, 340, 341, 342, 343, 344, 345, 346, 347, 348, 349, 350, 351, 352, 353, 354, 355, 356, 357, 358, 359, 360, 361, 362, 363, 364, 365, 366, 367, 368, 369, 370, 371, 372, 373, 374, 375, 376, 377, 378, 379, 380, 381, 237, 238, 382, 383, 384, 385, 386, 387, 388, 259, 389, 390, 391, 392, 284, 393, 394, 395, 396, 255, 256, 257, 258, 260, 261, 397, 398, 399, 400, 401, 402, 403, 404, 405, 406, 407, 408, 409, 429, 430, 431, 432, 433, 434, 419, 420, 421, 410, 411, 412, 413, 414, 422, 423, 424, 425, 426, 427, 428, 435, 436, 437, 438, 415, 416, 417, 418, 439, 440] rfl (by decide +kernel)
set_option maxRecDepth 100000 in
theorem gL_told_X9_pass : GoodIn wsL_told (wsV RL 107 RX9 yX9_pass wsX9_pass) := goodIn_app (goodIn_of _ (by decide +kernel)) ggL_told_X9_pass
theorem dL_told_0 : decode cL_told 0 = .ok (.iconst 1, 1) := by decide +kernel
theorem dL_told_1 : decode cL_told 1 = .ok (.iload_n 1, 1) := by decide +kernel
theorem dL_told_2 : decode cL_told 2 = .ok (.bipush 9, 2) := by decide +kernel
theorem dL_told_4 : decode cL_told 4 = .ok (.invokestatic 22, 3) := by decide +kernel
theorem dL_told_7 : decode cL_told 7 = .ok (.iadd, 1) := by decide +kernel
theorem dL_told_8 : decode cL_told 8 = .ok (.istore_n 2, 1) := by decide +kernel
theorem dL_told_9 : decode cL_told 9 = .ok (.iconst 1, 1) := by decide +kernel
theorem dL_told_10 : decode cL_told 10 = .ok (.iload_n 1, 1) := by decide +kernel
theorem dL_told_11 : decode cL_told 11 = .ok (.iconst 4, 1) := by decide +kernel
theorem dL_told_12 : decode cL_told 12 = .ok (.ishr, 1) := by decide +kernel
theorem dL_told_13 : decode cL_told 13 = .ok (.bipush 9, 2) := by decide +kernel
theorem dL_told_15 : decode cL_told 15 = .ok (.invokestatic 22, 3) := by decide +kernel
theorem dL_told_18 : decode cL_told 18 = .ok (.iadd, 1) := by decide +kernel
theorem dL_told_19 : decode cL_told 19 = .ok (.istore_n 3, 1) := by decide +kernel
theorem dL_told_20 : decode cL_told 20 = .ok (.iconst 1, 1) := by decide +kernel
theorem dL_told_21 : decode cL_told 21 = .ok (.iload_n 1, 1) := by decide +kernel
theorem dL_told_22 : decode cL_told 22 = .ok (.bipush 8, 2) := by decide +kernel
theorem dL_told_24 : decode cL_told 24 = .ok (.ishr, 1) := by decide +kernel
theorem dL_told_25 : decode cL_told 25 = .ok (.bipush 9, 2) := by decide +kernel
theorem dL_told_27 : decode cL_told 27 = .ok (.invokestatic 22, 3) := by decide +kernel
theorem dL_told_30 : decode cL_told 30 = .ok (.iadd, 1) := by decide +kernel
theorem dL_told_31 : decode cL_told 31 = .ok (.istore 4, 2) := by decide +kernel
theorem dL_told_33 : decode cL_told 33 = .ok (.aload_n 0, 1) := by decide +kernel
theorem dL_told_34 : decode cL_told 34 = .ok (.iconst 0, 1) := by decide +kernel
theorem dL_told_35 : decode cL_told 35 = .ok (.iconst 0, 1) := by decide +kernel
theorem dL_told_36 : decode cL_told 36 = .ok (.invokevirtual 83, 3) := by decide +kernel
theorem dL_told_39 : decode cL_told 39 = .ok (.pop, 1) := by decide +kernel
theorem dL_told_40 : decode cL_told 40 = .ok (.aload_n 0, 1) := by decide +kernel
theorem dL_told_41 : decode cL_told 41 = .ok (.invokevirtual 166, 3) := by decide +kernel
theorem dL_told_44 : decode cL_told 44 = .ok (.pop, 1) := by decide +kernel
theorem dL_told_45 : decode cL_told 45 = .ok (.aload_n 0, 1) := by decide +kernel
theorem dL_told_46 : decode cL_told 46 = .ok (.ldc2_w 169, 3) := by decide +kernel
theorem dL_told_49 : decode cL_told 49 = .ok (.bipush 48, 2) := by decide +kernel
theorem dL_told_51 : decode cL_told 51 = .ok (.iload_n 2, 1) := by decide +kernel
theorem dL_told_52 : decode cL_told 52 = .ok (.iadd, 1) := by decide +kernel
theorem dL_told_53 : decode cL_told 53 = .ok (.i2l, 1) := by decide +kernel
theorem dL_told_54 : decode cL_told 54 = .ok (.bipush 24, 2) := by decide +kernel
theorem dL_told_56 : decode cL_told 56 = .ok (.lshl, 1) := by decide +kernel
theorem dL_told_57 : decode cL_told 57 = .ok (.lor, 1) := by decide +kernel
theorem dL_told_58 : decode cL_told 58 = .ok (.ldc2_w 171, 3) := by decide +kernel
theorem dL_told_61 : decode cL_told 61 = .ok (.lor, 1) := by decide +kernel
theorem dL_told_62 : decode cL_told 62 = .ok (.bipush 48, 2) := by decide +kernel
theorem dL_told_64 : decode cL_told 64 = .ok (.iload_n 3, 1) := by decide +kernel
theorem dL_told_65 : decode cL_told 65 = .ok (.iadd, 1) := by decide +kernel
theorem dL_told_66 : decode cL_told 66 = .ok (.i2l, 1) := by decide +kernel
theorem dL_told_67 : decode cL_told 67 = .ok (.bipush 8, 2) := by decide +kernel
theorem dL_told_69 : decode cL_told 69 = .ok (.lshl, 1) := by decide +kernel
theorem dL_told_70 : decode cL_told 70 = .ok (.lor, 1) := by decide +kernel
theorem dL_told_71 : decode cL_told 71 = .ok (.ldc2_w 173, 3) := by decide +kernel
theorem dL_told_74 : decode cL_told 74 = .ok (.lor, 1) := by decide +kernel
theorem dL_told_75 : decode cL_told 75 = .ok (.invokevirtual 175, 3) := by decide +kernel
theorem dL_told_78 : decode cL_told 78 = .ok (.pop, 1) := by decide +kernel
theorem dL_told_79 : decode cL_told 79 = .ok (.aload_n 0, 1) := by decide +kernel
theorem dL_told_80 : decode cL_told 80 = .ok (.invokevirtual 179, 3) := by decide +kernel
theorem dL_told_83 : decode cL_told 83 = .ok (.iconst 5, 1) := by decide +kernel
theorem dL_told_84 : decode cL_told 84 = .ok (.if_icmp .ne 12, 3) := by decide +kernel
theorem dL_told_87 : decode cL_told 87 = .ok (.aload_n 0, 1) := by decide +kernel
theorem dL_told_88 : decode cL_told 88 = .ok (.invokevirtual 182, 3) := by decide +kernel
theorem dL_told_91 : decode cL_told 91 = .ok (.bipush (-3), 2) := by decide +kernel
theorem dL_told_93 : decode cL_told 93 = .ok (.if_icmp .eq 5, 3) := by decide +kernel
theorem dL_told_96 : decode cL_told 96 = .ok (.iconst 0, 1) := by decide +kernel
theorem dL_told_97 : decode cL_told 97 = .ok (.ireturn, 1) := by decide +kernel
theorem dL_told_98 : decode cL_told 98 = .ok (.aload_n 0, 1) := by decide +kernel
theorem dL_told_99 : decode cL_told 99 = .ok (.bipush 48, 2) := by decide +kernel
theorem dL_told_101 : decode cL_told 101 = .ok (.iload 4, 2) := by decide +kernel
theorem dL_told_103 : decode cL_told 103 = .ok (.iadd, 1) := by decide +kernel
theorem dL_told_104 : decode cL_told 104 = .ok (.i2l, 1) := by decide +kernel
theorem dL_told_105 : decode cL_told 105 = .ok (.bipush 24, 2) := by decide +kernel
theorem dL_told_107 : decode cL_told 107 = .ok (.lshl, 1) := by decide +kernel
theorem dL_told_108 : decode cL_told 108 = .ok (.ldc2_w 185, 3) := by decide +kernel
theorem dL_told_111 : decode cL_told 111 = .ok (.lor, 1) := by decide +kernel
theorem dL_told_112 : decode cL_told 112 = .ok (.ldc2_w 187, 3) := by decide +kernel
theorem dL_told_115 : decode cL_told 115 = .ok (.lor, 1) := by decide +kernel
theorem dL_told_116 : decode cL_told 116 = .ok (.bipush 48, 2) := by decide +kernel
theorem dL_told_118 : decode cL_told 118 = .ok (.iload 4, 2) := by decide +kernel
theorem dL_told_120 : decode cL_told 120 = .ok (.iadd, 1) := by decide +kernel
theorem dL_told_121 : decode cL_told 121 = .ok (.i2l, 1) := by decide +kernel
theorem dL_told_122 : decode cL_told 122 = .ok (.lor, 1) := by decide +kernel
theorem dL_told_123 : decode cL_told 123 = .ok (.invokevirtual 175, 3) := by decide +kernel
theorem dL_told_126 : decode cL_told 126 = .ok (.pop, 1) := by decide +kernel
theorem dL_told_127 : decode cL_told 127 = .ok (.aload_n 0, 1) := by decide +kernel
theorem dL_told_128 : decode cL_told 128 = .ok (.ldc2_w 189, 3) := by decide +kernel
theorem dL_told_131 : decode cL_told 131 = .ok (.bipush 48, 2) := by decide +kernel
theorem dL_told_133 : decode cL_told 133 = .ok (.iload_n 2, 1) := by decide +kernel
theorem dL_told_134 : decode cL_told 134 = .ok (.iadd, 1) := by decide +kernel
theorem dL_told_135 : decode cL_told 135 = .ok (.i2l, 1) := by decide +kernel
theorem dL_told_136 : decode cL_told 136 = .ok (.bipush 16, 2) := by decide +kernel
theorem dL_told_138 : decode cL_told 138 = .ok (.lshl, 1) := by decide +kernel
theorem dL_told_139 : decode cL_told 139 = .ok (.lor, 1) := by decide +kernel
theorem dL_told_140 : decode cL_told 140 = .ok (.ldc2_w 191, 3) := by decide +kernel
theorem dL_told_143 : decode cL_told 143 = .ok (.lor, 1) := by decide +kernel
theorem dL_told_144 : decode cL_told 144 = .ok (.bipush 48, 2) := by decide +kernel
theorem dL_told_146 : decode cL_told 146 = .ok (.iload_n 3, 1) := by decide +kernel
theorem dL_told_147 : decode cL_told 147 = .ok (.iadd, 1) := by decide +kernel
theorem dL_told_148 : decode cL_told 148 = .ok (.i2l, 1) := by decide +kernel
theorem dL_told_149 : decode cL_told 149 = .ok (.lor, 1) := by decide +kernel
theorem dL_told_150 : decode cL_told 150 = .ok (.invokevirtual 175, 3) := by decide +kernel
theorem dL_told_153 : decode cL_told 153 = .ok (.pop, 1) := by decide +kernel
theorem dL_told_154 : decode cL_told 154 = .ok (.aload_n 0, 1) := by decide +kernel
theorem dL_told_155 : decode cL_told 155 = .ok (.invokevirtual 179, 3) := by decide +kernel
theorem dL_told_158 : decode cL_told 158 = .ok (.bipush (-6), 2) := by decide +kernel
theorem dL_told_160 : decode cL_told 160 = .ok (.if_icmp .ne 62, 3) := by decide +kernel
theorem dL_told_163 : decode cL_told 163 = .ok (.aload_n 0, 1) := by decide +kernel
theorem dL_told_164 : decode cL_told 164 = .ok (.bipush 20, 2) := by decide +kernel
theorem dL_told_166 : decode cL_told 166 = .ok (.invokevirtual 73, 3) := by decide +kernel
theorem dL_told_169 : decode cL_told 169 = .ok (.bipush 13, 2) := by decide +kernel
theorem dL_told_171 : decode cL_told 171 = .ok (.if_icmp .ne 51, 3) := by decide +kernel
theorem dL_told_174 : decode cL_told 174 = .ok (.aload_n 0, 1) := by decide +kernel
theorem dL_told_175 : decode cL_told 175 = .ok (.invokevirtual 182, 3) := by decide +kernel
theorem dL_told_178 : decode cL_told 178 = .ok (.iconst 2, 1) := by decide +kernel
theorem dL_told_179 : decode cL_told 179 = .ok (.if_icmp .ne 43, 3) := by decide +kernel
theorem dL_told_182 : decode cL_told 182 = .ok (.aload_n 0, 1) := by decide +kernel
theorem dL_told_183 : decode cL_told 183 = .ok (.bipush 20, 2) := by decide +kernel
theorem dL_told_185 : decode cL_told 185 = .ok (.invokevirtual 73, 3) := by decide +kernel
theorem dL_told_188 : decode cL_told 188 = .ok (.ifCond .ne 34, 3) := by decide +kernel
theorem dL_told_191 : decode cL_told 191 = .ok (.aload_n 0, 1) := by decide +kernel
theorem dL_told_192 : decode cL_told 192 = .ok (.iconst 1, 1) := by decide +kernel
theorem dL_told_193 : decode cL_told 193 = .ok (.invokevirtual 73, 3) := by decide +kernel
theorem dL_told_196 : decode cL_told 196 = .ok (.bipush 100, 2) := by decide +kernel
theorem dL_told_198 : decode cL_told 198 = .ok (.iload_n 2, 1) := by decide +kernel
theorem dL_told_199 : decode cL_told 199 = .ok (.imul, 1) := by decide +kernel
theorem dL_told_200 : decode cL_told 200 = .ok (.if_icmp .ne 22, 3) := by decide +kernel
theorem dL_told_203 : decode cL_told 203 = .ok (.aload_n 0, 1) := by decide +kernel
theorem dL_told_204 : decode cL_told 204 = .ok (.iconst 2, 1) := by decide +kernel
theorem dL_told_205 : decode cL_told 205 = .ok (.invokevirtual 73, 3) := by decide +kernel
theorem dL_told_208 : decode cL_told 208 = .ok (.iload_n 3, 1) := by decide +kernel
theorem dL_told_209 : decode cL_told 209 = .ok (.if_icmp .ne 13, 3) := by decide +kernel
theorem dL_told_212 : decode cL_told 212 = .ok (.aload_n 0, 1) := by decide +kernel
theorem dL_told_213 : decode cL_told 213 = .ok (.iconst 4, 1) := by decide +kernel
theorem dL_told_214 : decode cL_told 214 = .ok (.invokevirtual 73, 3) := by decide +kernel
theorem dL_told_217 : decode cL_told 217 = .ok (.iload 4, 2) := by decide +kernel
theorem dL_told_219 : decode cL_told 219 = .ok (.if_icmp .eq 5, 3) := by decide +kernel
theorem dL_told_222 : decode cL_told 222 = .ok (.iconst 0, 1) := by decide +kernel
theorem dL_told_223 : decode cL_told 223 = .ok (.ireturn, 1) := by decide +kernel
theorem dL_told_224 : decode cL_told 224 = .ok (.aload_n 0, 1) := by decide +kernel
theorem dL_told_225 : decode cL_told 225 = .ok (.iload 4, 2) := by decide +kernel
theorem dL_told_227 : decode cL_told 227 = .ok (.invokevirtual 107, 3) := by decide +kernel
theorem dL_told_230 : decode cL_told 230 = .ok (.pop, 1) := by decide +kernel
theorem dL_told_231 : decode cL_told 231 = .ok (.aload_n 0, 1) := by decide +kernel
theorem dL_told_232 : decode cL_told 232 = .ok (.iconst 3, 1) := by decide +kernel
theorem dL_told_233 : decode cL_told 233 = .ok (.invokevirtual 73, 3) := by decide +kernel
theorem dL_told_236 : decode cL_told 236 = .ok (.iconst 1, 1) := by decide +kernel
theorem dL_told_237 : decode cL_told 237 = .ok (.if_icmp .ne 38, 3) := by decide +kernel
theorem dL_told_240 : decode cL_told 240 = .ok (.aload_n 0, 1) := by decide +kernel
theorem dL_told_241 : decode cL_told 241 = .ok (.iconst 1, 1) := by decide +kernel
theorem dL_told_242 : decode cL_told 242 = .ok (.invokevirtual 73, 3) := by decide +kernel
theorem dL_told_245 : decode cL_told 245 = .ok (.bipush 100, 2) := by decide +kernel
theorem dL_told_247 : decode cL_told 247 = .ok (.iload 4, 2) := by decide +kernel
theorem dL_told_249 : decode cL_told 249 = .ok (.imul, 1) := by decide +kernel
theorem dL_told_250 : decode cL_told 250 = .ok (.if_icmp .ne 25, 3) := by decide +kernel
theorem dL_told_253 : decode cL_told 253 = .ok (.aload_n 0, 1) := by decide +kernel
theorem dL_told_254 : decode cL_told 254 = .ok (.iconst 2, 1) := by decide +kernel
theorem dL_told_255 : decode cL_told 255 = .ok (.invokevirtual 73, 3) := by decide +kernel
theorem dL_told_258 : decode cL_told 258 = .ok (.iload_n 2, 1) := by decide +kernel
theorem dL_told_259 : decode cL_told 259 = .ok (.if_icmp .ne 16, 3) := by decide +kernel
theorem dL_told_262 : decode cL_told 262 = .ok (.aload_n 0, 1) := by decide +kernel
theorem dL_told_263 : decode cL_told 263 = .ok (.iconst 4, 1) := by decide +kernel
theorem dL_told_264 : decode cL_told 264 = .ok (.invokevirtual 73, 3) := by decide +kernel
theorem dL_told_267 : decode cL_told 267 = .ok (.iload_n 3, 1) := by decide +kernel
theorem dL_told_268 : decode cL_told 268 = .ok (.if_icmp .ne 7, 3) := by decide +kernel
theorem dL_told_271 : decode cL_told 271 = .ok (.iconst 1, 1) := by decide +kernel
theorem dL_told_272 : decode cL_told 272 = .ok (.goto 4, 3) := by decide +kernel
theorem dL_told_275 : decode cL_told 275 = .ok (.iconst 0, 1) := by decide +kernel
theorem dL_told_276 : decode cL_told 276 = .ok (.istore 5, 2) := by decide +kernel
theorem dL_told_278 : decode cL_told 278 = .ok (.aload_n 0, 1) := by decide +kernel
theorem dL_told_279 : decode cL_told 279 = .ok (.iload_n 3, 1) := by decide +kernel
theorem dL_told_280 : decode cL_told 280 = .ok (.invokevirtual 107, 3) := by decide +kernel
theorem dL_told_283 : decode cL_told 283 = .ok (.pop, 1) := by decide +kernel
theorem dL_told_284 : decode cL_told 284 = .ok (.iload 5, 2) := by decide +kernel
theorem dL_told_286 : decode cL_told 286 = .ok (.ifCond .eq 36, 3) := by decide +kernel
theorem dL_told_289 : decode cL_told 289 = .ok (.aload_n 0, 1) := by decide +kernel
theorem dL_told_290 : decode cL_told 290 = .ok (.iconst 3, 1) := by decide +kernel
theorem dL_told_291 : decode cL_told 291 = .ok (.invokevirtual 73, 3) := by decide +kernel
theorem dL_told_294 : decode cL_told 294 = .ok (.ifCond .ne 28, 3) := by decide +kernel
theorem dL_told_297 : decode cL_told 297 = .ok (.aload_n 0, 1) := by decide +kernel
theorem dL_told_298 : decode cL_told 298 = .ok (.iconst 1, 1) := by decide +kernel
theorem dL_told_299 : decode cL_told 299 = .ok (.invokevirtual 73, 3) := by decide +kernel
theorem dL_told_302 : decode cL_told 302 = .ok (.bipush 100, 2) := by decide +kernel
theorem dL_told_304 : decode cL_told 304 = .ok (.iload 4, 2) := by decide +kernel
theorem dL_told_306 : decode cL_told 306 = .ok (.imul, 1) := by decide +kernel
theorem dL_told_307 : decode cL_told 307 = .ok (.if_icmp .ne 15, 3) := by decide +kernel
theorem dL_told_310 : decode cL_told 310 = .ok (.aload_n 0, 1) := by decide +kernel
theorem dL_told_311 : decode cL_told 311 = .ok (.iconst 2, 1) := by decide +kernel
theorem dL_told_312 : decode cL_told 312 = .ok (.invokevirtual 73, 3) := by decide +kernel
theorem dL_told_315 : decode cL_told 315 = .ok (.ifCond .ne 7, 3) := by decide +kernel
theorem dL_told_318 : decode cL_told 318 = .ok (.iconst 1, 1) := by decide +kernel
theorem dL_told_319 : decode cL_told 319 = .ok (.goto 4, 3) := by decide +kernel
theorem dL_told_322 : decode cL_told 322 = .ok (.iconst 0, 1) := by decide +kernel
theorem dL_told_323 : decode cL_told 323 = .ok (.ireturn, 1) := by decide +kernel
