set_option maxRecDepth 100000 in
theorem ggL_back_X9_compass : GoodIn wsL_back wsX9_compass := goodIn_r _ [6, 7, 8, 9, 10, 11, 12, 13, 14, 15, 16, 17, 18, 19, 20, 21, 22, 23, 24, 25, 26, 27, 28, 29, 30, 31, 32, 33, 34, 35, 36, 37, 5, 38, 39, 40, 41, 42, 43, 44, 45, 46, 47, 48, 49, 50, 51, 52, 53, 54, 55, 56, 57, 58, 59, 60, 61, 62, 63, 64, 65, 66, 67, 68, 69, 70, 71, 72, 73, 74, 75, 76, 77, 78, 79, 80, 81, 82, 83, 84, 85, 86, 87, 88, 89, 90, 91, 92, 93, 94, 393, 394, 395, 396, 397, 398, 399, 400, 401, 402, 403, 404, 405, 406, 407, 408, 409, 410, 411, 412, 413, 414, 415, 416, 417, 418, 419, 420, 421, 422, 423, 424, 425, 426, 427, 428, 429] rfl (by decide +kernel)
set_option maxRecDepth 100000 in
theorem gL_back_X9_compass : GoodIn wsL_back (wsV RL 76 RX9 yX9_compass wsX9_compass) := goodIn_app (goodIn_of _ (by decide +kernel)) ggL_back_X9_compass
set_option maxRecDepth 100000 in
theorem ggL_back_X9_state : GoodIn wsL_back wsX9_state := goodIn_r _ [98, 99, 100, 7, 8, 101, 102, 103, 104, 105, 106, 5, 107, 108, 37, 38, 109, 110, 111, 112, 113, 18, 114, 115, 116, 117, 118, 119, 120, 121, 122, 123, 124, 125, 126, 127, 128, 129, 130, 26, 131, 33, 132, 133, 134, 135, 136, 137, 138, 139, 11, 14, 15, 140, 16, 17, 141, 142, 143, 144, 145, 146, 147, 148, 393, 394, 395, 396, 397, 398, 399, 400, 401, 402, 403, 404, 405, 406, 407, 408, 409, 410, 411, 412, 425, 426, 427, 428, 429, 430, 431, 432, 433, 413, 414, 415, 416, 417, 418, 419, 420, 421, 422, 423, 424, 434, 435, 436, 437, 438, 439, 440, 441] rfl (by decide +kernel)
set_option maxRecDepth 100000 in
theorem gL_back_X9_state : GoodIn wsL_back (wsV RL 73 RX9 yX9_state wsX9_state) := goodIn_app (goodIn_of _ (by decide +kernel)) ggL_back_X9_state
set_option maxRecDepth 100000 in
theorem ggL_back_L_up : GoodIn wsL_back wsL_up := goodIn_r _ [152, 153] rfl (by decide +kernel)
set_option maxRecDepth 100000 in
theorem gL_back_L_up : GoodIn wsL_back (va_wsS RL 22 yL_up wsL_up) := goodIn_app (goodIn_of _ (by decide +kernel)) ggL_back_L_up
set_option maxRecDepth 100000 in
theorem ggL_back_X9_pass : GoodIn wsL_back wsX9_pass := goodIn_r _ [157, 7, 113, 158, 147, 11, 140, 159, 160, 5, 161, 162, 105, 106, 107, 163, 164, 165, 166, 167, 168, 169, 170, 171, 172, 47, 173, 174, 175, 176, 177, 26, 178, 179, 180, 181, 182, 183, 184, 28, 185, 186, 123, 29, 187, 188, 189, 33, 190, 191, 67, 192, 193, 194, 195, 196, 197, 198, 199, 200, 201, 202, 125, 203, 204, 205, 206, 207, 208, 209, 210, 211, 212, 213, 214, 215, 216, 217, 218, 219, 220, 221, 222, 223, 224, 91, 69, 83, 82, 225, 226, 227, 228, 229, 94, 230, 231, 232, 233, 234, 235, 236, 237, 238, 239, 240, 135, 241, 242, 243, 244, 245, 246, 247, 248, 249, 250, 251, 252, 253, 254, 255, 256, 257, 258, 259, 260, 261, 262, 263, 264, 265, 266, 267, 268, 269, 270, 271, 272, 273, 274, 275, 276, 93, 277, 278, 279, 280, 281, 282, 283, 284, 285, 286, 287, 288, 30, 289, 290, 43, 44, 45, 46, 48, 49, 57, 58, 59, 60, 50, 51, 52, 53, 54, 55, 37, 38, 291, 24, 25, 27, 31, 32, 34, 35, 36, 39, 40, 41, 42, 56, 61, 62, 63, 292, 293, 294, 295, 296, 297, 298, 299, 300, 301, 302, 303, 304, 305, 306, 307, 308, 309, 310, 311, 312, 313, 314, 315, 316, 317, 318, 319, 320, 321, 322, 323, 324, 325, 126, 326, 327, 328, 329, 127, 330, 331, 332, 333, 334, 335, 336, 337, 338, 339, 393, 394, 395, 396, 397, 398, 399, 400, 401, 402, 403, 404, 405, 413, 414, 415, 416, 417, 418, 439, 440, 441, 425, 426, 427, 428, 429, 406, 407, 408, 409, 410, 411, 412, 421, 422, 423, 424, 430, 431, 432, 433, 419, 420] rfl (by decide +kernel)
set_option maxRecDepth 100000 in
theorem gL_back_X9_pass : GoodIn wsL_back (wsV RL 107 RX9 yX9_pass wsX9_pass) := goodIn_app (goodIn_of _ (by decide +kernel)) ggL_back_X9_pass
set_option maxRecDepth 100000 in
theorem ggL_back_X9_set : GoodIn wsL_back wsX9_set := goodIn_r _ [343, 99, 344, 345, 147, 7, 104, 105, 106, 5, 107, 108, 37, 38, 163, 164, 165, 166, 167, 168, 169, 170, 171, 172, 47, 173, 174, 175, 176, 177, 26, 178, 179, 180, 181, 182, 183, 184, 28, 185, 186, 123, 29, 187, 188, 189, 33, 190, 191, 67, 192, 193, 194, 195, 196, 197, 198, 199, 200, 201, 202, 125, 203, 204, 205, 206, 207, 208, 209, 210, 211, 212, 213, 214, 215, 216, 217, 218, 219, 220, 221, 222, 223, 224, 91, 69, 83, 82, 225, 226, 227, 228, 229, 94, 230, 231, 232, 233, 234, 235, 236, 237, 238, 239, 240, 135, 241, 242, 243, 244, 245, 246, 247, 248, 249, 250, 251, 252, 253, 254, 255, 256, 257, 258, 259, 260, 261, 262, 263, 264, 265, 266, 267, 268, 269, 270, 271, 272, 273, 274, 275, 276, 93, 277, 278, 279, 280, 281, 282, 283, 346, 317, 318, 393, 394, 395, 396, 397, 398, 399, 400, 401, 402, 403, 404, 405, 439, 440, 441, 425, 426, 427, 428, 429, 406, 407, 408, 409, 410, 411, 412, 413, 414, 415, 416, 417, 418, 421, 422, 423, 424, 430, 431, 432, 433, 419, 420] rfl (by decide +kernel)
set_option maxRecDepth 100000 in
theorem gL_back_X9_set : GoodIn wsL_back (wsV RL 26 RX9 yX9_set wsX9_set) := goodIn_app (goodIn_of _ (by decide +kernel)) ggL_back_X9_set
set_option maxRecDepth 100000 in
theorem ggL_back_X9_correct : GoodIn wsL_back wsX9_correct := goodIn_r _ [350, 147, 7, 8, 20, 143, 351, 352, 5, 353, 354, 355, 105, 106, 107, 356, 357, 358, 359, 163, 164, 165, 166, 167, 168, 169, 170, 171, 172, 47, 173, 174, 175, 176, 177, 26, 178, 179, 180, 181, 182, 183, 184, 28, 185, 186, 123, 29, 187, 188, 189, 33, 190, 191, 67, 192, 193, 194, 195, 196, 197, 198, 199, 200, 201, 202, 125, 203, 204, 205, 206, 207, 208, 209, 210, 211, 212, 213, 214, 215, 216, 217, 218, 219, 220, 221, 222, 223, 224, 91, 69, 83, 82, 225, 226, 227, 228, 229, 94, 230, 231, 232, 233, 234, 235, 236, 237, 238, 239, 240, 135, 241, 242, 243, 244, 245, 246, 247, 248, 249, 250, 251, 252, 253, 254, 255, 256, 257, 258, 259, 260, 261, 262, 263, 264, 265, 266, 267, 268, 269, 270, 271, 272, 273, 274, 275, 276, 93, 277, 278, 279, 280, 281, 282, 283, 23, 24, 25, 27, 30, 31, 32, 34, 35, 36, 37, 38, 39, 40, 41, 42, 43, 44, 45, 46, 48, 49, 50, 51, 52, 53, 54, 55, 56, 57, 58, 59, 60, 61, 62, 63, 393, 394, 395, 396, 397, 398, 399, 400, 401, 402, 403, 404, 405, 406, 407, 408, 409, 410, 411, 412, 439, 440, 441, 425, 426, 427, 428, 429, 413, 414, 415, 416, 417, 418, 421, 422, 423, 424, 430, 431, 432, 433, 419, 420] rfl (by decide +kernel)
set_option maxRecDepth 100000 in
theorem gL_back_X9_correct : GoodIn wsL_back (wsV RL 89 RX9 yX9_correct wsX9_correct) := goodIn_app (goodIn_of _ (by decide +kernel)) ggL_back_X9_correct
set_option maxRecDepth 100000 in
theorem ggL_back_X9_forgetSwings : GoodIn wsL_back wsX9_forgetSwings := goodIn_r _ [363, 147, 7, 11, 14, 15, 163, 164, 165, 166, 167, 168, 169, 170, 171, 172, 47, 173, 174, 5, 175, 176, 177, 26, 178, 179, 180, 181, 182, 183, 184, 28, 185, 186, 123, 29, 187, 188, 189, 33, 190, 191, 67, 192, 193, 194, 195, 196, 197, 198, 199, 200, 201, 202, 125, 203, 204, 205, 206, 207, 208, 209, 210, 211, 212, 213, 214, 215, 216, 217, 218, 219, 220, 221, 222, 223, 224, 91, 69, 83, 82, 225, 226, 227, 228, 229, 94, 230, 231, 232, 233, 234, 235, 236, 237, 238, 239, 240, 135, 241, 242, 243, 244, 245, 246, 247, 248, 249, 250, 251, 252, 253, 254, 255, 256, 257, 258, 259, 260, 261, 262, 263, 264, 265, 266, 267, 268, 269, 270, 271, 272, 273, 274, 275, 276, 93, 277, 278, 279, 280, 281, 282, 283, 364, 365, 366, 367, 368, 369, 370, 371, 393, 394, 395, 396, 397, 398, 399, 400, 401, 402, 403, 404, 405, 413, 414, 415, 416, 417, 418, 419, 420, 439, 440, 441, 425, 426, 427, 428, 429, 406, 407, 408, 409, 410, 411, 412, 421, 422, 423, 424, 430, 431, 432, 433] rfl (by decide +kernel)
set_option maxRecDepth 100000 in
theorem gL_back_X9_forgetSwings : GoodIn wsL_back (wsV RL 160 RX9 yX9_forgetSwings wsX9_forgetSwings) := goodIn_app (goodIn_of _ (by decide +kernel)) ggL_back_X9_forgetSwings
set_option maxRecDepth 100000 in
theorem ggL_back_X9_steer : GoodIn wsL_back wsX9_steer := goodIn_r _ [375, 147, 7, 18, 116, 117, 114, 115, 376, 377, 5, 378, 379, 105, 106, 107, 356, 357, 358, 359, 163, 164, 165, 166, 167, 168, 169, 170, 171, 172, 47, 173, 174, 175, 176, 177, 26, 178, 179, 180, 181, 182, 183, 184, 28, 185, 186, 123, 29, 187, 188, 189, 33, 190, 191, 67, 192, 193, 194, 195, 196, 197, 198, 199, 200, 201, 202, 125, 203, 204, 205, 206, 207, 208, 209, 210, 211, 212, 213, 214, 215, 216, 217, 218, 219, 220, 221, 222, 223, 224, 91, 69, 83, 82, 225, 226, 227, 228, 229, 94, 230, 231, 232, 233, 234, 235, 236, 237, 238, 239, 240, 135, 241, 242, 243, 244, 245, 246, 247, 248, 249, 250, 251, 252, 253, 254, 255, 256, 257, 258, 259, 260, 261, 262, 263, 264, 265, 266, 267, 268, 269, 270, 271, 272, 273, 274, 275, 276, 93, 277, 278, 279, 280, 281, 282, 283, 380, 381, 382, 383, 393, 394, 395, 396, 397, 398, 399, 400, 401, 402, 403, 404, 405, 425, 426, 427, 428, 429, 430, 431, 432, 433, 439, 440, 441, 406, 407, 408, 409, 410, 411, 412, 413, 414, 415, 416, 417, 418, 421, 422, 423, 424, 419, 420] rfl (by decide +kernel)
set_option maxRecDepth 100000 in
theorem gL_back_X9_steer : GoodIn wsL_back (wsV RL 83 RX9 yX9_steer wsX9_steer) := goodIn_app (goodIn_of _ (by decide +kernel)) ggL_back_X9_steer
set_option maxRecDepth 100000 in
theorem ggL_back_X9_undo : GoodIn wsL_back wsX9_undo := goodIn_r _ [387, 147, 148, 7, 388, 389, 390, 166, 391, 169, 170, 168, 392, 238, 239, 26, 240, 28, 29, 33, 192, 196, 135, 241, 242, 243, 5, 244, 245, 246, 247, 123, 248, 125, 249, 250, 251, 252, 253, 254, 255, 202, 256, 210, 211, 212, 257, 258, 259, 260, 189, 261, 216, 262, 263, 264, 265, 217, 219, 266, 267, 268, 67, 269, 69, 83, 82, 270, 271, 272, 273, 274, 275, 91, 276, 94, 93, 277, 278, 279, 195, 280, 233, 235, 281, 282, 283, 393, 394, 395, 396, 397, 439, 440, 441, 398, 399, 400, 401, 402, 403, 404, 405, 425, 426, 427, 428, 429, 430, 431, 432, 433, 406, 407, 408, 409, 410, 411, 412, 413, 414, 415, 416, 417, 418, 419, 420, 421, 422, 423, 424] rfl (by decide +kernel)
set_option maxRecDepth 100000 in
theorem gL_back_X9_undo : GoodIn wsL_back (wsV RL 193 RX9 yX9_undo wsX9_undo) := goodIn_app (goodIn_of _ (by decide +kernel)) ggL_back_X9_undo
theorem dL_back_0 : decode cL_back 0 = .ok (.aload_n 0, 1) := by decide +kernel
theorem dL_back_1 : decode cL_back 1 = .ok (.iconst 0, 1) := by decide +kernel
theorem dL_back_2 : decode cL_back 2 = .ok (.invokevirtual 76, 3) := by decide +kernel
theorem dL_back_5 : decode cL_back 5 = .ok (.istore_n 2, 1) := by decide +kernel
theorem dL_back_6 : decode cL_back 6 = .ok (.aload_n 0, 1) := by decide +kernel
theorem dL_back_7 : decode cL_back 7 = .ok (.iconst 1, 1) := by decide +kernel
theorem dL_back_8 : decode cL_back 8 = .ok (.invokevirtual 76, 3) := by decide +kernel
theorem dL_back_11 : decode cL_back 11 = .ok (.istore_n 3, 1) := by decide +kernel
theorem dL_back_12 : decode cL_back 12 = .ok (.aload_n 0, 1) := by decide +kernel
theorem dL_back_13 : decode cL_back 13 = .ok (.iconst 2, 1) := by decide +kernel
theorem dL_back_14 : decode cL_back 14 = .ok (.invokevirtual 76, 3) := by decide +kernel
theorem dL_back_17 : decode cL_back 17 = .ok (.istore 4, 2) := by decide +kernel
theorem dL_back_19 : decode cL_back 19 = .ok (.aload_n 0, 1) := by decide +kernel
theorem dL_back_20 : decode cL_back 20 = .ok (.iconst 0, 1) := by decide +kernel
theorem dL_back_21 : decode cL_back 21 = .ok (.invokevirtual 73, 3) := by decide +kernel
theorem dL_back_24 : decode cL_back 24 = .ok (.istore 5, 2) := by decide +kernel
theorem dL_back_26 : decode cL_back 26 = .ok (.aload_n 0, 1) := by decide +kernel
theorem dL_back_27 : decode cL_back 27 = .ok (.bipush 13, 2) := by decide +kernel
theorem dL_back_29 : decode cL_back 29 = .ok (.invokevirtual 73, 3) := by decide +kernel
theorem dL_back_32 : decode cL_back 32 = .ok (.istore 6, 2) := by decide +kernel
theorem dL_back_34 : decode cL_back 34 = .ok (.aload_n 0, 1) := by decide +kernel
theorem dL_back_35 : decode cL_back 35 = .ok (.iconst 4, 1) := by decide +kernel
theorem dL_back_36 : decode cL_back 36 = .ok (.invokevirtual 76, 3) := by decide +kernel
theorem dL_back_39 : decode cL_back 39 = .ok (.istore 7, 2) := by decide +kernel
theorem dL_back_41 : decode cL_back 41 = .ok (.aload_n 0, 1) := by decide +kernel
theorem dL_back_42 : decode cL_back 42 = .ok (.iconst 5, 1) := by decide +kernel
theorem dL_back_43 : decode cL_back 43 = .ok (.invokevirtual 76, 3) := by decide +kernel
theorem dL_back_46 : decode cL_back 46 = .ok (.istore 8, 2) := by decide +kernel
theorem dL_back_48 : decode cL_back 48 = .ok (.aload_n 0, 1) := by decide +kernel
theorem dL_back_49 : decode cL_back 49 = .ok (.iconst 1, 1) := by decide +kernel
theorem dL_back_50 : decode cL_back 50 = .ok (.iload_n 1, 1) := by decide +kernel
theorem dL_back_51 : decode cL_back 51 = .ok (.bipush 100, 2) := by decide +kernel
theorem dL_back_53 : decode cL_back 53 = .ok (.invokestatic 22, 3) := by decide +kernel
theorem dL_back_56 : decode cL_back 56 = .ok (.iadd, 1) := by decide +kernel
theorem dL_back_57 : decode cL_back 57 = .ok (.invokevirtual 107, 3) := by decide +kernel
theorem dL_back_60 : decode cL_back 60 = .ok (.pop, 1) := by decide +kernel
theorem dL_back_61 : decode cL_back 61 = .ok (.aload_n 0, 1) := by decide +kernel
theorem dL_back_62 : decode cL_back 62 = .ok (.iconst 0, 1) := by decide +kernel
theorem dL_back_63 : decode cL_back 63 = .ok (.iconst 1, 1) := by decide +kernel
theorem dL_back_64 : decode cL_back 64 = .ok (.iload_n 1, 1) := by decide +kernel
theorem dL_back_65 : decode cL_back 65 = .ok (.iconst 3, 1) := by decide +kernel
theorem dL_back_66 : decode cL_back 66 = .ok (.ishr, 1) := by decide +kernel
theorem dL_back_67 : decode cL_back 67 = .ok (.bipush 100, 2) := by decide +kernel
theorem dL_back_69 : decode cL_back 69 = .ok (.invokestatic 22, 3) := by decide +kernel
theorem dL_back_72 : decode cL_back 72 = .ok (.iadd, 1) := by decide +kernel
theorem dL_back_73 : decode cL_back 73 = .ok (.invokevirtual 26, 3) := by decide +kernel
theorem dL_back_76 : decode cL_back 76 = .ok (.pop, 1) := by decide +kernel
theorem dL_back_77 : decode cL_back 77 = .ok (.aload_n 0, 1) := by decide +kernel
theorem dL_back_78 : decode cL_back 78 = .ok (.iload_n 1, 1) := by decide +kernel
theorem dL_back_79 : decode cL_back 79 = .ok (.bipush 70, 2) := by decide +kernel
theorem dL_back_81 : decode cL_back 81 = .ok (.invokestatic 22, 3) := by decide +kernel
theorem dL_back_84 : decode cL_back 84 = .ok (.iload_n 1, 1) := by decide +kernel
theorem dL_back_85 : decode cL_back 85 = .ok (.bipush 6, 2) := by decide +kernel
theorem dL_back_87 : decode cL_back 87 = .ok (.ishr, 1) := by decide +kernel
theorem dL_back_88 : decode cL_back 88 = .ok (.sipush 401, 3) := by decide +kernel
theorem dL_back_91 : decode cL_back 91 = .ok (.invokestatic 22, 3) := by decide +kernel
theorem dL_back_94 : decode cL_back 94 = .ok (.invokevirtual 89, 3) := by decide +kernel
theorem dL_back_97 : decode cL_back 97 = .ok (.pop, 1) := by decide +kernel
theorem dL_back_98 : decode cL_back 98 = .ok (.aload_n 0, 1) := by decide +kernel
theorem dL_back_99 : decode cL_back 99 = .ok (.invokevirtual 160, 3) := by decide +kernel
theorem dL_back_102 : decode cL_back 102 = .ok (.pop, 1) := by decide +kernel
theorem dL_back_103 : decode cL_back 103 = .ok (.aload_n 0, 1) := by decide +kernel
theorem dL_back_104 : decode cL_back 104 = .ok (.iload_n 1, 1) := by decide +kernel
theorem dL_back_105 : decode cL_back 105 = .ok (.ldc 64, 2) := by decide +kernel
theorem dL_back_107 : decode cL_back 107 = .ok (.invokestatic 22, 3) := by decide +kernel
theorem dL_back_110 : decode cL_back 110 = .ok (.sipush 400, 3) := by decide +kernel
theorem dL_back_113 : decode cL_back 113 = .ok (.invokevirtual 83, 3) := by decide +kernel
theorem dL_back_116 : decode cL_back 116 = .ok (.pop, 1) := by decide +kernel
theorem dL_back_117 : decode cL_back 117 = .ok (.aload_n 0, 1) := by decide +kernel
theorem dL_back_118 : decode cL_back 118 = .ok (.bipush 21, 2) := by decide +kernel
theorem dL_back_120 : decode cL_back 120 = .ok (.invokevirtual 73, 3) := by decide +kernel
theorem dL_back_123 : decode cL_back 123 = .ok (.iconst 5, 1) := by decide +kernel
theorem dL_back_124 : decode cL_back 124 = .ok (.if_icmp .ge 5, 3) := by decide +kernel
theorem dL_back_127 : decode cL_back 127 = .ok (.iconst 0, 1) := by decide +kernel
theorem dL_back_128 : decode cL_back 128 = .ok (.ireturn, 1) := by decide +kernel
theorem dL_back_129 : decode cL_back 129 = .ok (.aload_n 0, 1) := by decide +kernel
theorem dL_back_130 : decode cL_back 130 = .ok (.bipush 21, 2) := by decide +kernel
theorem dL_back_132 : decode cL_back 132 = .ok (.invokevirtual 73, 3) := by decide +kernel
theorem dL_back_135 : decode cL_back 135 = .ok (.istore 9, 2) := by decide +kernel
theorem dL_back_137 : decode cL_back 137 = .ok (.iconst 1, 1) := by decide +kernel
theorem dL_back_138 : decode cL_back 138 = .ok (.istore 10, 2) := by decide +kernel
theorem dL_back_140 : decode cL_back 140 = .ok (.iload 10, 2) := by decide +kernel
theorem dL_back_142 : decode cL_back 142 = .ok (.iconst 5, 1) := by decide +kernel
theorem dL_back_143 : decode cL_back 143 = .ok (.if_icmp .gt 23, 3) := by decide +kernel
theorem dL_back_146 : decode cL_back 146 = .ok (.aload_n 0, 1) := by decide +kernel
theorem dL_back_147 : decode cL_back 147 = .ok (.invokevirtual 193, 3) := by decide +kernel
theorem dL_back_150 : decode cL_back 150 = .ok (.iload 9, 2) := by decide +kernel
theorem dL_back_152 : decode cL_back 152 = .ok (.iload 10, 2) := by decide +kernel
theorem dL_back_154 : decode cL_back 154 = .ok (.isub, 1) := by decide +kernel
theorem dL_back_155 : decode cL_back 155 = .ok (.if_icmp .eq 5, 3) := by decide +kernel
theorem dL_back_158 : decode cL_back 158 = .ok (.iconst 0, 1) := by decide +kernel
theorem dL_back_159 : decode cL_back 159 = .ok (.ireturn, 1) := by decide +kernel
theorem dL_back_160 : decode cL_back 160 = .ok (.iinc 10 1, 3) := by decide +kernel
theorem dL_back_163 : decode cL_back 163 = .ok (.goto (-23), 3) := by decide +kernel
theorem dL_back_166 : decode cL_back 166 = .ok (.aload_n 0, 1) := by decide +kernel
theorem dL_back_167 : decode cL_back 167 = .ok (.iconst 0, 1) := by decide +kernel
theorem dL_back_168 : decode cL_back 168 = .ok (.invokevirtual 76, 3) := by decide +kernel
theorem dL_back_171 : decode cL_back 171 = .ok (.iload_n 2, 1) := by decide +kernel
theorem dL_back_172 : decode cL_back 172 = .ok (.if_icmp .ne 67, 3) := by decide +kernel
theorem dL_back_175 : decode cL_back 175 = .ok (.aload_n 0, 1) := by decide +kernel
theorem dL_back_176 : decode cL_back 176 = .ok (.iconst 1, 1) := by decide +kernel
theorem dL_back_177 : decode cL_back 177 = .ok (.invokevirtual 76, 3) := by decide +kernel
theorem dL_back_180 : decode cL_back 180 = .ok (.iload_n 3, 1) := by decide +kernel
theorem dL_back_181 : decode cL_back 181 = .ok (.if_icmp .ne 58, 3) := by decide +kernel
theorem dL_back_184 : decode cL_back 184 = .ok (.aload_n 0, 1) := by decide +kernel
theorem dL_back_185 : decode cL_back 185 = .ok (.iconst 2, 1) := by decide +kernel
theorem dL_back_186 : decode cL_back 186 = .ok (.invokevirtual 76, 3) := by decide +kernel
theorem dL_back_189 : decode cL_back 189 = .ok (.iload 4, 2) := by decide +kernel
theorem dL_back_191 : decode cL_back 191 = .ok (.if_icmp .ne 48, 3) := by decide +kernel
theorem dL_back_194 : decode cL_back 194 = .ok (.aload_n 0, 1) := by decide +kernel
theorem dL_back_195 : decode cL_back 195 = .ok (.iconst 0, 1) := by decide +kernel
theorem dL_back_196 : decode cL_back 196 = .ok (.invokevirtual 73, 3) := by decide +kernel
theorem dL_back_199 : decode cL_back 199 = .ok (.iload 5, 2) := by decide +kernel
theorem dL_back_201 : decode cL_back 201 = .ok (.if_icmp .ne 38, 3) := by decide +kernel
theorem dL_back_204 : decode cL_back 204 = .ok (.aload_n 0, 1) := by decide +kernel
theorem dL_back_205 : decode cL_back 205 = .ok (.bipush 13, 2) := by decide +kernel
theorem dL_back_207 : decode cL_back 207 = .ok (.invokevirtual 73, 3) := by decide +kernel
theorem dL_back_210 : decode cL_back 210 = .ok (.iload 6, 2) := by decide +kernel
theorem dL_back_212 : decode cL_back 212 = .ok (.if_icmp .ne 27, 3) := by decide +kernel
theorem dL_back_215 : decode cL_back 215 = .ok (.aload_n 0, 1) := by decide +kernel
theorem dL_back_216 : decode cL_back 216 = .ok (.iconst 4, 1) := by decide +kernel
theorem dL_back_217 : decode cL_back 217 = .ok (.invokevirtual 76, 3) := by decide +kernel
theorem dL_back_220 : decode cL_back 220 = .ok (.iload 7, 2) := by decide +kernel
theorem dL_back_222 : decode cL_back 222 = .ok (.if_icmp .ne 17, 3) := by decide +kernel
theorem dL_back_225 : decode cL_back 225 = .ok (.aload_n 0, 1) := by decide +kernel
theorem dL_back_226 : decode cL_back 226 = .ok (.iconst 5, 1) := by decide +kernel
theorem dL_back_227 : decode cL_back 227 = .ok (.invokevirtual 76, 3) := by decide +kernel
theorem dL_back_230 : decode cL_back 230 = .ok (.iload 8, 2) := by decide +kernel
theorem dL_back_232 : decode cL_back 232 = .ok (.if_icmp .ne 7, 3) := by decide +kernel
theorem dL_back_235 : decode cL_back 235 = .ok (.iconst 1, 1) := by decide +kernel
theorem dL_back_236 : decode cL_back 236 = .ok (.goto 4, 3) := by decide +kernel
theorem dL_back_239 : decode cL_back 239 = .ok (.iconst 0, 1) := by decide +kernel
theorem dL_back_240 : decode cL_back 240 = .ok (.ireturn, 1) := by decide +kernel
