set_option maxRecDepth 100000 in
theorem ggL_comes_L_up : GoodIn wsL_comes wsL_up := goodIn_r _ [5, 6] rfl (by decide +kernel)
set_option maxRecDepth 100000 in
theorem gL_comes_L_up : GoodIn wsL_comes (va_wsS RL 22 yL_up wsL_up) := goodIn_app (goodIn_of _ (by decide +kernel)) ggL_comes_L_up
set_option maxRecDepth 100000 in
theorem ggL_comes_X9_calmIn : GoodIn wsL_comes wsX9_calmIn := goodIn_r _ [11, 12, 13, 14, 15, 16, 17, 18, 10, 19, 20, 21, 22, 23, 24, 25, 26, 27, 28, 29, 30, 31, 32, 33, 34, 35, 36, 37, 38, 39, 40, 41, 42, 43, 44, 45, 46, 47, 48, 49, 50, 51, 52, 53, 54, 55, 56, 57, 58, 59, 60, 61, 62, 63, 64, 65, 66, 67, 68, 69, 70, 71, 72, 73, 74, 75, 76, 77, 78, 79, 80, 81, 82, 83, 84, 85, 86, 87, 88, 89, 90, 91, 92, 93, 94, 95, 96, 97, 98, 99, 100, 101, 102, 103, 104, 105, 106, 107, 108, 109, 110, 111, 112, 113, 114, 115, 116, 117, 118, 119, 120, 121, 122, 123, 124, 125, 126, 127, 128, 129, 130, 131, 132, 133, 134, 135, 136, 137, 138, 139, 140, 141, 142, 143, 144, 145, 146, 147, 148, 149, 150, 151, 152, 153, 154, 155, 156, 157, 158, 159, 160, 161, 162, 163, 164, 165, 166, 167, 168, 169, 170, 171, 172, 173, 174, 175, 176, 177, 178, 179, 180, 181, 182, 183, 184, 185, 186, 187, 188, 189, 190, 191, 192, 193, 194, 195, 196, 197, 198, 199, 200, 201, 202, 203, 406, 407, 408, 409, 410, 411, 412, 413, 414, 415, 416, 417, 418, 419, 420, 421, 422, 423, 424, 425, 426, 427, 428, 429, 430, 431, 432, 433, 434, 435, 436, 437, 438, 439, 440, 441, 442, 443, 444, 445, 446] rfl (by decide +kernel)
set_option maxRecDepth 100000 in
theorem gL_comes_X9_calmIn : GoodIn wsL_comes (wsV RL 151 RX9 yX9_calmIn wsX9_calmIn) := goodIn_app (goodIn_of _ (by decide +kernel)) ggL_comes_X9_calmIn
set_option maxRecDepth 100000 in
theorem ggL_comes_X9_bestLevel : GoodIn wsL_comes wsX9_bestLevel := goodIn_r _ [207, 12, 208, 17, 18, 10, 19, 20, 21, 22, 23, 24, 14, 15, 16, 25, 26, 27, 28, 29, 30, 31, 32, 33, 34, 35, 36, 37, 38, 39, 40, 41, 42, 43, 44, 45, 46, 47, 48, 49, 50, 51, 52, 53, 54, 55, 56, 57, 58, 59, 60, 61, 62, 63, 64, 65, 66, 67, 68, 69, 70, 71, 72, 73, 74, 75, 76, 77, 78, 79, 80, 81, 82, 83, 84, 85, 86, 87, 88, 89, 90, 91, 92, 93, 94, 95, 96, 97, 98, 99, 100, 101, 102, 103, 104, 105, 106, 107, 108, 109, 110, 111, 112, 113, 114, 115, 116, 117, 118, 119, 120, 121, 122, 123, 124, 125, 126, 127, 128, 129, 130, 131, 132, 133, 134, 135, 136, 137, 138, 139, 140, 141, 142, 143, 144, 145, 146, 147, 148, 149, 150, 151, 152, 153, 154, 155, 156, 157, 158, 159, 160, 161, 162, 163, 164, 165, 166, 167, 168, 169, 170, 171, 172, 173, 174, 175, 176, 177, 178, 179, 180, 181, 182, 183, 184, 185, 186, 187, 188, 189, 190, 191, 192, 193, 194, 195, 196, 197, 198, 199, 200, 201, 202, 203, 406, 407, 408, 409, 410, 411, 412, 413, 414, 415, 416, 417, 418, 419, 420, 421, 422, 423, 424, 425, 426, 427, 428, 429, 430, 431, 432, 433, 434, 435, 436, 437, 438, 439, 440, 441, 442, 443, 444, 445, 446] rfl (by decide +kernel)
set_option maxRecDepth 100000 in
theorem gL_comes_X9_bestLevel : GoodIn wsL_comes (wsV RL 154 RX9 yX9_bestLevel wsX9_bestLevel) := goodIn_app (goodIn_of _ (by decide +kernel)) ggL_comes_X9_bestLevel
set_option maxRecDepth 100000 in
theorem ggL_comes_X9_save : GoodIn wsL_comes wsX9_save := goodIn_r _ [212, 213, 14, 214, 17, 18, 10, 19, 215, 216, 217, 218, 219, 28, 220, 221, 222, 223, 224, 225, 1, 30, 226, 227, 43, 31, 228, 229, 62, 32, 230, 231, 74, 33, 232, 233, 92, 34, 234, 235, 236, 237, 238, 53, 45, 239, 240, 241, 242, 195, 196, 106, 197, 55, 56, 57, 243, 244, 245, 64, 69, 246, 70, 247, 248, 249, 250, 251, 85, 76, 77, 78, 252, 253, 254, 255, 256, 87, 257, 258, 259, 94, 260, 95, 261, 25, 26, 27, 29, 35, 36, 37, 38, 39, 40, 41, 42, 44, 46, 47, 48, 49, 50, 51, 52, 54, 58, 59, 60, 61, 63, 65, 66, 67, 68, 71, 72, 73, 75, 79, 80, 81, 82, 83, 84, 86, 88, 89, 90, 91, 93, 96, 97, 98, 406, 407, 408, 409, 410, 411, 412, 413, 414, 415, 416, 417, 418, 426, 427, 428, 429, 430, 419, 420, 421, 422, 423, 424, 425, 435, 436, 437, 438, 439, 440, 443, 444, 445, 446, 431, 432, 433, 434, 441, 442] rfl (by decide +kernel)
set_option maxRecDepth 100000 in
theorem gL_comes_X9_save : GoodIn wsL_comes (wsV RL 157 RX9 yX9_save wsX9_save) := goodIn_app (goodIn_of _ (by decide +kernel)) ggL_comes_X9_save
set_option maxRecDepth 100000 in
theorem ggL_comes_X9_forgetSwings : GoodIn wsL_comes wsX9_forgetSwings := goodIn_r _ [265, 266, 14, 267, 268, 269, 270, 271, 272, 273, 274, 275, 276, 277, 278, 174, 106, 175, 216, 10, 217, 218, 219, 28, 220, 221, 222, 223, 224, 225, 1, 30, 226, 227, 43, 31, 228, 229, 62, 32, 230, 231, 74, 33, 232, 233, 92, 34, 234, 235, 236, 237, 238, 53, 45, 239, 240, 241, 242, 195, 196, 197, 55, 56, 57, 243, 244, 245, 64, 69, 246, 70, 247, 248, 249, 250, 251, 85, 76, 77, 78, 252, 253, 254, 255, 256, 87, 257, 258, 259, 94, 260, 95, 261, 25, 26, 27, 29, 35, 36, 37, 38, 39, 40, 41, 42, 44, 46, 47, 48, 49, 50, 51, 52, 54, 58, 59, 60, 61, 63, 65, 66, 67, 68, 71, 72, 73, 75, 79, 80, 81, 82, 83, 84, 86, 88, 89, 90, 91, 93, 96, 97, 98, 279, 280, 281, 282, 283, 284, 285, 286, 406, 407, 408, 409, 410, 411, 412, 413, 414, 415, 416, 417, 418, 435, 436, 437, 438, 439, 440, 441, 442, 447, 448, 449, 426, 427, 428, 429, 430, 419, 420, 421, 422, 423, 424, 425, 443, 444, 445, 446, 431, 432, 433, 434] rfl (by decide +kernel)
set_option maxRecDepth 100000 in
theorem gL_comes_X9_forgetSwings : GoodIn wsL_comes (wsV RL 160 RX9 yX9_forgetSwings wsX9_forgetSwings) := goodIn_app (goodIn_of _ (by decide +kernel)) ggL_comes_X9_forgetSwings
set_option maxRecDepth 100000 in
theorem ggL_comes_X9_compass : GoodIn wsL_comes wsX9_compass := goodIn_r _ [290, 14, 15, 291, 292, 267, 293, 294, 268, 269, 295, 296, 297, 298, 299, 300, 301, 302, 110, 111, 28, 112, 30, 31, 113, 114, 115, 32, 116, 117, 118, 119, 10, 120, 121, 122, 123, 124, 125, 126, 127, 105, 106, 107, 128, 129, 130, 131, 132, 133, 134, 135, 136, 137, 138, 139, 140, 141, 142, 303, 304, 305, 74, 306, 76, 307, 308, 309, 310, 311, 312, 313, 314, 315, 316, 317, 318, 78, 77, 319, 320, 321, 322, 323, 324, 325, 85, 326, 88, 87, 406, 407, 408, 409, 410, 411, 412, 413, 414, 415, 416, 417, 418, 419, 420, 421, 422, 423, 424, 425, 435, 436, 437, 438, 439, 440, 441, 442, 443, 444, 445, 446, 426, 427, 428, 429, 430] rfl (by decide +kernel)
set_option maxRecDepth 100000 in
theorem gL_comes_X9_compass : GoodIn wsL_comes (wsV RL 76 RX9 yX9_compass wsX9_compass) := goodIn_app (goodIn_of _ (by decide +kernel)) ggL_comes_X9_compass
set_option maxRecDepth 100000 in
theorem ggL_comes_L_size : GoodIn wsL_comes wsL_size := goodIn_r _ [329] rfl (by decide +kernel)
set_option maxRecDepth 100000 in
theorem gL_comes_L_size : GoodIn wsL_comes (va_wsS RL 98 yL_size wsL_size) := goodIn_app (goodIn_of _ (by decide +kernel)) ggL_comes_L_size
set_option maxRecDepth 100000 in
theorem ggL_comes_X9_pass : GoodIn wsL_comes wsX9_pass := goodIn_r _ [333, 14, 214, 12, 266, 267, 334, 335, 336, 10, 337, 338, 17, 18, 19, 270, 271, 272, 273, 274, 275, 276, 277, 278, 174, 106, 175, 216, 217, 218, 219, 28, 220, 221, 222, 223, 224, 225, 1, 30, 226, 227, 43, 31, 228, 229, 62, 32, 230, 231, 74, 33, 232, 233, 92, 34, 234, 235, 236, 237, 238, 53, 45, 239, 240, 241, 242, 195, 196, 197, 55, 56, 57, 243, 244, 245, 64, 69, 246, 70, 247, 248, 249, 250, 251, 85, 76, 77, 78, 252, 253, 254, 255, 256, 87, 257, 258, 259, 94, 260, 95, 261, 25, 26, 27, 29, 35, 36, 37, 38, 39, 40, 41, 42, 44, 46, 47, 48, 49, 50, 51, 52, 54, 58, 59, 60, 61, 63, 65, 66, 67, 68, 71, 72, 73, 75, 79, 80, 81, 82, 83, 84, 86, 88, 89, 90, 91, 93, 96, 97, 98, 143, 144, 145, 146, 103, 113, 147, 148, 125, 126, 127, 105, 107, 128, 136, 137, 138, 139, 129, 130, 131, 132, 133, 134, 119, 120, 109, 110, 111, 112, 114, 115, 116, 117, 118, 121, 122, 123, 124, 135, 140, 141, 142, 149, 150, 151, 152, 153, 154, 155, 156, 157, 158, 159, 160, 161, 162, 163, 164, 165, 166, 167, 168, 169, 170, 171, 172, 173, 176, 177, 178, 179, 180, 181, 182, 183, 184, 185, 186, 187, 188, 189, 190, 191, 192, 193, 194, 198, 199, 200, 201, 202, 203, 406, 407, 408, 409, 410, 411, 412, 413, 414, 415, 416, 417, 418, 435, 436, 437, 438, 439, 440, 447, 448, 449, 426, 427, 428, 429, 430, 419, 420, 421, 422, 423, 424, 425, 443, 444, 445, 446, 431, 432, 433, 434, 441, 442] rfl (by decide +kernel)
set_option maxRecDepth 100000 in
theorem gL_comes_X9_pass : GoodIn wsL_comes (wsV RL 107 RX9 yX9_pass wsX9_pass) := goodIn_app (goodIn_of _ (by decide +kernel)) ggL_comes_X9_pass
set_option maxRecDepth 100000 in
theorem ggL_comes_X9_state : GoodIn wsL_comes wsX9_state := goodIn_r _ [342, 343, 344, 14, 15, 345, 346, 347, 348, 17, 18, 10, 19, 349, 119, 120, 350, 351, 352, 353, 214, 297, 354, 355, 356, 357, 358, 16, 359, 360, 361, 43, 362, 45, 185, 190, 363, 364, 365, 28, 366, 32, 367, 368, 369, 35, 370, 371, 372, 373, 267, 268, 269, 334, 295, 296, 374, 375, 376, 377, 378, 379, 266, 380, 406, 407, 408, 409, 410, 411, 412, 413, 414, 415, 416, 417, 418, 419, 420, 421, 422, 423, 424, 425, 426, 427, 428, 429, 430, 431, 432, 433, 434, 435, 436, 437, 438, 439, 440, 441, 442, 443, 444, 445, 446, 450, 451, 452, 453, 454, 447, 448, 449] rfl (by decide +kernel)
set_option maxRecDepth 100000 in
theorem gL_comes_X9_state : GoodIn wsL_comes (wsV RL 73 RX9 yX9_state wsX9_state) := goodIn_app (goodIn_of _ (by decide +kernel)) ggL_comes_X9_state
set_option maxRecDepth 100000 in
theorem ggL_comes_X9_turn : GoodIn wsL_comes wsX9_turn := goodIn_r _ [384, 14, 267, 268, 269, 385, 386, 387, 301, 17, 18, 10, 19, 349, 119, 120, 406, 407, 408, 409, 410, 411, 412, 413, 414, 415, 416, 417, 418, 435, 436, 437, 438, 439, 440, 441, 442] rfl (by decide +kernel)
set_option maxRecDepth 100000 in
theorem gL_comes_X9_turn : GoodIn wsL_comes (wsV RL 104 RX9 yX9_turn wsX9_turn) := goodIn_app (goodIn_of _ (by decide +kernel)) ggL_comes_X9_turn
set_option maxRecDepth 100000 in
theorem ggL_comes_X9_restore : GoodIn wsL_comes wsX9_restore := goodIn_r _ [391, 213, 266, 14, 214, 17, 18, 10, 19, 270, 271, 272, 273, 274, 275, 276, 277, 278, 174, 106, 175, 216, 217, 218, 219, 28, 220, 221, 222, 223, 224, 225, 1, 30, 226, 227, 43, 31, 228, 229, 62, 32, 230, 231, 74, 33, 232, 233, 92, 34, 234, 235, 236, 237, 238, 53, 45, 239, 240, 241, 242, 195, 196, 197, 55, 56, 57, 243, 244, 245, 64, 69, 246, 70, 247, 248, 249, 250, 251, 85, 76, 77, 78, 252, 253, 254, 255, 256, 87, 257, 258, 259, 94, 260, 95, 261, 25, 26, 27, 29, 35, 36, 37, 38, 39, 40, 41, 42, 44, 46, 47, 48, 49, 50, 51, 52, 54, 58, 59, 60, 61, 63, 65, 66, 67, 68, 71, 72, 73, 75, 79, 80, 81, 82, 83, 84, 86, 88, 89, 90, 91, 93, 96, 97, 98, 406, 407, 408, 409, 410, 411, 412, 413, 414, 415, 416, 417, 418, 447, 448, 449, 426, 427, 428, 429, 430, 419, 420, 421, 422, 423, 424, 425, 435, 436, 437, 438, 439, 440, 443, 444, 445, 446, 431, 432, 433, 434, 441, 442] rfl (by decide +kernel)
set_option maxRecDepth 100000 in
theorem gL_comes_X9_restore : GoodIn wsL_comes (wsV RL 163 RX9 yX9_restore wsX9_restore) := goodIn_app (goodIn_of _ (by decide +kernel)) ggL_comes_X9_restore
set_option maxRecDepth 100000 in
theorem ggL_comes_X9_set : GoodIn wsL_comes wsX9_set := goodIn_r _ [395, 343, 396, 397, 266, 14, 348, 17, 18, 10, 19, 349, 119, 120, 270, 271, 272, 273, 274, 275, 276, 277, 278, 174, 106, 175, 216, 217, 218, 219, 28, 220, 221, 222, 223, 224, 225, 1, 30, 226, 227, 43, 31, 228, 229, 62, 32, 230, 231, 74, 33, 232, 233, 92, 34, 234, 235, 236, 237, 238, 53, 45, 239, 240, 241, 242, 195, 196, 197, 55, 56, 57, 243, 244, 245, 64, 69, 246, 70, 247, 248, 249, 250, 251, 85, 76, 77, 78, 252, 253, 254, 255, 256, 87, 257, 258, 259, 94, 260, 95, 261, 25, 26, 27, 29, 35, 36, 37, 38, 39, 40, 41, 42, 44, 46, 47, 48, 49, 50, 51, 52, 54, 58, 59, 60, 61, 63, 65, 66, 67, 68, 71, 72, 73, 75, 79, 80, 81, 82, 83, 84, 86, 88, 89, 90, 91, 93, 96, 97, 98, 398, 176, 177, 406, 407, 408, 409, 410, 411, 412, 413, 414, 415, 416, 417, 418, 447, 448, 449, 426, 427, 428, 429, 430, 419, 420, 421, 422, 423, 424, 425, 435, 436, 437, 438, 439, 440, 443, 444, 445, 446, 431, 432, 433, 434, 441, 442] rfl (by decide +kernel)
set_option maxRecDepth 100000 in
theorem gL_comes_X9_set : GoodIn wsL_comes (wsV RL 26 RX9 yX9_set wsX9_set) := goodIn_app (goodIn_of _ (by decide +kernel)) ggL_comes_X9_set
set_option maxRecDepth 100000 in
theorem ggL_comes_X9_damp : GoodIn wsL_comes wsX9_damp := goodIn_r _ [402, 403, 14, 404, 348, 266, 15, 16, 214, 405, 17, 18, 10, 19, 363, 364, 365, 28, 366, 32, 367, 368, 369, 35, 349, 119, 120, 270, 271, 272, 273, 274, 275, 276, 277, 278, 174, 106, 175, 216, 217, 218, 219, 220, 221, 222, 223, 224, 225, 1, 30, 226, 227, 43, 31, 228, 229, 62, 230, 231, 74, 33, 232, 233, 92, 34, 234, 235, 236, 237, 238, 53, 45, 239, 240, 241, 242, 195, 196, 197, 55, 56, 57, 243, 244, 245, 64, 69, 246, 70, 247, 248, 249, 250, 251, 85, 76, 77, 78, 252, 253, 254, 255, 256, 87, 257, 258, 259, 94, 260, 95, 261, 25, 26, 27, 29, 36, 37, 38, 39, 40, 41, 42, 44, 46, 47, 48, 49, 50, 51, 52, 54, 58, 59, 60, 61, 63, 65, 66, 67, 68, 71, 72, 73, 75, 79, 80, 81, 82, 83, 84, 86, 88, 89, 90, 91, 93, 96, 97, 98, 406, 407, 408, 409, 410, 411, 412, 413, 414, 415, 416, 417, 418, 419, 420, 421, 422, 423, 424, 425, 447, 448, 449, 426, 427, 428, 429, 430, 435, 436, 437, 438, 439, 440, 443, 444, 445, 446, 431, 432, 433, 434, 441, 442] rfl (by decide +kernel)
set_option maxRecDepth 100000 in
theorem gL_comes_X9_damp : GoodIn wsL_comes (wsV RL 86 RX9 yX9_damp wsX9_damp) := goodIn_app (goodIn_of _ (by decide +kernel)) ggL_comes_X9_damp
theorem dL_comes_0 : decode cL_comes 0 = .ok (.iload_n 1, 1) := by decide +kernel
theorem dL_comes_1 : decode cL_comes 1 = .ok (.sipush 8000, 3) := by decide +kernel
theorem dL_comes_4 : decode cL_comes 4 = .ok (.invokestatic 22, 3) := by decide +kernel
theorem dL_comes_7 : decode cL_comes 7 = .ok (.istore_n 2, 1) := by decide +kernel
theorem dL_comes_8 : decode cL_comes 8 = .ok (.iconst 1, 1) := by decide +kernel
theorem dL_comes_9 : decode cL_comes 9 = .ok (.iload_n 1, 1) := by decide +kernel
theorem dL_comes_10 : decode cL_comes 10 = .ok (.iconst 5, 1) := by decide +kernel
theorem dL_comes_11 : decode cL_comes 11 = .ok (.ishr, 1) := by decide +kernel
theorem dL_comes_12 : decode cL_comes 12 = .ok (.bipush 60, 2) := by decide +kernel
theorem dL_comes_14 : decode cL_comes 14 = .ok (.invokestatic 22, 3) := by decide +kernel
theorem dL_comes_17 : decode cL_comes 17 = .ok (.iadd, 1) := by decide +kernel
theorem dL_comes_18 : decode cL_comes 18 = .ok (.istore_n 3, 1) := by decide +kernel
theorem dL_comes_19 : decode cL_comes 19 = .ok (.aload_n 0, 1) := by decide +kernel
theorem dL_comes_20 : decode cL_comes 20 = .ok (.iload_n 2, 1) := by decide +kernel
theorem dL_comes_21 : decode cL_comes 21 = .ok (.iload_n 3, 1) := by decide +kernel
theorem dL_comes_22 : decode cL_comes 22 = .ok (.invokevirtual 151, 3) := by decide +kernel
theorem dL_comes_25 : decode cL_comes 25 = .ok (.istore 4, 2) := by decide +kernel
theorem dL_comes_27 : decode cL_comes 27 = .ok (.aload_n 0, 1) := by decide +kernel
theorem dL_comes_28 : decode cL_comes 28 = .ok (.iload_n 2, 1) := by decide +kernel
theorem dL_comes_29 : decode cL_comes 29 = .ok (.iload_n 3, 1) := by decide +kernel
theorem dL_comes_30 : decode cL_comes 30 = .ok (.invokevirtual 154, 3) := by decide +kernel
theorem dL_comes_33 : decode cL_comes 33 = .ok (.istore 5, 2) := by decide +kernel
theorem dL_comes_35 : decode cL_comes 35 = .ok (.aload_n 0, 1) := by decide +kernel
theorem dL_comes_36 : decode cL_comes 36 = .ok (.iconst 0, 1) := by decide +kernel
theorem dL_comes_37 : decode cL_comes 37 = .ok (.invokevirtual 157, 3) := by decide +kernel
theorem dL_comes_40 : decode cL_comes 40 = .ok (.istore 6, 2) := by decide +kernel
theorem dL_comes_42 : decode cL_comes 42 = .ok (.bipush (-6), 2) := by decide +kernel
theorem dL_comes_44 : decode cL_comes 44 = .ok (.istore 7, 2) := by decide +kernel
theorem dL_comes_46 : decode cL_comes 46 = .ok (.aload_n 0, 1) := by decide +kernel
theorem dL_comes_47 : decode cL_comes 47 = .ok (.invokevirtual 160, 3) := by decide +kernel
theorem dL_comes_50 : decode cL_comes 50 = .ok (.pop, 1) := by decide +kernel
theorem dL_comes_51 : decode cL_comes 51 = .ok (.lconst 0, 1) := by decide +kernel
theorem dL_comes_52 : decode cL_comes 52 = .ok (.lstore 8, 2) := by decide +kernel
theorem dL_comes_54 : decode cL_comes 54 = .ok (.iconst 3, 1) := by decide +kernel
theorem dL_comes_55 : decode cL_comes 55 = .ok (.newarray .long, 2) := by decide +kernel
theorem dL_comes_57 : decode cL_comes 57 = .ok (.astore 10, 2) := by decide +kernel
theorem dL_comes_59 : decode cL_comes 59 = .ok (.iconst 0, 1) := by decide +kernel
theorem dL_comes_60 : decode cL_comes 60 = .ok (.istore 11, 2) := by decide +kernel
theorem dL_comes_62 : decode cL_comes 62 = .ok (.iload 11, 2) := by decide +kernel
theorem dL_comes_64 : decode cL_comes 64 = .ok (.iload_n 3, 1) := by decide +kernel
theorem dL_comes_65 : decode cL_comes 65 = .ok (.if_icmp .gt 145, 3) := by decide +kernel
theorem dL_comes_68 : decode cL_comes 68 = .ok (.iload 7, 2) := by decide +kernel
theorem dL_comes_70 : decode cL_comes 70 = .ok (.ifCond .ge 37, 3) := by decide +kernel
theorem dL_comes_73 : decode cL_comes 73 = .ok (.aload_n 0, 1) := by decide +kernel
theorem dL_comes_74 : decode cL_comes 74 = .ok (.iconst 0, 1) := by decide +kernel
theorem dL_comes_75 : decode cL_comes 75 = .ok (.invokevirtual 76, 3) := by decide +kernel
theorem dL_comes_78 : decode cL_comes 78 = .ok (.aload_n 0, 1) := by decide +kernel
theorem dL_comes_79 : decode cL_comes 79 = .ok (.iconst 2, 1) := by decide +kernel
theorem dL_comes_80 : decode cL_comes 80 = .ok (.invokevirtual 76, 3) := by decide +kernel
theorem dL_comes_83 : decode cL_comes 83 = .ok (.isub, 1) := by decide +kernel
theorem dL_comes_84 : decode cL_comes 84 = .ok (.invokestatic 98, 3) := by decide +kernel
theorem dL_comes_87 : decode cL_comes 87 = .ok (.iload_n 2, 1) := by decide +kernel
theorem dL_comes_88 : decode cL_comes 88 = .ok (.if_icmp .gt 19, 3) := by decide +kernel
theorem dL_comes_91 : decode cL_comes 91 = .ok (.aload_n 0, 1) := by decide +kernel
theorem dL_comes_92 : decode cL_comes 92 = .ok (.iconst 1, 1) := by decide +kernel
theorem dL_comes_93 : decode cL_comes 93 = .ok (.invokevirtual 76, 3) := by decide +kernel
theorem dL_comes_96 : decode cL_comes 96 = .ok (.invokestatic 98, 3) := by decide +kernel
theorem dL_comes_99 : decode cL_comes 99 = .ok (.iload_n 2, 1) := by decide +kernel
theorem dL_comes_100 : decode cL_comes 100 = .ok (.if_icmp .gt 7, 3) := by decide +kernel
theorem dL_comes_103 : decode cL_comes 103 = .ok (.iload 11, 2) := by decide +kernel
theorem dL_comes_105 : decode cL_comes 105 = .ok (.istore 7, 2) := by decide +kernel
theorem dL_comes_107 : decode cL_comes 107 = .ok (.aload_n 0, 1) := by decide +kernel
theorem dL_comes_108 : decode cL_comes 108 = .ok (.iconst 1, 1) := by decide +kernel
theorem dL_comes_109 : decode cL_comes 109 = .ok (.invokevirtual 107, 3) := by decide +kernel
theorem dL_comes_112 : decode cL_comes 112 = .ok (.istore 12, 2) := by decide +kernel
theorem dL_comes_114 : decode cL_comes 114 = .ok (.iload 12, 2) := by decide +kernel
theorem dL_comes_116 : decode cL_comes 116 = .ok (.iconst 1, 1) := by decide +kernel
theorem dL_comes_117 : decode cL_comes 117 = .ok (.if_icmp .ne 25, 3) := by decide +kernel
theorem dL_comes_120 : decode cL_comes 120 = .ok (.aload 10, 2) := by decide +kernel
theorem dL_comes_122 : decode cL_comes 122 = .ok (.iconst 2, 1) := by decide +kernel
theorem dL_comes_123 : decode cL_comes 123 = .ok (.aload 10, 2) := by decide +kernel
theorem dL_comes_125 : decode cL_comes 125 = .ok (.iconst 1, 1) := by decide +kernel
theorem dL_comes_126 : decode cL_comes 126 = .ok (.laload, 1) := by decide +kernel
theorem dL_comes_127 : decode cL_comes 127 = .ok (.lastore, 1) := by decide +kernel
theorem dL_comes_128 : decode cL_comes 128 = .ok (.aload 10, 2) := by decide +kernel
theorem dL_comes_130 : decode cL_comes 130 = .ok (.iconst 1, 1) := by decide +kernel
theorem dL_comes_131 : decode cL_comes 131 = .ok (.aload 10, 2) := by decide +kernel
theorem dL_comes_133 : decode cL_comes 133 = .ok (.iconst 0, 1) := by decide +kernel
theorem dL_comes_134 : decode cL_comes 134 = .ok (.laload, 1) := by decide +kernel
theorem dL_comes_135 : decode cL_comes 135 = .ok (.lastore, 1) := by decide +kernel
theorem dL_comes_136 : decode cL_comes 136 = .ok (.aload 10, 2) := by decide +kernel
theorem dL_comes_138 : decode cL_comes 138 = .ok (.iconst 0, 1) := by decide +kernel
theorem dL_comes_139 : decode cL_comes 139 = .ok (.lload 8, 2) := by decide +kernel
theorem dL_comes_141 : decode cL_comes 141 = .ok (.lastore, 1) := by decide +kernel
theorem dL_comes_142 : decode cL_comes 142 = .ok (.lload 8, 2) := by decide +kernel
theorem dL_comes_144 : decode cL_comes 144 = .ok (.aload_n 0, 1) := by decide +kernel
theorem dL_comes_145 : decode cL_comes 145 = .ok (.iconst 0, 1) := by decide +kernel
theorem dL_comes_146 : decode cL_comes 146 = .ok (.invokevirtual 76, 3) := by decide +kernel
theorem dL_comes_149 : decode cL_comes 149 = .ok (.i2l, 1) := by decide +kernel
theorem dL_comes_150 : decode cL_comes 150 = .ok (.ladd, 1) := by decide +kernel
theorem dL_comes_151 : decode cL_comes 151 = .ok (.lstore 8, 2) := by decide +kernel
theorem dL_comes_153 : decode cL_comes 153 = .ok (.aload_n 0, 1) := by decide +kernel
theorem dL_comes_154 : decode cL_comes 154 = .ok (.bipush 13, 2) := by decide +kernel
theorem dL_comes_156 : decode cL_comes 156 = .ok (.invokevirtual 73, 3) := by decide +kernel
theorem dL_comes_159 : decode cL_comes 159 = .ok (.iconst 2, 1) := by decide +kernel
theorem dL_comes_160 : decode cL_comes 160 = .ok (.if_icmp .le 44, 3) := by decide +kernel
theorem dL_comes_163 : decode cL_comes 163 = .ok (.iload 12, 2) := by decide +kernel
theorem dL_comes_165 : decode cL_comes 165 = .ok (.iconst 1, 1) := by decide +kernel
theorem dL_comes_166 : decode cL_comes 166 = .ok (.if_icmp .ne 38, 3) := by decide +kernel
theorem dL_comes_169 : decode cL_comes 169 = .ok (.aload_n 0, 1) := by decide +kernel
theorem dL_comes_170 : decode cL_comes 170 = .ok (.iconst 5, 1) := by decide +kernel
theorem dL_comes_171 : decode cL_comes 171 = .ok (.invokevirtual 76, 3) := by decide +kernel
theorem dL_comes_174 : decode cL_comes 174 = .ok (.aload 10, 2) := by decide +kernel
theorem dL_comes_176 : decode cL_comes 176 = .ok (.iconst 0, 1) := by decide +kernel
theorem dL_comes_177 : decode cL_comes 177 = .ok (.laload, 1) := by decide +kernel
theorem dL_comes_178 : decode cL_comes 178 = .ok (.aload 10, 2) := by decide +kernel
theorem dL_comes_180 : decode cL_comes 180 = .ok (.iconst 2, 1) := by decide +kernel
theorem dL_comes_181 : decode cL_comes 181 = .ok (.laload, 1) := by decide +kernel
theorem dL_comes_182 : decode cL_comes 182 = .ok (.lsub, 1) := by decide +kernel
theorem dL_comes_183 : decode cL_comes 183 = .ok (.aload_n 0, 1) := by decide +kernel
theorem dL_comes_184 : decode cL_comes 184 = .ok (.iconst 0, 1) := by decide +kernel
theorem dL_comes_185 : decode cL_comes 185 = .ok (.iconst 1, 1) := by decide +kernel
theorem dL_comes_186 : decode cL_comes 186 = .ok (.invokevirtual 104, 3) := by decide +kernel
theorem dL_comes_189 : decode cL_comes 189 = .ok (.aload_n 0, 1) := by decide +kernel
theorem dL_comes_190 : decode cL_comes 190 = .ok (.iconst 2, 1) := by decide +kernel
theorem dL_comes_191 : decode cL_comes 191 = .ok (.iconst 1, 1) := by decide +kernel
theorem dL_comes_192 : decode cL_comes 192 = .ok (.invokevirtual 104, 3) := by decide +kernel
theorem dL_comes_195 : decode cL_comes 195 = .ok (.isub, 1) := by decide +kernel
theorem dL_comes_196 : decode cL_comes 196 = .ok (.i2l, 1) := by decide +kernel
theorem dL_comes_197 : decode cL_comes 197 = .ok (.ldiv, 1) := by decide +kernel
theorem dL_comes_198 : decode cL_comes 198 = .ok (.l2i, 1) := by decide +kernel
theorem dL_comes_199 : decode cL_comes 199 = .ok (.if_icmp .eq 5, 3) := by decide +kernel
theorem dL_comes_202 : decode cL_comes 202 = .ok (.iconst 0, 1) := by decide +kernel
theorem dL_comes_203 : decode cL_comes 203 = .ok (.ireturn, 1) := by decide +kernel
theorem dL_comes_204 : decode cL_comes 204 = .ok (.iinc 11 1, 3) := by decide +kernel
theorem dL_comes_207 : decode cL_comes 207 = .ok (.goto (-145), 3) := by decide +kernel
theorem dL_comes_210 : decode cL_comes 210 = .ok (.iload 7, 2) := by decide +kernel
theorem dL_comes_212 : decode cL_comes 212 = .ok (.iload 4, 2) := by decide +kernel
theorem dL_comes_214 : decode cL_comes 214 = .ok (.if_icmp .ne 23, 3) := by decide +kernel
theorem dL_comes_217 : decode cL_comes 217 = .ok (.aload_n 0, 1) := by decide +kernel
theorem dL_comes_218 : decode cL_comes 218 = .ok (.iconst 0, 1) := by decide +kernel
theorem dL_comes_219 : decode cL_comes 219 = .ok (.invokevirtual 163, 3) := by decide +kernel
theorem dL_comes_222 : decode cL_comes 222 = .ok (.iload 6, 2) := by decide +kernel
theorem dL_comes_224 : decode cL_comes 224 = .ok (.if_icmp .ne 13, 3) := by decide +kernel
theorem dL_comes_227 : decode cL_comes 227 = .ok (.aload_n 0, 1) := by decide +kernel
theorem dL_comes_228 : decode cL_comes 228 = .ok (.iconst 0, 1) := by decide +kernel
theorem dL_comes_229 : decode cL_comes 229 = .ok (.invokevirtual 73, 3) := by decide +kernel
theorem dL_comes_232 : decode cL_comes 232 = .ok (.iload 6, 2) := by decide +kernel
theorem dL_comes_234 : decode cL_comes 234 = .ok (.if_icmp .eq 5, 3) := by decide +kernel
theorem dL_comes_237 : decode cL_comes 237 = .ok (.iconst 0, 1) := by decide +kernel
theorem dL_comes_238 : decode cL_comes 238 = .ok (.ireturn, 1) := by decide +kernel
theorem dL_comes_239 : decode cL_comes 239 = .ok (.iload_n 3, 1) := by decide +kernel
theorem dL_comes_240 : decode cL_comes 240 = .ok (.iconst 1, 1) := by decide +kernel
theorem dL_comes_241 : decode cL_comes 241 = .ok (.iadd, 1) := by decide +kernel
theorem dL_comes_242 : decode cL_comes 242 = .ok (.istore 11, 2) := by decide +kernel
theorem dL_comes_244 : decode cL_comes 244 = .ok (.bipush (-6), 2) := by decide +kernel
theorem dL_comes_246 : decode cL_comes 246 = .ok (.istore 12, 2) := by decide +kernel
theorem dL_comes_248 : decode cL_comes 248 = .ok (.aload_n 0, 1) := by decide +kernel
theorem dL_comes_249 : decode cL_comes 249 = .ok (.bipush 8, 2) := by decide +kernel
theorem dL_comes_251 : decode cL_comes 251 = .ok (.iconst 0, 1) := by decide +kernel
theorem dL_comes_252 : decode cL_comes 252 = .ok (.invokevirtual 26, 3) := by decide +kernel
theorem dL_comes_255 : decode cL_comes 255 = .ok (.pop, 1) := by decide +kernel
theorem dL_comes_256 : decode cL_comes 256 = .ok (.iconst 0, 1) := by decide +kernel
theorem dL_comes_257 : decode cL_comes 257 = .ok (.istore 13, 2) := by decide +kernel
theorem dL_comes_259 : decode cL_comes 259 = .ok (.iload 13, 2) := by decide +kernel
theorem dL_comes_261 : decode cL_comes 261 = .ok (.iconst 5, 1) := by decide +kernel
theorem dL_comes_262 : decode cL_comes 262 = .ok (.if_icmp .ge 44, 3) := by decide +kernel
theorem dL_comes_265 : decode cL_comes 265 = .ok (.aload_n 0, 1) := by decide +kernel
theorem dL_comes_266 : decode cL_comes 266 = .ok (.iload 13, 2) := by decide +kernel
theorem dL_comes_268 : decode cL_comes 268 = .ok (.invokevirtual 86, 3) := by decide +kernel
theorem dL_comes_271 : decode cL_comes 271 = .ok (.pop, 1) := by decide +kernel
theorem dL_comes_272 : decode cL_comes 272 = .ok (.aload_n 0, 1) := by decide +kernel
theorem dL_comes_273 : decode cL_comes 273 = .ok (.iload_n 2, 1) := by decide +kernel
theorem dL_comes_274 : decode cL_comes 274 = .ok (.iload_n 3, 1) := by decide +kernel
theorem dL_comes_275 : decode cL_comes 275 = .ok (.invokevirtual 151, 3) := by decide +kernel
theorem dL_comes_278 : decode cL_comes 278 = .ok (.istore 14, 2) := by decide +kernel
theorem dL_comes_280 : decode cL_comes 280 = .ok (.iload 14, 2) := by decide +kernel
theorem dL_comes_282 : decode cL_comes 282 = .ok (.ifCond .lt 18, 3) := by decide +kernel
theorem dL_comes_285 : decode cL_comes 285 = .ok (.iload 14, 2) := by decide +kernel
theorem dL_comes_287 : decode cL_comes 287 = .ok (.iload 11, 2) := by decide +kernel
theorem dL_comes_289 : decode cL_comes 289 = .ok (.if_icmp .ge 11, 3) := by decide +kernel
theorem dL_comes_292 : decode cL_comes 292 = .ok (.iload 14, 2) := by decide +kernel
theorem dL_comes_294 : decode cL_comes 294 = .ok (.istore 11, 2) := by decide +kernel
theorem dL_comes_296 : decode cL_comes 296 = .ok (.iload 13, 2) := by decide +kernel
theorem dL_comes_298 : decode cL_comes 298 = .ok (.istore 12, 2) := by decide +kernel
theorem dL_comes_300 : decode cL_comes 300 = .ok (.iinc 13 1, 3) := by decide +kernel
theorem dL_comes_303 : decode cL_comes 303 = .ok (.goto (-44), 3) := by decide +kernel
theorem dL_comes_306 : decode cL_comes 306 = .ok (.iload 5, 2) := by decide +kernel
theorem dL_comes_308 : decode cL_comes 308 = .ok (.iload 12, 2) := by decide +kernel
theorem dL_comes_310 : decode cL_comes 310 = .ok (.if_icmp .ne 17, 3) := by decide +kernel
theorem dL_comes_313 : decode cL_comes 313 = .ok (.aload_n 0, 1) := by decide +kernel
theorem dL_comes_314 : decode cL_comes 314 = .ok (.iconst 0, 1) := by decide +kernel
theorem dL_comes_315 : decode cL_comes 315 = .ok (.invokevirtual 163, 3) := by decide +kernel
theorem dL_comes_318 : decode cL_comes 318 = .ok (.iload 6, 2) := by decide +kernel
theorem dL_comes_320 : decode cL_comes 320 = .ok (.if_icmp .ne 7, 3) := by decide +kernel
theorem dL_comes_323 : decode cL_comes 323 = .ok (.iconst 1, 1) := by decide +kernel
theorem dL_comes_324 : decode cL_comes 324 = .ok (.goto 4, 3) := by decide +kernel
theorem dL_comes_327 : decode cL_comes 327 = .ok (.iconst 0, 1) := by decide +kernel
theorem dL_comes_328 : decode cL_comes 328 = .ok (.ireturn, 1) := by decide +kernel
