set_option maxRecDepth 100000 in
theorem ggL_act_L_up : GoodIn wsL_act wsL_up := goodIn_r _ [7, 8] rfl (by decide +kernel)
set_option maxRecDepth 100000 in
theorem gL_act_L_up : GoodIn wsL_act (va_wsS RL 22 yL_up wsL_up) := goodIn_app (goodIn_of _ (by decide +kernel)) ggL_act_L_up
set_option maxRecDepth 100000 in
theorem ggL_act_X9_compass : GoodIn wsL_act wsX9_compass := goodIn_r _ [13, 14, 15, 16, 17, 18, 19, 20, 21, 22, 23, 24, 25, 26, 27, 28, 29, 30, 31, 32, 33, 34, 35, 36, 37, 38, 39, 40, 41, 42, 43, 44, 12, 45, 46, 47, 48, 49, 50, 51, 52, 53, 54, 55, 56, 57, 58, 59, 60, 61, 62, 63, 64, 65, 66, 67, 68, 69, 70, 71, 72, 73, 74, 75, 76, 77, 78, 79, 80, 81, 82, 83, 84, 85, 86, 87, 88, 89, 90, 91, 92, 93, 94, 95, 96, 97, 98, 99, 100, 101, 468, 469, 470, 471, 472, 473, 474, 475, 476, 477, 478, 479, 480, 481, 482, 483, 484, 485, 486, 487, 488, 489, 490, 491, 492, 493, 494, 495, 496, 497, 498, 499, 500, 501, 502, 503, 504] rfl (by decide +kernel)
set_option maxRecDepth 100000 in
theorem gL_act_X9_compass : GoodIn wsL_act (wsV RL 76 RX9 yX9_compass wsX9_compass) := goodIn_app (goodIn_of _ (by decide +kernel)) ggL_act_X9_compass
set_option maxRecDepth 100000 in
theorem ggL_act_X9_state : GoodIn wsL_act wsX9_state := goodIn_r _ [105, 106, 107, 14, 15, 108, 109, 110, 111, 112, 113, 12, 114, 115, 44, 45, 116, 117, 118, 119, 120, 25, 121, 122, 123, 124, 125, 126, 127, 128, 129, 130, 131, 132, 133, 134, 135, 136, 137, 33, 138, 40, 139, 140, 141, 142, 143, 144, 145, 146, 18, 21, 22, 147, 23, 24, 148, 149, 150, 151, 152, 153, 154, 155, 468, 469, 470, 471, 472, 473, 474, 475, 476, 477, 478, 479, 480, 481, 482, 483, 484, 485, 486, 487, 500, 501, 502, 503, 504, 505, 506, 507, 508, 488, 489, 490, 491, 492, 493, 494, 495, 496, 497, 498, 499, 509, 510, 511, 512, 513, 514, 515, 516] rfl (by decide +kernel)
set_option maxRecDepth 100000 in
theorem gL_act_X9_state : GoodIn wsL_act (wsV RL 73 RX9 yX9_state wsX9_state) := goodIn_app (goodIn_of _ (by decide +kernel)) ggL_act_X9_state
set_option maxRecDepth 100000 in
theorem ggL_act_X9_start : GoodIn wsL_act wsX9_start := goodIn_r _ [159, 160, 161, 162, 163, 29, 154, 14, 15, 16, 17, 112, 113, 12, 114, 164, 165, 166, 167, 168, 169, 170, 171, 172, 173, 54, 174, 175, 176, 177, 178, 33, 179, 180, 181, 182, 183, 184, 185, 35, 186, 187, 130, 36, 188, 189, 190, 40, 191, 192, 74, 193, 194, 195, 196, 197, 198, 199, 200, 201, 202, 203, 132, 204, 205, 206, 207, 208, 209, 210, 211, 212, 213, 214, 215, 216, 217, 218, 219, 220, 221, 222, 223, 224, 225, 98, 76, 90, 89, 226, 227, 228, 229, 230, 101, 231, 232, 233, 234, 235, 236, 237, 238, 239, 240, 241, 142, 242, 243, 244, 245, 246, 247, 248, 249, 250, 251, 252, 253, 254, 255, 256, 257, 258, 259, 260, 261, 262, 263, 264, 265, 266, 267, 268, 269, 270, 271, 272, 273, 274, 275, 276, 277, 100, 278, 279, 280, 281, 282, 283, 284, 468, 469, 470, 471, 472, 473, 474, 475, 476, 477, 478, 479, 480, 481, 482, 483, 484, 485, 486, 487, 514, 515, 516, 500, 501, 502, 503, 504, 488, 489, 490, 491, 492, 493, 496, 497, 498, 499, 505, 506, 507, 508, 494, 495] rfl (by decide +kernel)
set_option maxRecDepth 100000 in
theorem gL_act_X9_start : GoodIn wsL_act (wsV RL 34 RX9 yX9_start wsX9_start) := goodIn_app (goodIn_of _ (by decide +kernel)) ggL_act_X9_start
set_option maxRecDepth 100000 in
theorem ggL_act_X9_leg : GoodIn wsL_act wsX9_leg := goodIn_r _ [288, 14, 25, 123, 124, 154, 289, 290, 12, 291, 292, 112, 113, 114, 293, 294, 295, 296, 297, 298, 299, 300, 164, 165, 166, 167, 168, 169, 170, 171, 172, 173, 54, 174, 175, 176, 177, 178, 33, 179, 180, 181, 182, 183, 184, 185, 35, 186, 187, 130, 36, 188, 189, 190, 40, 191, 192, 74, 193, 194, 195, 196, 197, 198, 199, 200, 201, 202, 203, 132, 204, 205, 206, 207, 208, 209, 210, 211, 212, 213, 214, 215, 216, 217, 218, 219, 220, 221, 222, 223, 224, 225, 98, 76, 90, 89, 226, 227, 228, 229, 230, 101, 231, 232, 233, 234, 235, 236, 237, 238, 239, 240, 241, 142, 242, 243, 244, 245, 246, 247, 248, 249, 250, 251, 252, 253, 254, 255, 256, 257, 258, 259, 260, 261, 262, 263, 264, 265, 266, 267, 268, 269, 270, 271, 272, 273, 274, 275, 276, 277, 100, 278, 279, 280, 281, 282, 283, 284, 301, 302, 303, 304, 305, 306, 307, 308, 309, 310, 311, 312, 313, 314, 133, 315, 316, 44, 45, 468, 469, 470, 471, 472, 473, 474, 475, 476, 477, 478, 479, 480, 500, 501, 502, 503, 504, 505, 506, 507, 508, 514, 515, 516, 481, 482, 483, 484, 485, 486, 487, 488, 489, 490, 491, 492, 493, 496, 497, 498, 499, 494, 495] rfl (by decide +kernel)
set_option maxRecDepth 100000 in
theorem gL_act_X9_leg : GoodIn wsL_act (wsV RL 80 RX9 yX9_leg wsX9_leg) := goodIn_app (goodIn_of _ (by decide +kernel)) ggL_act_X9_leg
set_option maxRecDepth 100000 in
theorem ggL_act_X9_steer : GoodIn wsL_act wsX9_steer := goodIn_r _ [320, 154, 14, 25, 123, 124, 121, 122, 289, 290, 12, 291, 292, 112, 113, 114, 293, 294, 295, 296, 164, 165, 166, 167, 168, 169, 170, 171, 172, 173, 54, 174, 175, 176, 177, 178, 33, 179, 180, 181, 182, 183, 184, 185, 35, 186, 187, 130, 36, 188, 189, 190, 40, 191, 192, 74, 193, 194, 195, 196, 197, 198, 199, 200, 201, 202, 203, 132, 204, 205, 206, 207, 208, 209, 210, 211, 212, 213, 214, 215, 216, 217, 218, 219, 220, 221, 222, 223, 224, 225, 98, 76, 90, 89, 226, 227, 228, 229, 230, 101, 231, 232, 233, 234, 235, 236, 237, 238, 239, 240, 241, 142, 242, 243, 244, 245, 246, 247, 248, 249, 250, 251, 252, 253, 254, 255, 256, 257, 258, 259, 260, 261, 262, 263, 264, 265, 266, 267, 268, 269, 270, 271, 272, 273, 274, 275, 276, 277, 100, 278, 279, 280, 281, 282, 283, 284, 321, 322, 323, 324, 468, 469, 470, 471, 472, 473, 474, 475, 476, 477, 478, 479, 480, 500, 501, 502, 503, 504, 505, 506, 507, 508, 514, 515, 516, 481, 482, 483, 484, 485, 486, 487, 488, 489, 490, 491, 492, 493, 496, 497, 498, 499, 494, 495] rfl (by decide +kernel)
set_option maxRecDepth 100000 in
theorem gL_act_X9_steer : GoodIn wsL_act (wsV RL 83 RX9 yX9_steer wsX9_steer) := goodIn_app (goodIn_of _ (by decide +kernel)) ggL_act_X9_steer
set_option maxRecDepth 100000 in
theorem ggL_act_X9_damp : GoodIn wsL_act wsX9_damp := goodIn_r _ [328, 329, 14, 330, 111, 154, 15, 126, 120, 331, 112, 113, 12, 114, 135, 136, 137, 33, 138, 40, 139, 140, 141, 142, 115, 44, 45, 164, 165, 166, 167, 168, 169, 170, 171, 172, 173, 54, 174, 175, 176, 177, 178, 179, 180, 181, 182, 183, 184, 185, 35, 186, 187, 130, 36, 188, 189, 190, 191, 192, 74, 193, 194, 195, 196, 197, 198, 199, 200, 201, 202, 203, 132, 204, 205, 206, 207, 208, 209, 210, 211, 212, 213, 214, 215, 216, 217, 218, 219, 220, 221, 222, 223, 224, 225, 98, 76, 90, 89, 226, 227, 228, 229, 230, 101, 231, 232, 233, 234, 235, 236, 237, 238, 239, 240, 241, 242, 243, 244, 245, 246, 247, 248, 249, 250, 251, 252, 253, 254, 255, 256, 257, 258, 259, 260, 261, 262, 263, 264, 265, 266, 267, 268, 269, 270, 271, 272, 273, 274, 275, 276, 277, 100, 278, 279, 280, 281, 282, 283, 284, 468, 469, 470, 471, 472, 473, 474, 475, 476, 477, 478, 479, 480, 481, 482, 483, 484, 485, 486, 487, 514, 515, 516, 500, 501, 502, 503, 504, 488, 489, 490, 491, 492, 493, 496, 497, 498, 499, 505, 506, 507, 508, 494, 495] rfl (by decide +kernel)
set_option maxRecDepth 100000 in
theorem gL_act_X9_damp : GoodIn wsL_act (wsV RL 86 RX9 yX9_damp wsX9_damp) := goodIn_app (goodIn_of _ (by decide +kernel)) ggL_act_X9_damp
set_option maxRecDepth 100000 in
theorem ggL_act_X9_correct : GoodIn wsL_act wsX9_correct := goodIn_r _ [335, 154, 14, 15, 27, 150, 336, 337, 12, 338, 339, 340, 112, 113, 114, 293, 294, 295, 296, 164, 165, 166, 167, 168, 169, 170, 171, 172, 173, 54, 174, 175, 176, 177, 178, 33, 179, 180, 181, 182, 183, 184, 185, 35, 186, 187, 130, 36, 188, 189, 190, 40, 191, 192, 74, 193, 194, 195, 196, 197, 198, 199, 200, 201, 202, 203, 132, 204, 205, 206, 207, 208, 209, 210, 211, 212, 213, 214, 215, 216, 217, 218, 219, 220, 221, 222, 223, 224, 225, 98, 76, 90, 89, 226, 227, 228, 229, 230, 101, 231, 232, 233, 234, 235, 236, 237, 238, 239, 240, 241, 142, 242, 243, 244, 245, 246, 247, 248, 249, 250, 251, 252, 253, 254, 255, 256, 257, 258, 259, 260, 261, 262, 263, 264, 265, 266, 267, 268, 269, 270, 271, 272, 273, 274, 275, 276, 277, 100, 278, 279, 280, 281, 282, 283, 284, 30, 31, 32, 34, 37, 38, 39, 41, 42, 43, 44, 45, 46, 47, 48, 49, 50, 51, 52, 53, 55, 56, 57, 58, 59, 60, 61, 62, 63, 64, 65, 66, 67, 68, 69, 70, 468, 469, 470, 471, 472, 473, 474, 475, 476, 477, 478, 479, 480, 481, 482, 483, 484, 485, 486, 487, 514, 515, 516, 500, 501, 502, 503, 504, 488, 489, 490, 491, 492, 493, 496, 497, 498, 499, 505, 506, 507, 508, 494, 495] rfl (by decide +kernel)
set_option maxRecDepth 100000 in
theorem gL_act_X9_correct : GoodIn wsL_act (wsV RL 89 RX9 yX9_correct wsX9_correct) := goodIn_app (goodIn_of _ (by decide +kernel)) ggL_act_X9_correct
set_option maxRecDepth 100000 in
theorem ggL_act_L_observes : GoodIn wsL_act wsL_observes := goodIn_r _ [343, 344, 345, 346, 347, 2, 102, 103, 104, 12, 105, 106, 107, 14, 15, 108, 109, 110, 111, 112, 113, 114, 115, 44, 45, 116, 117, 118, 119, 120, 25, 121, 122, 123, 124, 125, 126, 127, 128, 129, 130, 131, 132, 133, 134, 135, 136, 137, 33, 138, 40, 139, 140, 141, 142, 143, 144, 145, 146, 18, 21, 22, 147, 23, 24, 148, 149, 150, 151, 152, 153, 154, 155, 348, 349, 350, 351, 289, 290, 291, 292, 164, 165, 166, 167, 168, 169, 170, 171, 172, 173, 54, 174, 175, 176, 177, 178, 179, 180, 181, 182, 183, 184, 185, 35, 186, 187, 36, 188, 189, 190, 191, 192, 74, 193, 194, 195, 196, 197, 198, 199, 200, 201, 202, 203, 204, 205, 206, 207, 208, 209, 210, 211, 212, 213, 214, 215, 216, 217, 218, 219, 220, 221, 222, 223, 224, 225, 98, 76, 90, 89, 226, 227, 228, 229, 230, 101, 231, 232, 233, 234, 235, 236, 237, 238, 239, 240, 241, 242, 243, 244, 245, 246, 247, 248, 249, 250, 251, 252, 253, 254, 255, 256, 257, 258, 259, 260, 261, 262, 263, 264, 265, 266, 267, 268, 269, 270, 271, 272, 273, 274, 275, 276, 277, 100, 278, 279, 280, 281, 282, 283, 284, 352, 353, 354, 355, 309, 310, 356, 357, 358, 359, 16, 360, 361, 67, 362, 363, 364, 365, 366, 367, 368, 369, 370, 371, 372, 373, 374, 375, 376, 377, 378, 379, 380, 381, 382, 383, 384, 385, 386, 387, 388, 389, 9, 10, 11, 13, 17, 19, 20, 26, 27, 28, 29, 30, 31, 32, 34, 37, 38, 39, 41, 42, 43, 46, 47, 48, 49, 50, 51, 52, 53, 55, 56, 57, 58, 59, 60, 61, 62, 63, 64, 65, 66, 68, 69, 70, 71, 72, 73, 75, 77, 78, 79, 80, 81, 82, 83, 84, 85, 86, 87, 88, 91, 92, 93, 94, 95, 96, 97, 99, 390, 391, 6, 392, 468, 469, 470, 471, 472, 473, 474, 475, 476, 477, 478, 479, 480, 481, 482, 483, 484, 485, 486, 487, 500, 501, 502, 503, 504, 505, 506, 507, 508, 488, 489, 490, 491, 492, 493, 494, 495, 496, 497, 498, 499, 509, 510, 511, 512, 513, 514, 515, 516] rfl (by decide +kernel)
set_option maxRecDepth 100000 in
theorem gL_act_L_observes : GoodIn wsL_act (va_wsS RL 92 yL_observes wsL_observes) := goodIn_app (goodIn_of _ (by decide +kernel)) ggL_act_L_observes
set_option maxRecDepth 100000 in
theorem ggL_act_X9_guess : GoodIn wsL_act wsX9_guess := goodIn_r _ [396, 397, 398, 154, 14, 52, 53, 54, 55, 149, 28, 112, 113, 12, 114, 164, 165, 166, 167, 168, 169, 170, 171, 172, 173, 174, 175, 176, 177, 178, 33, 179, 180, 181, 182, 183, 184, 185, 35, 186, 187, 130, 36, 188, 189, 190, 40, 191, 192, 74, 193, 194, 195, 196, 197, 198, 199, 200, 201, 202, 203, 132, 204, 205, 206, 207, 208, 209, 210, 211, 212, 213, 214, 215, 216, 217, 218, 219, 220, 221, 222, 223, 224, 225, 98, 76, 90, 89, 226, 227, 228, 229, 230, 101, 231, 232, 233, 234, 235, 236, 237, 238, 239, 240, 241, 142, 242, 243, 244, 245, 246, 247, 248, 249, 250, 251, 252, 253, 254, 255, 256, 257, 258, 259, 260, 261, 262, 263, 264, 265, 266, 267, 268, 269, 270, 271, 272, 273, 274, 275, 276, 277, 100, 278, 279, 280, 281, 282, 283, 284, 30, 31, 32, 34, 37, 38, 39, 41, 42, 43, 44, 45, 46, 47, 48, 49, 50, 51, 56, 57, 58, 59, 60, 61, 62, 63, 64, 65, 66, 67, 68, 69, 70, 468, 469, 470, 471, 472, 473, 474, 475, 476, 477, 478, 479, 480, 514, 515, 516, 500, 501, 502, 503, 504, 481, 482, 483, 484, 485, 486, 487, 488, 489, 490, 491, 492, 493, 496, 497, 498, 499, 505, 506, 507, 508, 494, 495] rfl (by decide +kernel)
set_option maxRecDepth 100000 in
theorem gL_act_X9_guess : GoodIn wsL_act (wsV RL 95 RX9 yX9_guess wsX9_guess) := goodIn_app (goodIn_of _ (by decide +kernel)) ggL_act_X9_guess
set_option maxRecDepth 100000 in
theorem ggL_act_L_size : GoodIn wsL_act wsL_size := goodIn_r _ [392] rfl (by decide +kernel)
set_option maxRecDepth 100000 in
theorem gL_act_L_size : GoodIn wsL_act (va_wsS RL 98 yL_size wsL_size) := goodIn_app (goodIn_of _ (by decide +kernel)) ggL_act_L_size
set_option maxRecDepth 100000 in
theorem ggL_act_L_minute : GoodIn wsL_act wsL_minute := goodIn_r _ [401, 402, 403, 404, 405, 406, 407, 408, 409, 410, 9, 10, 11, 12, 13, 14, 15, 16, 17, 18, 19, 20, 21, 22, 23, 24, 25, 26, 27, 28, 29, 30, 31, 32, 33, 34, 35, 36, 37, 38, 39, 40, 41, 42, 43, 44, 45, 46, 47, 48, 49, 50, 51, 52, 53, 54, 55, 56, 57, 58, 59, 60, 61, 62, 63, 64, 65, 66, 67, 68, 69, 70, 71, 72, 73, 74, 75, 76, 77, 78, 79, 80, 81, 82, 83, 84, 85, 86, 87, 88, 89, 90, 91, 92, 93, 94, 95, 96, 97, 98, 99, 100, 101, 102, 103, 104, 105, 106, 107, 108, 109, 110, 111, 112, 113, 114, 115, 116, 117, 118, 119, 120, 121, 122, 123, 124, 125, 126, 127, 128, 129, 130, 131, 132, 133, 134, 135, 136, 137, 138, 139, 140, 141, 142, 143, 144, 145, 146, 147, 148, 149, 150, 151, 152, 153, 154, 155, 411, 412, 413, 414, 388, 389, 415, 416, 417, 418, 419, 163, 297, 298, 299, 300, 164, 165, 166, 167, 168, 169, 170, 171, 172, 173, 174, 175, 176, 177, 178, 179, 180, 181, 182, 183, 184, 185, 186, 187, 188, 189, 190, 191, 192, 193, 194, 195, 196, 197, 198, 199, 200, 201, 202, 203, 204, 205, 206, 207, 208, 209, 210, 211, 212, 213, 214, 215, 216, 217, 218, 219, 220, 221, 222, 223, 224, 225, 226, 227, 228, 229, 230, 231, 232, 233, 234, 235, 236, 237, 238, 239, 240, 241, 242, 243, 244, 245, 246, 247, 248, 249, 250, 251, 252, 253, 254, 255, 256, 257, 258, 259, 260, 261, 262, 263, 264, 265, 266, 267, 268, 269, 270, 271, 272, 273, 274, 275, 276, 277, 278, 279, 280, 281, 282, 283, 284, 420, 421, 422, 423, 424, 425, 426, 427, 428, 429, 430, 431, 432, 433, 434, 435, 436, 437, 438, 439, 440, 441, 442, 443, 444, 445, 446, 447, 448, 376, 377, 378, 379, 309, 310, 449, 450, 451, 452, 453, 454, 455, 456, 457, 458, 459, 460, 461, 462, 463, 311, 312, 313, 314, 315, 316, 390, 391, 6, 392, 464, 465, 466, 467, 289, 290, 291, 292, 468, 469, 470, 471, 472, 473, 474, 475, 476, 477, 478, 479, 480, 481, 482, 483, 484, 485, 486, 487, 488, 489, 490, 491, 492, 493, 494, 495, 496, 497, 498, 499, 500, 501, 502, 503, 504, 505, 506, 507, 508, 509, 510, 511, 512, 513, 514, 515, 516] rfl (by decide +kernel)
set_option maxRecDepth 100000 in
theorem gL_act_L_minute : GoodIn wsL_act (va_wsS RL 101 yL_minute wsL_minute) := goodIn_app (goodIn_of _ (by decide +kernel)) ggL_act_L_minute
theorem dL_act_0 : decode cL_act 0 = .ok (.iload_n 1, 1) := by decide +kernel
theorem dL_act_1 : decode cL_act 1 = .ok (.bipush 10, 2) := by decide +kernel
theorem dL_act_3 : decode cL_act 3 = .ok (.invokestatic 22, 3) := by decide +kernel
theorem dL_act_6 : decode cL_act 6 = .ok (.tableswitch 636 0 6 #[42, 141, 268, 348, 464, 555, 566], 42) := by decide +kernel
theorem dL_act_48 : decode cL_act 48 = .ok (.aload_n 0, 1) := by decide +kernel
theorem dL_act_49 : decode cL_act 49 = .ok (.iconst 0, 1) := by decide +kernel
theorem dL_act_50 : decode cL_act 50 = .ok (.invokevirtual 76, 3) := by decide +kernel
theorem dL_act_53 : decode cL_act 53 = .ok (.istore 4, 2) := by decide +kernel
theorem dL_act_55 : decode cL_act 55 = .ok (.aload_n 0, 1) := by decide +kernel
theorem dL_act_56 : decode cL_act 56 = .ok (.bipush 13, 2) := by decide +kernel
theorem dL_act_58 : decode cL_act 58 = .ok (.invokevirtual 73, 3) := by decide +kernel
theorem dL_act_61 : decode cL_act 61 = .ok (.istore 5, 2) := by decide +kernel
theorem dL_act_63 : decode cL_act 63 = .ok (.aload_n 0, 1) := by decide +kernel
theorem dL_act_64 : decode cL_act 64 = .ok (.iload_n 2, 1) := by decide +kernel
theorem dL_act_65 : decode cL_act 65 = .ok (.ldc 79, 2) := by decide +kernel
theorem dL_act_67 : decode cL_act 67 = .ok (.invokestatic 22, 3) := by decide +kernel
theorem dL_act_70 : decode cL_act 70 = .ok (.sipush 30000, 3) := by decide +kernel
theorem dL_act_73 : decode cL_act 73 = .ok (.isub, 1) := by decide +kernel
theorem dL_act_74 : decode cL_act 74 = .ok (.iload_n 3, 1) := by decide +kernel
theorem dL_act_75 : decode cL_act 75 = .ok (.sipush 2001, 3) := by decide +kernel
theorem dL_act_78 : decode cL_act 78 = .ok (.invokestatic 22, 3) := by decide +kernel
theorem dL_act_81 : decode cL_act 81 = .ok (.sipush 1000, 3) := by decide +kernel
theorem dL_act_84 : decode cL_act 84 = .ok (.isub, 1) := by decide +kernel
theorem dL_act_85 : decode cL_act 85 = .ok (.invokevirtual 34, 3) := by decide +kernel
theorem dL_act_88 : decode cL_act 88 = .ok (.iload 4, 2) := by decide +kernel
theorem dL_act_90 : decode cL_act 90 = .ok (.if_icmp .ne 55, 3) := by decide +kernel
theorem dL_act_93 : decode cL_act 93 = .ok (.aload_n 0, 1) := by decide +kernel
theorem dL_act_94 : decode cL_act 94 = .ok (.iconst 0, 1) := by decide +kernel
theorem dL_act_95 : decode cL_act 95 = .ok (.invokevirtual 76, 3) := by decide +kernel
theorem dL_act_98 : decode cL_act 98 = .ok (.iload_n 2, 1) := by decide +kernel
theorem dL_act_99 : decode cL_act 99 = .ok (.ldc 79, 2) := by decide +kernel
theorem dL_act_101 : decode cL_act 101 = .ok (.invokestatic 22, 3) := by decide +kernel
theorem dL_act_104 : decode cL_act 104 = .ok (.sipush 30000, 3) := by decide +kernel
theorem dL_act_107 : decode cL_act 107 = .ok (.isub, 1) := by decide +kernel
theorem dL_act_108 : decode cL_act 108 = .ok (.if_icmp .ne 37, 3) := by decide +kernel
theorem dL_act_111 : decode cL_act 111 = .ok (.aload_n 0, 1) := by decide +kernel
theorem dL_act_112 : decode cL_act 112 = .ok (.iconst 1, 1) := by decide +kernel
theorem dL_act_113 : decode cL_act 113 = .ok (.invokevirtual 76, 3) := by decide +kernel
theorem dL_act_116 : decode cL_act 116 = .ok (.iload_n 3, 1) := by decide +kernel
theorem dL_act_117 : decode cL_act 117 = .ok (.sipush 2001, 3) := by decide +kernel
theorem dL_act_120 : decode cL_act 120 = .ok (.invokestatic 22, 3) := by decide +kernel
theorem dL_act_123 : decode cL_act 123 = .ok (.sipush 1000, 3) := by decide +kernel
theorem dL_act_126 : decode cL_act 126 = .ok (.isub, 1) := by decide +kernel
theorem dL_act_127 : decode cL_act 127 = .ok (.if_icmp .ne 18, 3) := by decide +kernel
theorem dL_act_130 : decode cL_act 130 = .ok (.aload_n 0, 1) := by decide +kernel
theorem dL_act_131 : decode cL_act 131 = .ok (.bipush 13, 2) := by decide +kernel
theorem dL_act_133 : decode cL_act 133 = .ok (.invokevirtual 73, 3) := by decide +kernel
theorem dL_act_136 : decode cL_act 136 = .ok (.iload 5, 2) := by decide +kernel
theorem dL_act_138 : decode cL_act 138 = .ok (.if_icmp .ne 7, 3) := by decide +kernel
theorem dL_act_141 : decode cL_act 141 = .ok (.iconst 1, 1) := by decide +kernel
theorem dL_act_142 : decode cL_act 142 = .ok (.goto 4, 3) := by decide +kernel
theorem dL_act_145 : decode cL_act 145 = .ok (.iconst 0, 1) := by decide +kernel
theorem dL_act_146 : decode cL_act 146 = .ok (.ireturn, 1) := by decide +kernel
theorem dL_act_147 : decode cL_act 147 = .ok (.aload_n 0, 1) := by decide +kernel
theorem dL_act_148 : decode cL_act 148 = .ok (.iconst 3, 1) := by decide +kernel
theorem dL_act_149 : decode cL_act 149 = .ok (.invokevirtual 73, 3) := by decide +kernel
theorem dL_act_152 : decode cL_act 152 = .ok (.istore 4, 2) := by decide +kernel
theorem dL_act_154 : decode cL_act 154 = .ok (.aload_n 0, 1) := by decide +kernel
theorem dL_act_155 : decode cL_act 155 = .ok (.iload_n 2, 1) := by decide +kernel
theorem dL_act_156 : decode cL_act 156 = .ok (.ldc 64, 2) := by decide +kernel
theorem dL_act_158 : decode cL_act 158 = .ok (.invokestatic 22, 3) := by decide +kernel
theorem dL_act_161 : decode cL_act 161 = .ok (.iload_n 3, 1) := by decide +kernel
theorem dL_act_162 : decode cL_act 162 = .ok (.sipush 401, 3) := by decide +kernel
theorem dL_act_165 : decode cL_act 165 = .ok (.invokestatic 22, 3) := by decide +kernel
theorem dL_act_168 : decode cL_act 168 = .ok (.iconst 1, 1) := by decide +kernel
theorem dL_act_169 : decode cL_act 169 = .ok (.iload_n 3, 1) := by decide +kernel
theorem dL_act_170 : decode cL_act 170 = .ok (.bipush 9, 2) := by decide +kernel
theorem dL_act_172 : decode cL_act 172 = .ok (.ishr, 1) := by decide +kernel
theorem dL_act_173 : decode cL_act 173 = .ok (.bipush 9, 2) := by decide +kernel
theorem dL_act_175 : decode cL_act 175 = .ok (.invokestatic 22, 3) := by decide +kernel
theorem dL_act_178 : decode cL_act 178 = .ok (.iadd, 1) := by decide +kernel
theorem dL_act_179 : decode cL_act 179 = .ok (.invokevirtual 80, 3) := by decide +kernel
theorem dL_act_182 : decode cL_act 182 = .ok (.istore 5, 2) := by decide +kernel
theorem dL_act_184 : decode cL_act 184 = .ok (.iload 4, 2) := by decide +kernel
theorem dL_act_186 : decode cL_act 186 = .ok (.bipush 8, 2) := by decide +kernel
theorem dL_act_188 : decode cL_act 188 = .ok (.if_icmp .ne 18, 3) := by decide +kernel
theorem dL_act_191 : decode cL_act 191 = .ok (.iload 5, 2) := by decide +kernel
theorem dL_act_193 : decode cL_act 193 = .ok (.bipush (-4), 2) := by decide +kernel
theorem dL_act_195 : decode cL_act 195 = .ok (.if_icmp .ne 7, 3) := by decide +kernel
theorem dL_act_198 : decode cL_act 198 = .ok (.iconst 1, 1) := by decide +kernel
theorem dL_act_199 : decode cL_act 199 = .ok (.goto 74, 3) := by decide +kernel
theorem dL_act_202 : decode cL_act 202 = .ok (.iconst 0, 1) := by decide +kernel
theorem dL_act_203 : decode cL_act 203 = .ok (.goto 70, 3) := by decide +kernel
theorem dL_act_206 : decode cL_act 206 = .ok (.iload 5, 2) := by decide +kernel
theorem dL_act_208 : decode cL_act 208 = .ok (.iload 4, 2) := by decide +kernel
theorem dL_act_210 : decode cL_act 210 = .ok (.iconst 1, 1) := by decide +kernel
theorem dL_act_211 : decode cL_act 211 = .ok (.iadd, 1) := by decide +kernel
theorem dL_act_212 : decode cL_act 212 = .ok (.if_icmp .ne 60, 3) := by decide +kernel
theorem dL_act_215 : decode cL_act 215 = .ok (.iload 4, 2) := by decide +kernel
theorem dL_act_217 : decode cL_act 217 = .ok (.ifCond .gt 51, 3) := by decide +kernel
theorem dL_act_220 : decode cL_act 220 = .ok (.aload_n 0, 1) := by decide +kernel
theorem dL_act_221 : decode cL_act 221 = .ok (.iconst 1, 1) := by decide +kernel
theorem dL_act_222 : decode cL_act 222 = .ok (.invokevirtual 73, 3) := by decide +kernel
theorem dL_act_225 : decode cL_act 225 = .ok (.iload_n 2, 1) := by decide +kernel
theorem dL_act_226 : decode cL_act 226 = .ok (.ldc 64, 2) := by decide +kernel
theorem dL_act_228 : decode cL_act 228 = .ok (.invokestatic 22, 3) := by decide +kernel
theorem dL_act_231 : decode cL_act 231 = .ok (.if_icmp .ne 41, 3) := by decide +kernel
theorem dL_act_234 : decode cL_act 234 = .ok (.aload_n 0, 1) := by decide +kernel
theorem dL_act_235 : decode cL_act 235 = .ok (.iconst 2, 1) := by decide +kernel
theorem dL_act_236 : decode cL_act 236 = .ok (.invokevirtual 73, 3) := by decide +kernel
theorem dL_act_239 : decode cL_act 239 = .ok (.iload_n 3, 1) := by decide +kernel
theorem dL_act_240 : decode cL_act 240 = .ok (.sipush 401, 3) := by decide +kernel
theorem dL_act_243 : decode cL_act 243 = .ok (.invokestatic 22, 3) := by decide +kernel
theorem dL_act_246 : decode cL_act 246 = .ok (.if_icmp .ne 26, 3) := by decide +kernel
theorem dL_act_249 : decode cL_act 249 = .ok (.aload_n 0, 1) := by decide +kernel
theorem dL_act_250 : decode cL_act 250 = .ok (.iconst 4, 1) := by decide +kernel
theorem dL_act_251 : decode cL_act 251 = .ok (.invokevirtual 73, 3) := by decide +kernel
theorem dL_act_254 : decode cL_act 254 = .ok (.iconst 1, 1) := by decide +kernel
theorem dL_act_255 : decode cL_act 255 = .ok (.iload_n 3, 1) := by decide +kernel
theorem dL_act_256 : decode cL_act 256 = .ok (.bipush 9, 2) := by decide +kernel
theorem dL_act_258 : decode cL_act 258 = .ok (.ishr, 1) := by decide +kernel
theorem dL_act_259 : decode cL_act 259 = .ok (.bipush 9, 2) := by decide +kernel
theorem dL_act_261 : decode cL_act 261 = .ok (.invokestatic 22, 3) := by decide +kernel
theorem dL_act_264 : decode cL_act 264 = .ok (.iadd, 1) := by decide +kernel
theorem dL_act_265 : decode cL_act 265 = .ok (.if_icmp .ne 7, 3) := by decide +kernel
theorem dL_act_268 : decode cL_act 268 = .ok (.iconst 1, 1) := by decide +kernel
theorem dL_act_269 : decode cL_act 269 = .ok (.goto 4, 3) := by decide +kernel
theorem dL_act_272 : decode cL_act 272 = .ok (.iconst 0, 1) := by decide +kernel
theorem dL_act_273 : decode cL_act 273 = .ok (.ireturn, 1) := by decide +kernel
theorem dL_act_274 : decode cL_act 274 = .ok (.aload_n 0, 1) := by decide +kernel
theorem dL_act_275 : decode cL_act 275 = .ok (.iconst 3, 1) := by decide +kernel
theorem dL_act_276 : decode cL_act 276 = .ok (.invokevirtual 73, 3) := by decide +kernel
theorem dL_act_279 : decode cL_act 279 = .ok (.istore 4, 2) := by decide +kernel
theorem dL_act_281 : decode cL_act 281 = .ok (.aload_n 0, 1) := by decide +kernel
theorem dL_act_282 : decode cL_act 282 = .ok (.iload_n 2, 1) := by decide +kernel
theorem dL_act_283 : decode cL_act 283 = .ok (.ldc 64, 2) := by decide +kernel
theorem dL_act_285 : decode cL_act 285 = .ok (.invokestatic 22, 3) := by decide +kernel
theorem dL_act_288 : decode cL_act 288 = .ok (.iload_n 3, 1) := by decide +kernel
theorem dL_act_289 : decode cL_act 289 = .ok (.sipush 401, 3) := by decide +kernel
theorem dL_act_292 : decode cL_act 292 = .ok (.invokestatic 22, 3) := by decide +kernel
theorem dL_act_295 : decode cL_act 295 = .ok (.invokevirtual 83, 3) := by decide +kernel
theorem dL_act_298 : decode cL_act 298 = .ok (.iload 4, 2) := by decide +kernel
theorem dL_act_300 : decode cL_act 300 = .ok (.if_icmp .ne 52, 3) := by decide +kernel
theorem dL_act_303 : decode cL_act 303 = .ok (.aload_n 0, 1) := by decide +kernel
theorem dL_act_304 : decode cL_act 304 = .ok (.iconst 1, 1) := by decide +kernel
theorem dL_act_305 : decode cL_act 305 = .ok (.invokevirtual 73, 3) := by decide +kernel
theorem dL_act_308 : decode cL_act 308 = .ok (.iload_n 2, 1) := by decide +kernel
theorem dL_act_309 : decode cL_act 309 = .ok (.ldc 64, 2) := by decide +kernel
theorem dL_act_311 : decode cL_act 311 = .ok (.invokestatic 22, 3) := by decide +kernel
theorem dL_act_314 : decode cL_act 314 = .ok (.if_icmp .ne 38, 3) := by decide +kernel
theorem dL_act_317 : decode cL_act 317 = .ok (.aload_n 0, 1) := by decide +kernel
theorem dL_act_318 : decode cL_act 318 = .ok (.iconst 2, 1) := by decide +kernel
theorem dL_act_319 : decode cL_act 319 = .ok (.invokevirtual 73, 3) := by decide +kernel
theorem dL_act_322 : decode cL_act 322 = .ok (.iload_n 3, 1) := by decide +kernel
theorem dL_act_323 : decode cL_act 323 = .ok (.sipush 401, 3) := by decide +kernel
theorem dL_act_326 : decode cL_act 326 = .ok (.invokestatic 22, 3) := by decide +kernel
theorem dL_act_329 : decode cL_act 329 = .ok (.if_icmp .ne 23, 3) := by decide +kernel
theorem dL_act_332 : decode cL_act 332 = .ok (.aload_n 0, 1) := by decide +kernel
theorem dL_act_333 : decode cL_act 333 = .ok (.iconst 3, 1) := by decide +kernel
theorem dL_act_334 : decode cL_act 334 = .ok (.invokevirtual 73, 3) := by decide +kernel
theorem dL_act_337 : decode cL_act 337 = .ok (.ifCond .ne 15, 3) := by decide +kernel
theorem dL_act_340 : decode cL_act 340 = .ok (.aload_n 0, 1) := by decide +kernel
theorem dL_act_341 : decode cL_act 341 = .ok (.iconst 4, 1) := by decide +kernel
theorem dL_act_342 : decode cL_act 342 = .ok (.invokevirtual 73, 3) := by decide +kernel
theorem dL_act_345 : decode cL_act 345 = .ok (.ifCond .ne 7, 3) := by decide +kernel
theorem dL_act_348 : decode cL_act 348 = .ok (.iconst 1, 1) := by decide +kernel
theorem dL_act_349 : decode cL_act 349 = .ok (.goto 4, 3) := by decide +kernel
theorem dL_act_352 : decode cL_act 352 = .ok (.iconst 0, 1) := by decide +kernel
theorem dL_act_353 : decode cL_act 353 = .ok (.ireturn, 1) := by decide +kernel
theorem dL_act_354 : decode cL_act 354 = .ok (.aload_n 0, 1) := by decide +kernel
theorem dL_act_355 : decode cL_act 355 = .ok (.bipush 7, 2) := by decide +kernel
theorem dL_act_357 : decode cL_act 357 = .ok (.invokevirtual 73, 3) := by decide +kernel
theorem dL_act_360 : decode cL_act 360 = .ok (.istore 4, 2) := by decide +kernel
theorem dL_act_362 : decode cL_act 362 = .ok (.aload_n 0, 1) := by decide +kernel
theorem dL_act_363 : decode cL_act 363 = .ok (.bipush 6, 2) := by decide +kernel
theorem dL_act_365 : decode cL_act 365 = .ok (.invokevirtual 73, 3) := by decide +kernel
theorem dL_act_368 : decode cL_act 368 = .ok (.istore 5, 2) := by decide +kernel
theorem dL_act_370 : decode cL_act 370 = .ok (.aload_n 0, 1) := by decide +kernel
theorem dL_act_371 : decode cL_act 371 = .ok (.iload_n 2, 1) := by decide +kernel
theorem dL_act_372 : decode cL_act 372 = .ok (.iconst 5, 1) := by decide +kernel
theorem dL_act_373 : decode cL_act 373 = .ok (.invokestatic 22, 3) := by decide +kernel
theorem dL_act_376 : decode cL_act 376 = .ok (.invokevirtual 86, 3) := by decide +kernel
theorem dL_act_379 : decode cL_act 379 = .ok (.istore 6, 2) := by decide +kernel
theorem dL_act_381 : decode cL_act 381 = .ok (.iload 4, 2) := by decide +kernel
theorem dL_act_383 : decode cL_act 383 = .ok (.ifCond .lt 51, 3) := by decide +kernel
theorem dL_act_386 : decode cL_act 386 = .ok (.iload 4, 2) := by decide +kernel
theorem dL_act_388 : decode cL_act 388 = .ok (.aload_n 0, 1) := by decide +kernel
theorem dL_act_389 : decode cL_act 389 = .ok (.bipush 30, 2) := by decide +kernel
theorem dL_act_391 : decode cL_act 391 = .ok (.invokevirtual 73, 3) := by decide +kernel
theorem dL_act_394 : decode cL_act 394 = .ok (.if_icmp .ge 40, 3) := by decide +kernel
theorem dL_act_397 : decode cL_act 397 = .ok (.iload 6, 2) := by decide +kernel
theorem dL_act_399 : decode cL_act 399 = .ok (.bipush (-5), 2) := by decide +kernel
theorem dL_act_401 : decode cL_act 401 = .ok (.if_icmp .ne 29, 3) := by decide +kernel
theorem dL_act_404 : decode cL_act 404 = .ok (.aload_n 0, 1) := by decide +kernel
theorem dL_act_405 : decode cL_act 405 = .ok (.bipush 6, 2) := by decide +kernel
theorem dL_act_407 : decode cL_act 407 = .ok (.invokevirtual 73, 3) := by decide +kernel
theorem dL_act_410 : decode cL_act 410 = .ok (.iload 5, 2) := by decide +kernel
theorem dL_act_412 : decode cL_act 412 = .ok (.if_icmp .ne 18, 3) := by decide +kernel
theorem dL_act_415 : decode cL_act 415 = .ok (.aload_n 0, 1) := by decide +kernel
theorem dL_act_416 : decode cL_act 416 = .ok (.bipush 7, 2) := by decide +kernel
theorem dL_act_418 : decode cL_act 418 = .ok (.invokevirtual 73, 3) := by decide +kernel
theorem dL_act_421 : decode cL_act 421 = .ok (.iload 4, 2) := by decide +kernel
theorem dL_act_423 : decode cL_act 423 = .ok (.if_icmp .ne 7, 3) := by decide +kernel
theorem dL_act_426 : decode cL_act 426 = .ok (.iconst 1, 1) := by decide +kernel
theorem dL_act_427 : decode cL_act 427 = .ok (.goto 42, 3) := by decide +kernel
theorem dL_act_430 : decode cL_act 430 = .ok (.iconst 0, 1) := by decide +kernel
theorem dL_act_431 : decode cL_act 431 = .ok (.goto 38, 3) := by decide +kernel
theorem dL_act_434 : decode cL_act 434 = .ok (.iload 6, 2) := by decide +kernel
theorem dL_act_436 : decode cL_act 436 = .ok (.iload 5, 2) := by decide +kernel
theorem dL_act_438 : decode cL_act 438 = .ok (.if_icmp .ne 30, 3) := by decide +kernel
theorem dL_act_441 : decode cL_act 441 = .ok (.aload_n 0, 1) := by decide +kernel
theorem dL_act_442 : decode cL_act 442 = .ok (.bipush 6, 2) := by decide +kernel
theorem dL_act_444 : decode cL_act 444 = .ok (.invokevirtual 73, 3) := by decide +kernel
theorem dL_act_447 : decode cL_act 447 = .ok (.iload_n 2, 1) := by decide +kernel
theorem dL_act_448 : decode cL_act 448 = .ok (.iconst 5, 1) := by decide +kernel
theorem dL_act_449 : decode cL_act 449 = .ok (.invokestatic 22, 3) := by decide +kernel
theorem dL_act_452 : decode cL_act 452 = .ok (.if_icmp .ne 16, 3) := by decide +kernel
theorem dL_act_455 : decode cL_act 455 = .ok (.aload_n 0, 1) := by decide +kernel
theorem dL_act_456 : decode cL_act 456 = .ok (.bipush 7, 2) := by decide +kernel
theorem dL_act_458 : decode cL_act 458 = .ok (.invokevirtual 73, 3) := by decide +kernel
theorem dL_act_461 : decode cL_act 461 = .ok (.ifCond .ne 7, 3) := by decide +kernel
theorem dL_act_464 : decode cL_act 464 = .ok (.iconst 1, 1) := by decide +kernel
theorem dL_act_465 : decode cL_act 465 = .ok (.goto 4, 3) := by decide +kernel
theorem dL_act_468 : decode cL_act 468 = .ok (.iconst 0, 1) := by decide +kernel
theorem dL_act_469 : decode cL_act 469 = .ok (.ireturn, 1) := by decide +kernel
theorem dL_act_470 : decode cL_act 470 = .ok (.aload_n 0, 1) := by decide +kernel
theorem dL_act_471 : decode cL_act 471 = .ok (.iconst 2, 1) := by decide +kernel
theorem dL_act_472 : decode cL_act 472 = .ok (.invokevirtual 76, 3) := by decide +kernel
theorem dL_act_475 : decode cL_act 475 = .ok (.istore 4, 2) := by decide +kernel
theorem dL_act_477 : decode cL_act 477 = .ok (.aload_n 0, 1) := by decide +kernel
theorem dL_act_478 : decode cL_act 478 = .ok (.iload_n 2, 1) := by decide +kernel
theorem dL_act_479 : decode cL_act 479 = .ok (.sipush 141, 3) := by decide +kernel
theorem dL_act_482 : decode cL_act 482 = .ok (.invokestatic 22, 3) := by decide +kernel
theorem dL_act_485 : decode cL_act 485 = .ok (.bipush 70, 2) := by decide +kernel
theorem dL_act_487 : decode cL_act 487 = .ok (.isub, 1) := by decide +kernel
theorem dL_act_488 : decode cL_act 488 = .ok (.iload_n 3, 1) := by decide +kernel
theorem dL_act_489 : decode cL_act 489 = .ok (.sipush 401, 3) := by decide +kernel
theorem dL_act_492 : decode cL_act 492 = .ok (.invokestatic 22, 3) := by decide +kernel
theorem dL_act_495 : decode cL_act 495 = .ok (.invokevirtual 89, 3) := by decide +kernel
theorem dL_act_498 : decode cL_act 498 = .ok (.istore 5, 2) := by decide +kernel
theorem dL_act_500 : decode cL_act 500 = .ok (.aload_n 0, 1) := by decide +kernel
theorem dL_act_501 : decode cL_act 501 = .ok (.bipush 9, 2) := by decide +kernel
theorem dL_act_503 : decode cL_act 503 = .ok (.invokevirtual 76, 3) := by decide +kernel
theorem dL_act_506 : decode cL_act 506 = .ok (.iload_n 2, 1) := by decide +kernel
theorem dL_act_507 : decode cL_act 507 = .ok (.sipush 141, 3) := by decide +kernel
theorem dL_act_510 : decode cL_act 510 = .ok (.invokestatic 22, 3) := by decide +kernel
theorem dL_act_513 : decode cL_act 513 = .ok (.bipush 70, 2) := by decide +kernel
theorem dL_act_515 : decode cL_act 515 = .ok (.isub, 1) := by decide +kernel
theorem dL_act_516 : decode cL_act 516 = .ok (.if_icmp .ne 43, 3) := by decide +kernel
theorem dL_act_519 : decode cL_act 519 = .ok (.aload_n 0, 1) := by decide +kernel
theorem dL_act_520 : decode cL_act 520 = .ok (.bipush 18, 2) := by decide +kernel
theorem dL_act_522 : decode cL_act 522 = .ok (.invokevirtual 73, 3) := by decide +kernel
theorem dL_act_525 : decode cL_act 525 = .ok (.iload_n 3, 1) := by decide +kernel
theorem dL_act_526 : decode cL_act 526 = .ok (.sipush 401, 3) := by decide +kernel
theorem dL_act_529 : decode cL_act 529 = .ok (.invokestatic 22, 3) := by decide +kernel
theorem dL_act_532 : decode cL_act 532 = .ok (.if_icmp .ne 27, 3) := by decide +kernel
theorem dL_act_535 : decode cL_act 535 = .ok (.iload 5, 2) := by decide +kernel
theorem dL_act_537 : decode cL_act 537 = .ok (.aload_n 0, 1) := by decide +kernel
theorem dL_act_538 : decode cL_act 538 = .ok (.iconst 2, 1) := by decide +kernel
theorem dL_act_539 : decode cL_act 539 = .ok (.invokevirtual 76, 3) := by decide +kernel
theorem dL_act_542 : decode cL_act 542 = .ok (.iload 4, 2) := by decide +kernel
theorem dL_act_544 : decode cL_act 544 = .ok (.if_icmp .ne 7, 3) := by decide +kernel
theorem dL_act_547 : decode cL_act 547 = .ok (.iconst 0, 1) := by decide +kernel
theorem dL_act_548 : decode cL_act 548 = .ok (.goto 4, 3) := by decide +kernel
theorem dL_act_551 : decode cL_act 551 = .ok (.iconst 1, 1) := by decide +kernel
theorem dL_act_552 : decode cL_act 552 = .ok (.if_icmp .ne 7, 3) := by decide +kernel
theorem dL_act_555 : decode cL_act 555 = .ok (.iconst 1, 1) := by decide +kernel
theorem dL_act_556 : decode cL_act 556 = .ok (.goto 4, 3) := by decide +kernel
theorem dL_act_559 : decode cL_act 559 = .ok (.iconst 0, 1) := by decide +kernel
theorem dL_act_560 : decode cL_act 560 = .ok (.ireturn, 1) := by decide +kernel
theorem dL_act_561 : decode cL_act 561 = .ok (.aload_n 0, 1) := by decide +kernel
theorem dL_act_562 : decode cL_act 562 = .ok (.iload_n 2, 1) := by decide +kernel
theorem dL_act_563 : decode cL_act 563 = .ok (.ldc 64, 2) := by decide +kernel
theorem dL_act_565 : decode cL_act 565 = .ok (.invokestatic 22, 3) := by decide +kernel
theorem dL_act_568 : decode cL_act 568 = .ok (.invokestatic 92, 3) := by decide +kernel
theorem dL_act_571 : decode cL_act 571 = .ok (.ireturn, 1) := by decide +kernel
theorem dL_act_572 : decode cL_act 572 = .ok (.aload_n 0, 1) := by decide +kernel
theorem dL_act_573 : decode cL_act 573 = .ok (.bipush 10, 2) := by decide +kernel
theorem dL_act_575 : decode cL_act 575 = .ok (.invokevirtual 76, 3) := by decide +kernel
theorem dL_act_578 : decode cL_act 578 = .ok (.istore 4, 2) := by decide +kernel
theorem dL_act_580 : decode cL_act 580 = .ok (.iload_n 2, 1) := by decide +kernel
theorem dL_act_581 : decode cL_act 581 = .ok (.ldc 33, 2) := by decide +kernel
theorem dL_act_583 : decode cL_act 583 = .ok (.invokestatic 22, 3) := by decide +kernel
theorem dL_act_586 : decode cL_act 586 = .ok (.sipush 20000, 3) := by decide +kernel
theorem dL_act_589 : decode cL_act 589 = .ok (.isub, 1) := by decide +kernel
theorem dL_act_590 : decode cL_act 590 = .ok (.istore 5, 2) := by decide +kernel
theorem dL_act_592 : decode cL_act 592 = .ok (.aload_n 0, 1) := by decide +kernel
theorem dL_act_593 : decode cL_act 593 = .ok (.iconst 2, 1) := by decide +kernel
theorem dL_act_594 : decode cL_act 594 = .ok (.invokevirtual 76, 3) := by decide +kernel
theorem dL_act_597 : decode cL_act 597 = .ok (.istore 6, 2) := by decide +kernel
theorem dL_act_599 : decode cL_act 599 = .ok (.aload_n 0, 1) := by decide +kernel
theorem dL_act_600 : decode cL_act 600 = .ok (.iload 5, 2) := by decide +kernel
theorem dL_act_602 : decode cL_act 602 = .ok (.invokevirtual 95, 3) := by decide +kernel
theorem dL_act_605 : decode cL_act 605 = .ok (.iload 5, 2) := by decide +kernel
theorem dL_act_607 : decode cL_act 607 = .ok (.iload 6, 2) := by decide +kernel
theorem dL_act_609 : decode cL_act 609 = .ok (.isub, 1) := by decide +kernel
theorem dL_act_610 : decode cL_act 610 = .ok (.invokestatic 98, 3) := by decide +kernel
theorem dL_act_613 : decode cL_act 613 = .ok (.if_icmp .ne 27, 3) := by decide +kernel
theorem dL_act_616 : decode cL_act 616 = .ok (.aload_n 0, 1) := by decide +kernel
theorem dL_act_617 : decode cL_act 617 = .ok (.bipush 10, 2) := by decide +kernel
theorem dL_act_619 : decode cL_act 619 = .ok (.invokevirtual 76, 3) := by decide +kernel
theorem dL_act_622 : decode cL_act 622 = .ok (.iload 4, 2) := by decide +kernel
theorem dL_act_624 : decode cL_act 624 = .ok (.iload 5, 2) := by decide +kernel
theorem dL_act_626 : decode cL_act 626 = .ok (.iload 6, 2) := by decide +kernel
theorem dL_act_628 : decode cL_act 628 = .ok (.isub, 1) := by decide +kernel
theorem dL_act_629 : decode cL_act 629 = .ok (.invokestatic 98, 3) := by decide +kernel
theorem dL_act_632 : decode cL_act 632 = .ok (.iadd, 1) := by decide +kernel
theorem dL_act_633 : decode cL_act 633 = .ok (.if_icmp .ne 7, 3) := by decide +kernel
theorem dL_act_636 : decode cL_act 636 = .ok (.iconst 1, 1) := by decide +kernel
theorem dL_act_637 : decode cL_act 637 = .ok (.goto 4, 3) := by decide +kernel
theorem dL_act_640 : decode cL_act 640 = .ok (.iconst 0, 1) := by decide +kernel
theorem dL_act_641 : decode cL_act 641 = .ok (.ireturn, 1) := by decide +kernel
theorem dL_act_642 : decode cL_act 642 = .ok (.iconst 1, 1) := by decide +kernel
theorem dL_act_643 : decode cL_act 643 = .ok (.iload_n 2, 1) := by decide +kernel
theorem dL_act_644 : decode cL_act 644 = .ok (.bipush 8, 2) := by decide +kernel
theorem dL_act_646 : decode cL_act 646 = .ok (.invokestatic 22, 3) := by decide +kernel
theorem dL_act_649 : decode cL_act 649 = .ok (.iadd, 1) := by decide +kernel
theorem dL_act_650 : decode cL_act 650 = .ok (.istore 4, 2) := by decide +kernel
theorem dL_act_652 : decode cL_act 652 = .ok (.iconst 0, 1) := by decide +kernel
theorem dL_act_653 : decode cL_act 653 = .ok (.istore 5, 2) := by decide +kernel
theorem dL_act_655 : decode cL_act 655 = .ok (.iload 5, 2) := by decide +kernel
theorem dL_act_657 : decode cL_act 657 = .ok (.iload 4, 2) := by decide +kernel
theorem dL_act_659 : decode cL_act 659 = .ok (.if_icmp .ge 18, 3) := by decide +kernel
theorem dL_act_662 : decode cL_act 662 = .ok (.aload_n 0, 1) := by decide +kernel
theorem dL_act_663 : decode cL_act 663 = .ok (.invokestatic 101, 3) := by decide +kernel
theorem dL_act_666 : decode cL_act 666 = .ok (.ifCond .ne 5, 3) := by decide +kernel
theorem dL_act_669 : decode cL_act 669 = .ok (.iconst 0, 1) := by decide +kernel
theorem dL_act_670 : decode cL_act 670 = .ok (.ireturn, 1) := by decide +kernel
theorem dL_act_671 : decode cL_act 671 = .ok (.iinc 5 1, 3) := by decide +kernel
theorem dL_act_674 : decode cL_act 674 = .ok (.goto (-19), 3) := by decide +kernel
theorem dL_act_677 : decode cL_act 677 = .ok (.iconst 1, 1) := by decide +kernel
theorem dL_act_678 : decode cL_act 678 = .ok (.ireturn, 1) := by decide +kernel
