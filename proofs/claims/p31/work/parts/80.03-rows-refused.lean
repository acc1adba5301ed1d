set_option maxRecDepth 100000 in
theorem ggL_refused_L_up : GoodIn wsL_refused wsL_up := goodIn_r _ [9, 10] rfl (by decide +kernel)
set_option maxRecDepth 100000 in
theorem gL_refused_L_up : GoodIn wsL_refused (va_wsS RL 22 yL_up wsL_up) := goodIn_app (goodIn_of _ (by decide +kernel)) ggL_refused_L_up
set_option maxRecDepth 100000 in
theorem ggL_refused_X9_set : GoodIn wsL_refused wsX9_set := goodIn_r _ [15, 16, 17, 18, 19, 20, 21, 22, 23, 14, 24, 25, 26, 27, 28, 29, 30, 31, 32, 33, 34, 35, 36, 37, 38, 39, 40, 41, 42, 43, 44, 45, 46, 47, 48, 49, 50, 51, 52, 53, 54, 55, 56, 57, 58, 59, 60, 61, 62, 63, 64, 65, 66, 67, 68, 69, 70, 71, 72, 73, 74, 75, 76, 77, 78, 79, 80, 81, 82, 83, 84, 85, 86, 87, 88, 89, 90, 91, 92, 93, 94, 95, 96, 97, 98, 99, 100, 101, 102, 103, 104, 105, 106, 107, 108, 109, 110, 111, 112, 113, 114, 115, 116, 117, 118, 119, 120, 121, 122, 123, 124, 125, 126, 127, 128, 129, 130, 131, 132, 133, 134, 135, 136, 137, 138, 139, 140, 141, 142, 143, 144, 145, 146, 147, 148, 149, 150, 151, 152, 153, 154, 155, 156, 157, 158, 159, 160, 161, 162, 163, 164, 165, 166, 547, 548, 549, 550, 551, 552, 553, 554, 555, 556, 557, 558, 559, 560, 561, 562, 563, 564, 565, 566, 567, 568, 569, 570, 571, 572, 573, 574, 575, 576, 577, 578, 579, 580, 581, 582, 583, 584, 585, 586, 587, 588, 589, 590] rfl (by decide +kernel)
set_option maxRecDepth 100000 in
theorem gL_refused_X9_set : GoodIn wsL_refused (wsV RL 26 RX9 yX9_set wsX9_set) := goodIn_app (goodIn_of _ (by decide +kernel)) ggL_refused_X9_set
set_option maxRecDepth 100000 in
theorem ggL_refused_X9_start : GoodIn wsL_refused wsX9_start := goodIn_r _ [170, 171, 172, 173, 174, 175, 19, 20, 176, 177, 178, 22, 23, 14, 24, 28, 29, 30, 31, 32, 33, 34, 35, 36, 37, 38, 39, 40, 41, 42, 43, 44, 45, 46, 47, 48, 49, 50, 51, 52, 53, 54, 55, 56, 57, 58, 59, 60, 61, 62, 63, 64, 65, 66, 67, 68, 69, 70, 71, 72, 73, 74, 75, 76, 77, 78, 79, 80, 81, 82, 83, 84, 85, 86, 87, 88, 89, 90, 91, 92, 93, 94, 95, 96, 97, 98, 99, 100, 101, 102, 103, 104, 105, 106, 107, 108, 109, 110, 111, 112, 113, 114, 115, 116, 117, 118, 119, 120, 121, 122, 123, 124, 125, 126, 127, 128, 129, 130, 131, 132, 133, 134, 135, 136, 137, 138, 139, 140, 141, 142, 143, 144, 145, 146, 147, 148, 149, 150, 151, 152, 153, 154, 155, 156, 157, 158, 159, 160, 161, 162, 163, 547, 548, 549, 550, 551, 552, 553, 554, 555, 556, 557, 558, 559, 568, 569, 570, 571, 572, 573, 574, 560, 561, 562, 563, 564, 565, 566, 567, 575, 576, 577, 578, 579, 580, 581, 582, 583, 584, 585, 586, 587, 588, 589, 590] rfl (by decide +kernel)
set_option maxRecDepth 100000 in
theorem gL_refused_X9_start : GoodIn wsL_refused (wsV RL 34 RX9 yX9_start wsX9_start) := goodIn_app (goodIn_of _ (by decide +kernel)) ggL_refused_X9_start
set_option maxRecDepth 100000 in
theorem ggL_refused_X9_place : GoodIn wsL_refused wsX9_place := goodIn_r _ [182, 20, 183, 184, 185, 19, 186, 187, 188, 189, 14, 190, 191, 192, 22, 23, 24, 28, 29, 30, 31, 32, 33, 34, 35, 36, 37, 38, 39, 40, 41, 42, 43, 44, 45, 46, 47, 48, 49, 50, 51, 52, 53, 54, 55, 56, 57, 58, 59, 60, 61, 62, 63, 64, 65, 66, 67, 68, 69, 70, 71, 72, 73, 74, 75, 76, 77, 78, 79, 80, 81, 82, 83, 84, 85, 86, 87, 88, 89, 90, 91, 92, 93, 94, 95, 96, 97, 98, 99, 100, 101, 102, 103, 104, 105, 106, 107, 108, 109, 110, 111, 112, 113, 114, 115, 116, 117, 118, 119, 120, 121, 122, 123, 124, 125, 126, 127, 128, 129, 130, 131, 132, 133, 134, 135, 136, 137, 138, 139, 140, 141, 142, 143, 144, 145, 146, 147, 148, 149, 150, 151, 152, 153, 154, 155, 156, 157, 158, 159, 160, 161, 162, 163, 547, 548, 549, 550, 551, 552, 553, 554, 555, 556, 557, 558, 559, 563, 564, 565, 566, 567, 585, 586, 587, 588, 560, 561, 562, 568, 569, 570, 571, 572, 573, 574, 575, 576, 577, 578, 579, 580, 581, 582, 583, 584, 589, 590] rfl (by decide +kernel)
set_option maxRecDepth 100000 in
theorem gL_refused_X9_place : GoodIn wsL_refused (wsV RL 29 RX9 yX9_place wsX9_place) := goodIn_app (goodIn_of _ (by decide +kernel)) ggL_refused_X9_place
set_option maxRecDepth 100000 in
theorem ggL_refused_X9_line : GoodIn wsL_refused wsX9_line := goodIn_r _ [196, 20, 197, 198, 19, 199, 200, 14, 201, 202, 22, 23, 24, 28, 29, 30, 31, 32, 33, 34, 35, 36, 37, 38, 39, 40, 41, 42, 43, 44, 45, 46, 47, 48, 49, 50, 51, 52, 53, 54, 55, 56, 57, 58, 59, 60, 61, 62, 63, 64, 65, 66, 67, 68, 69, 70, 71, 72, 73, 74, 75, 76, 77, 78, 79, 80, 81, 82, 83, 84, 85, 86, 87, 88, 89, 90, 91, 92, 93, 94, 95, 96, 97, 98, 99, 100, 101, 102, 103, 104, 105, 106, 107, 108, 109, 110, 111, 112, 113, 114, 115, 116, 117, 118, 119, 120, 121, 122, 123, 124, 125, 126, 127, 128, 129, 130, 131, 132, 133, 134, 135, 136, 137, 138, 139, 140, 141, 142, 143, 144, 145, 146, 147, 148, 149, 150, 151, 152, 153, 154, 155, 156, 157, 158, 159, 160, 161, 162, 163, 203, 204, 205, 206, 165, 166, 547, 548, 549, 550, 551, 552, 553, 554, 555, 556, 557, 558, 559, 581, 582, 583, 584, 560, 561, 562, 563, 564, 565, 566, 567, 568, 569, 570, 571, 572, 573, 574, 575, 576, 577, 578, 579, 580, 585, 586, 587, 588, 589, 590] rfl (by decide +kernel)
set_option maxRecDepth 100000 in
theorem gL_refused_X9_line : GoodIn wsL_refused (wsV RL 128 RX9 yX9_line wsX9_line) := goodIn_app (goodIn_of _ (by decide +kernel)) ggL_refused_X9_line
set_option maxRecDepth 100000 in
theorem ggL_refused_X9_steer : GoodIn wsL_refused wsX9_steer := goodIn_r _ [210, 19, 20, 183, 184, 185, 211, 212, 199, 200, 14, 201, 202, 22, 23, 24, 213, 214, 215, 216, 28, 29, 30, 31, 32, 33, 34, 35, 36, 37, 38, 39, 40, 41, 42, 43, 44, 45, 46, 47, 48, 49, 50, 51, 52, 53, 54, 55, 56, 57, 58, 59, 60, 61, 62, 63, 64, 65, 66, 67, 68, 69, 70, 71, 72, 73, 74, 75, 76, 77, 78, 79, 80, 81, 82, 83, 84, 85, 86, 87, 88, 89, 90, 91, 92, 93, 94, 95, 96, 97, 98, 99, 100, 101, 102, 103, 104, 105, 106, 107, 108, 109, 110, 111, 112, 113, 114, 115, 116, 117, 118, 119, 120, 121, 122, 123, 124, 125, 126, 127, 128, 129, 130, 131, 132, 133, 134, 135, 136, 137, 138, 139, 140, 141, 142, 143, 144, 145, 146, 147, 148, 149, 150, 151, 152, 153, 154, 155, 156, 157, 158, 159, 160, 161, 162, 163, 217, 218, 219, 220, 547, 548, 549, 550, 551, 552, 553, 554, 555, 556, 557, 558, 559, 563, 564, 565, 566, 567, 585, 586, 587, 588, 560, 561, 562, 568, 569, 570, 571, 572, 573, 574, 575, 576, 577, 578, 579, 580, 581, 582, 583, 584, 589, 590] rfl (by decide +kernel)
set_option maxRecDepth 100000 in
theorem gL_refused_X9_steer : GoodIn wsL_refused (wsV RL 83 RX9 yX9_steer wsX9_steer) := goodIn_app (goodIn_of _ (by decide +kernel)) ggL_refused_X9_steer
set_option maxRecDepth 100000 in
theorem ggL_refused_X9_leg : GoodIn wsL_refused wsX9_leg := goodIn_r _ [224, 20, 183, 184, 185, 19, 199, 200, 14, 201, 202, 22, 23, 24, 213, 214, 215, 216, 225, 226, 227, 228, 28, 29, 30, 31, 32, 33, 34, 35, 36, 37, 38, 39, 40, 41, 42, 43, 44, 45, 46, 47, 48, 49, 50, 51, 52, 53, 54, 55, 56, 57, 58, 59, 60, 61, 62, 63, 64, 65, 66, 67, 68, 69, 70, 71, 72, 73, 74, 75, 76, 77, 78, 79, 80, 81, 82, 83, 84, 85, 86, 87, 88, 89, 90, 91, 92, 93, 94, 95, 96, 97, 98, 99, 100, 101, 102, 103, 104, 105, 106, 107, 108, 109, 110, 111, 112, 113, 114, 115, 116, 117, 118, 119, 120, 121, 122, 123, 124, 125, 126, 127, 128, 129, 130, 131, 132, 133, 134, 135, 136, 137, 138, 139, 140, 141, 142, 143, 144, 145, 146, 147, 148, 149, 150, 151, 152, 153, 154, 155, 156, 157, 158, 159, 160, 161, 162, 163, 229, 230, 231, 232, 233, 234, 235, 236, 165, 166, 237, 238, 239, 240, 241, 242, 243, 26, 27, 547, 548, 549, 550, 551, 552, 553, 554, 555, 556, 557, 558, 559, 563, 564, 565, 566, 567, 585, 586, 587, 588, 560, 561, 562, 568, 569, 570, 571, 572, 573, 574, 575, 576, 577, 578, 579, 580, 581, 582, 583, 584, 589, 590] rfl (by decide +kernel)
set_option maxRecDepth 100000 in
theorem gL_refused_X9_leg : GoodIn wsL_refused (wsV RL 80 RX9 yX9_leg wsX9_leg) := goodIn_app (goodIn_of _ (by decide +kernel)) ggL_refused_X9_leg
set_option maxRecDepth 100000 in
theorem ggL_refused_X9_pass : GoodIn wsL_refused wsX9_pass := goodIn_r _ [247, 20, 248, 174, 19, 249, 250, 225, 226, 14, 227, 228, 22, 23, 24, 28, 29, 30, 31, 32, 33, 34, 35, 36, 37, 38, 39, 40, 41, 42, 43, 44, 45, 46, 47, 48, 49, 50, 51, 52, 53, 54, 55, 56, 57, 58, 59, 60, 61, 62, 63, 64, 65, 66, 67, 68, 69, 70, 71, 72, 73, 74, 75, 76, 77, 78, 79, 80, 81, 82, 83, 84, 85, 86, 87, 88, 89, 90, 91, 92, 93, 94, 95, 96, 97, 98, 99, 100, 101, 102, 103, 104, 105, 106, 107, 108, 109, 110, 111, 112, 113, 114, 115, 116, 117, 118, 119, 120, 121, 122, 123, 124, 125, 126, 127, 128, 129, 130, 131, 132, 133, 134, 135, 136, 137, 138, 139, 140, 141, 142, 143, 144, 145, 146, 147, 148, 149, 150, 151, 152, 153, 154, 155, 156, 157, 158, 159, 160, 161, 162, 163, 251, 252, 253, 254, 255, 256, 257, 258, 259, 260, 261, 262, 263, 264, 265, 266, 267, 268, 269, 270, 271, 272, 273, 274, 26, 27, 275, 276, 277, 278, 279, 280, 281, 282, 283, 284, 285, 286, 287, 288, 289, 290, 291, 292, 293, 294, 295, 296, 297, 298, 299, 300, 301, 302, 303, 304, 305, 306, 307, 308, 309, 310, 311, 312, 313, 314, 315, 316, 165, 166, 317, 318, 319, 320, 321, 322, 323, 241, 324, 325, 326, 327, 328, 329, 330, 331, 332, 237, 238, 239, 240, 242, 243, 547, 548, 549, 550, 551, 552, 553, 554, 555, 556, 557, 558, 559, 575, 576, 577, 578, 579, 580, 560, 561, 562, 563, 564, 565, 566, 567, 568, 569, 570, 571, 572, 573, 574, 581, 582, 583, 584, 585, 586, 587, 588, 589, 590] rfl (by decide +kernel)
set_option maxRecDepth 100000 in
theorem gL_refused_X9_pass : GoodIn wsL_refused (wsV RL 107 RX9 yX9_pass wsX9_pass) := goodIn_app (goodIn_of _ (by decide +kernel)) ggL_refused_X9_pass
set_option maxRecDepth 100000 in
theorem ggL_refused_X9_damp : GoodIn wsL_refused wsX9_damp := goodIn_r _ [336, 337, 20, 338, 21, 19, 176, 339, 248, 340, 22, 23, 14, 24, 341, 342, 343, 44, 344, 60, 345, 346, 347, 119, 25, 26, 27, 28, 29, 30, 31, 32, 33, 34, 35, 36, 37, 38, 39, 40, 41, 42, 43, 45, 46, 47, 48, 49, 50, 51, 52, 53, 54, 55, 56, 57, 58, 59, 61, 62, 63, 64, 65, 66, 67, 68, 69, 70, 71, 72, 73, 74, 75, 76, 77, 78, 79, 80, 81, 82, 83, 84, 85, 86, 87, 88, 89, 90, 91, 92, 93, 94, 95, 96, 97, 98, 99, 100, 101, 102, 103, 104, 105, 106, 107, 108, 109, 110, 111, 112, 113, 114, 115, 116, 117, 118, 120, 121, 122, 123, 124, 125, 126, 127, 128, 129, 130, 131, 132, 133, 134, 135, 136, 137, 138, 139, 140, 141, 142, 143, 144, 145, 146, 147, 148, 149, 150, 151, 152, 153, 154, 155, 156, 157, 158, 159, 160, 161, 162, 163, 547, 548, 549, 550, 551, 552, 553, 554, 555, 556, 557, 558, 559, 568, 569, 570, 571, 572, 573, 574, 560, 561, 562, 563, 564, 565, 566, 567, 575, 576, 577, 578, 579, 580, 581, 582, 583, 584, 585, 586, 587, 588, 589, 590] rfl (by decide +kernel)
set_option maxRecDepth 100000 in
theorem gL_refused_X9_damp : GoodIn wsL_refused (wsV RL 86 RX9 yX9_damp wsX9_damp) := goodIn_app (goodIn_of _ (by decide +kernel)) ggL_refused_X9_damp
set_option maxRecDepth 100000 in
theorem ggL_refused_X9_correct : GoodIn wsL_refused wsX9_correct := goodIn_r _ [351, 19, 20, 176, 352, 353, 188, 189, 14, 190, 191, 192, 22, 23, 24, 213, 214, 215, 216, 28, 29, 30, 31, 32, 33, 34, 35, 36, 37, 38, 39, 40, 41, 42, 43, 44, 45, 46, 47, 48, 49, 50, 51, 52, 53, 54, 55, 56, 57, 58, 59, 60, 61, 62, 63, 64, 65, 66, 67, 68, 69, 70, 71, 72, 73, 74, 75, 76, 77, 78, 79, 80, 81, 82, 83, 84, 85, 86, 87, 88, 89, 90, 91, 92, 93, 94, 95, 96, 97, 98, 99, 100, 101, 102, 103, 104, 105, 106, 107, 108, 109, 110, 111, 112, 113, 114, 115, 116, 117, 118, 119, 120, 121, 122, 123, 124, 125, 126, 127, 128, 129, 130, 131, 132, 133, 134, 135, 136, 137, 138, 139, 140, 141, 142, 143, 144, 145, 146, 147, 148, 149, 150, 151, 152, 153, 154, 155, 156, 157, 158, 159, 160, 161, 162, 163, 354, 276, 277, 278, 256, 279, 280, 281, 282, 283, 26, 27, 284, 285, 286, 287, 259, 260, 261, 262, 263, 264, 269, 270, 271, 272, 273, 274, 288, 265, 266, 267, 268, 289, 290, 291, 547, 548, 549, 550, 551, 552, 553, 554, 555, 556, 557, 558, 559, 568, 569, 570, 571, 572, 573, 574, 560, 561, 562, 563, 564, 565, 566, 567, 575, 576, 577, 578, 579, 580, 581, 582, 583, 584, 585, 586, 587, 588, 589, 590] rfl (by decide +kernel)
set_option maxRecDepth 100000 in
theorem gL_refused_X9_correct : GoodIn wsL_refused (wsV RL 89 RX9 yX9_correct wsX9_correct) := goodIn_app (goodIn_of _ (by decide +kernel)) ggL_refused_X9_correct
set_option maxRecDepth 100000 in
theorem ggL_refused_X9_observe : GoodIn wsL_refused wsX9_observe := goodIn_r _ [358, 20, 197, 198, 19, 176, 177, 359, 360, 268, 22, 23, 14, 24, 28, 29, 30, 31, 32, 33, 34, 35, 36, 37, 38, 39, 40, 41, 42, 43, 44, 45, 46, 47, 48, 49, 50, 51, 52, 53, 54, 55, 56, 57, 58, 59, 60, 61, 62, 63, 64, 65, 66, 67, 68, 69, 70, 71, 72, 73, 74, 75, 76, 77, 78, 79, 80, 81, 82, 83, 84, 85, 86, 87, 88, 89, 90, 91, 92, 93, 94, 95, 96, 97, 98, 99, 100, 101, 102, 103, 104, 105, 106, 107, 108, 109, 110, 111, 112, 113, 114, 115, 116, 117, 118, 119, 120, 121, 122, 123, 124, 125, 126, 127, 128, 129, 130, 131, 132, 133, 134, 135, 136, 137, 138, 139, 140, 141, 142, 143, 144, 145, 146, 147, 148, 149, 150, 151, 152, 153, 154, 155, 156, 157, 158, 159, 160, 161, 162, 163, 361, 362, 363, 364, 365, 366, 367, 368, 369, 26, 27, 165, 166, 370, 371, 372, 373, 374, 313, 314, 315, 316, 25, 375, 376, 377, 378, 547, 548, 549, 550, 551, 552, 553, 554, 555, 556, 557, 558, 559, 581, 582, 583, 584, 568, 569, 570, 571, 572, 573, 574, 560, 561, 562, 563, 564, 565, 566, 567, 575, 576, 577, 578, 579, 580, 585, 586, 587, 588, 589, 590] rfl (by decide +kernel)
set_option maxRecDepth 100000 in
theorem gL_refused_X9_observe : GoodIn wsL_refused (wsV RL 131 RX9 yX9_observe wsX9_observe) := goodIn_app (goodIn_of _ (by decide +kernel)) ggL_refused_X9_observe
set_option maxRecDepth 100000 in
theorem ggL_refused_X9_guess : GoodIn wsL_refused wsX9_guess := goodIn_r _ [382, 383, 384, 19, 20, 261, 262, 38, 263, 385, 386, 22, 23, 14, 24, 28, 29, 30, 31, 32, 33, 34, 35, 36, 37, 39, 40, 41, 42, 43, 44, 45, 46, 47, 48, 49, 50, 51, 52, 53, 54, 55, 56, 57, 58, 59, 60, 61, 62, 63, 64, 65, 66, 67, 68, 69, 70, 71, 72, 73, 74, 75, 76, 77, 78, 79, 80, 81, 82, 83, 84, 85, 86, 87, 88, 89, 90, 91, 92, 93, 94, 95, 96, 97, 98, 99, 100, 101, 102, 103, 104, 105, 106, 107, 108, 109, 110, 111, 112, 113, 114, 115, 116, 117, 118, 119, 120, 121, 122, 123, 124, 125, 126, 127, 128, 129, 130, 131, 132, 133, 134, 135, 136, 137, 138, 139, 140, 141, 142, 143, 144, 145, 146, 147, 148, 149, 150, 151, 152, 153, 154, 155, 156, 157, 158, 159, 160, 161, 162, 163, 354, 276, 277, 278, 256, 279, 280, 281, 282, 283, 26, 27, 284, 285, 286, 287, 259, 260, 264, 269, 270, 271, 272, 273, 274, 288, 265, 266, 267, 268, 289, 290, 291, 547, 548, 549, 550, 551, 552, 553, 554, 555, 556, 557, 558, 559, 560, 561, 562, 563, 564, 565, 566, 567, 568, 569, 570, 571, 572, 573, 574, 575, 576, 577, 578, 579, 580, 581, 582, 583, 584, 585, 586, 587, 588, 589, 590] rfl (by decide +kernel)
set_option maxRecDepth 100000 in
theorem gL_refused_X9_guess : GoodIn wsL_refused (wsV RL 95 RX9 yX9_guess wsX9_guess) := goodIn_app (goodIn_of _ (by decide +kernel)) ggL_refused_X9_guess
set_option maxRecDepth 100000 in
theorem ggL_refused_X9_compass : GoodIn wsL_refused wsX9_compass := goodIn_r _ [390, 20, 176, 177, 178, 249, 391, 392, 393, 394, 197, 395, 183, 187, 352, 386, 175, 354, 276, 277, 44, 278, 52, 56, 256, 279, 280, 60, 281, 282, 283, 26, 14, 27, 284, 285, 286, 287, 259, 260, 261, 262, 38, 263, 264, 269, 270, 271, 272, 273, 274, 288, 265, 266, 267, 268, 289, 290, 291, 396, 397, 398, 63, 399, 99, 400, 401, 402, 403, 404, 405, 406, 407, 408, 409, 410, 411, 101, 100, 412, 413, 414, 415, 416, 417, 418, 98, 419, 156, 107, 547, 548, 549, 550, 551, 552, 553, 554, 555, 556, 557, 558, 559, 568, 569, 570, 571, 572, 573, 574, 575, 576, 577, 578, 579, 580, 589, 590, 581, 582, 583, 584, 563, 564, 565, 566, 567] rfl (by decide +kernel)
set_option maxRecDepth 100000 in
theorem gL_refused_X9_compass : GoodIn wsL_refused (wsV RL 76 RX9 yX9_compass wsX9_compass) := goodIn_app (goodIn_of _ (by decide +kernel)) ggL_refused_X9_compass
set_option maxRecDepth 100000 in
theorem ggL_refused_X9_turn : GoodIn wsL_refused wsX9_turn := goodIn_r _ [423, 20, 249, 393, 394, 424, 425, 426, 175, 22, 23, 14, 24, 25, 26, 27, 547, 548, 549, 550, 551, 552, 553, 554, 555, 556, 557, 558, 559, 575, 576, 577, 578, 579, 580, 589, 590] rfl (by decide +kernel)
set_option maxRecDepth 100000 in
theorem gL_refused_X9_turn : GoodIn wsL_refused (wsV RL 104 RX9 yX9_turn wsX9_turn) := goodIn_app (goodIn_of _ (by decide +kernel)) ggL_refused_X9_turn
set_option maxRecDepth 100000 in
theorem ggL_refused_X9_check : GoodIn wsL_refused wsX9_check := goodIn_r _ [430, 20, 197, 395, 394, 424, 425, 22, 23, 14, 24, 25, 26, 27, 547, 548, 549, 550, 551, 552, 553, 554, 555, 556, 557, 558, 559, 581, 582, 583, 584, 589, 590] rfl (by decide +kernel)
set_option maxRecDepth 100000 in
theorem gL_refused_X9_check : GoodIn wsL_refused (wsV RL 134 RX9 yX9_check wsX9_check) := goodIn_app (goodIn_of _ (by decide +kernel)) ggL_refused_X9_check
set_option maxRecDepth 100000 in
theorem ggL_refused_X9_state : GoodIn wsL_refused wsX9_state := goodIn_r _ [434, 16, 435, 20, 176, 436, 437, 438, 21, 22, 23, 14, 24, 25, 26, 27, 439, 440, 441, 442, 248, 183, 211, 212, 184, 185, 443, 339, 444, 445, 446, 55, 447, 75, 241, 328, 341, 342, 343, 44, 344, 60, 345, 346, 347, 119, 448, 449, 450, 451, 249, 393, 394, 250, 197, 395, 452, 385, 353, 198, 453, 454, 19, 455, 547, 548, 549, 550, 551, 552, 553, 554, 555, 556, 557, 558, 559, 568, 569, 570, 571, 572, 573, 574, 563, 564, 565, 566, 567, 585, 586, 587, 588, 575, 576, 577, 578, 579, 580, 589, 590, 581, 582, 583, 584, 591, 592, 593, 594, 595, 560, 561, 562] rfl (by decide +kernel)
set_option maxRecDepth 100000 in
theorem gL_refused_X9_state : GoodIn wsL_refused (wsV RL 73 RX9 yX9_state wsX9_state) := goodIn_app (goodIn_of _ (by decide +kernel)) ggL_refused_X9_state
set_option maxRecDepth 100000 in
theorem ggL_refused_X9_wave : GoodIn wsL_refused wsX9_wave := goodIn_r _ [459, 175, 199, 200, 14, 201, 202, 22, 23, 24, 269, 270, 271, 272, 273, 274, 288, 265, 266, 267, 268] rfl (by decide +kernel)
set_option maxRecDepth 100000 in
theorem gL_refused_X9_wave : GoodIn wsL_refused (wsV RL 60 RX9 yX9_wave wsX9_wave) := goodIn_app (goodIn_of _ (by decide +kernel)) ggL_refused_X9_wave
set_option maxRecDepth 100000 in
theorem ggL_refused_X9_restAt : GoodIn wsL_refused wsX9_restAt := goodIn_r _ [463, 175, 20, 21, 186, 188, 189, 14, 190, 191, 192, 22, 23, 24, 213, 214, 215, 216, 199, 200, 201, 202, 25, 26, 27, 464, 284, 285, 286, 287, 259, 260, 261, 262, 38, 263, 264, 269, 270, 271, 272, 273, 274, 288, 265, 266, 267, 268, 289, 290, 291, 547, 548, 549, 550, 551, 552, 553, 554, 555, 556, 557, 558, 559] rfl (by decide +kernel)
set_option maxRecDepth 100000 in
theorem gL_refused_X9_restAt : GoodIn wsL_refused (wsV RL 69 RX9 yX9_restAt wsX9_restAt) := goodIn_app (goodIn_of _ (by decide +kernel)) ggL_refused_X9_restAt
set_option maxRecDepth 100000 in
theorem ggL_refused_X9_calmIn : GoodIn wsL_refused wsX9_calmIn := goodIn_r _ [468, 174, 469, 20, 176, 339, 22, 23, 14, 24, 470, 471, 472, 473, 474, 115, 116, 117, 44, 118, 52, 56, 60, 64, 68, 119, 120, 121, 122, 123, 124, 125, 126, 55, 127, 75, 128, 129, 130, 131, 132, 133, 134, 74, 135, 83, 84, 85, 136, 137, 138, 139, 59, 140, 89, 141, 142, 143, 144, 90, 92, 145, 146, 147, 63, 148, 99, 100, 101, 149, 150, 151, 152, 153, 154, 98, 155, 107, 156, 157, 158, 159, 67, 160, 111, 113, 161, 162, 163, 475, 476, 477, 478, 255, 479, 262, 38, 263, 480, 275, 276, 277, 278, 256, 279, 280, 281, 282, 283, 26, 27, 284, 285, 286, 287, 259, 260, 261, 264, 269, 270, 271, 272, 273, 274, 288, 265, 266, 267, 268, 289, 290, 291, 251, 252, 253, 254, 257, 258, 292, 293, 294, 295, 296, 297, 298, 299, 300, 301, 302, 303, 304, 305, 306, 307, 308, 309, 310, 311, 312, 313, 314, 315, 316, 37, 39, 165, 166, 317, 318, 319, 320, 321, 322, 323, 241, 324, 325, 326, 327, 328, 329, 330, 331, 332, 80, 81, 82, 237, 238, 239, 240, 242, 243, 547, 548, 549, 550, 551, 552, 553, 554, 555, 556, 557, 558, 559, 568, 569, 570, 571, 572, 573, 574, 563, 564, 565, 566, 567, 585, 586, 587, 588, 575, 576, 577, 578, 579, 580, 589, 590, 581, 582, 583, 584] rfl (by decide +kernel)
set_option maxRecDepth 100000 in
theorem gL_refused_X9_calmIn : GoodIn wsL_refused (wsV RL 151 RX9 yX9_calmIn wsX9_calmIn) := goodIn_app (goodIn_of _ (by decide +kernel)) ggL_refused_X9_calmIn
set_option maxRecDepth 100000 in
theorem ggL_refused_X9_bestLevel : GoodIn wsL_refused wsX9_bestLevel := goodIn_r _ [484, 174, 485, 22, 23, 14, 24, 470, 471, 472, 473, 474, 20, 176, 339, 115, 116, 117, 44, 118, 52, 56, 60, 64, 68, 119, 120, 121, 122, 123, 124, 125, 126, 55, 127, 75, 128, 129, 130, 131, 132, 133, 134, 74, 135, 83, 84, 85, 136, 137, 138, 139, 59, 140, 89, 141, 142, 143, 144, 90, 92, 145, 146, 147, 63, 148, 99, 100, 101, 149, 150, 151, 152, 153, 154, 98, 155, 107, 156, 157, 158, 159, 67, 160, 111, 113, 161, 162, 163, 475, 476, 477, 478, 255, 479, 262, 38, 263, 480, 275, 276, 277, 278, 256, 279, 280, 281, 282, 283, 26, 27, 284, 285, 286, 287, 259, 260, 261, 264, 269, 270, 271, 272, 273, 274, 288, 265, 266, 267, 268, 289, 290, 291, 251, 252, 253, 254, 257, 258, 292, 293, 294, 295, 296, 297, 298, 299, 300, 301, 302, 303, 304, 305, 306, 307, 308, 309, 310, 311, 312, 313, 314, 315, 316, 37, 39, 165, 166, 317, 318, 319, 320, 321, 322, 323, 241, 324, 325, 326, 327, 328, 329, 330, 331, 332, 80, 81, 82, 237, 238, 239, 240, 242, 243, 547, 548, 549, 550, 551, 552, 553, 554, 555, 556, 557, 558, 559, 568, 569, 570, 571, 572, 573, 574, 563, 564, 565, 566, 567, 585, 586, 587, 588, 575, 576, 577, 578, 579, 580, 589, 590, 581, 582, 583, 584] rfl (by decide +kernel)
set_option maxRecDepth 100000 in
theorem gL_refused_X9_bestLevel : GoodIn wsL_refused (wsV RL 154 RX9 yX9_bestLevel wsX9_bestLevel) := goodIn_app (goodIn_of _ (by decide +kernel)) ggL_refused_X9_bestLevel
set_option maxRecDepth 100000 in
theorem ggL_refused_X9_load : GoodIn wsL_refused wsX9_load := goodIn_r _ [489, 453, 20, 183, 184, 185, 490, 19, 491, 492, 493, 454, 494, 495, 496, 497, 498, 499, 500, 501, 502, 218, 219, 74, 220, 136, 503, 504, 505, 506, 507, 508, 509, 510, 511, 512, 513, 514, 515, 516, 517, 518, 519, 520, 521, 522, 523, 524, 525, 526, 527, 234, 235, 236, 83, 84, 85, 165, 14, 166, 28, 29, 30, 31, 32, 33, 34, 35, 36, 37, 38, 39, 40, 41, 42, 43, 44, 45, 46, 47, 48, 49, 50, 51, 52, 53, 54, 55, 56, 57, 58, 59, 60, 61, 62, 63, 64, 65, 66, 67, 68, 69, 70, 71, 72, 73, 75, 76, 77, 78, 79, 80, 81, 82, 86, 87, 88, 89, 90, 91, 92, 93, 94, 95, 96, 97, 98, 99, 100, 101, 102, 103, 104, 105, 106, 107, 108, 109, 110, 111, 112, 113, 114, 115, 116, 117, 118, 119, 120, 121, 122, 123, 124, 125, 126, 127, 128, 129, 130, 131, 132, 133, 134, 135, 137, 138, 139, 140, 141, 142, 143, 144, 145, 146, 147, 148, 149, 150, 151, 152, 153, 154, 155, 156, 157, 158, 159, 160, 161, 162, 163, 25, 26, 27, 229, 230, 231, 232, 233, 237, 238, 239, 240, 241, 242, 243, 547, 548, 549, 550, 551, 552, 553, 554, 555, 556, 557, 558, 559, 563, 564, 565, 566, 567, 585, 586, 587, 588, 591, 592, 593, 594, 595, 560, 561, 562, 568, 569, 570, 571, 572, 573, 574, 575, 576, 577, 578, 579, 580, 581, 582, 583, 584, 589, 590] rfl (by decide +kernel)
set_option maxRecDepth 100000 in
theorem gL_refused_X9_load : GoodIn wsL_refused (wsV RL 182 RX9 yX9_load wsX9_load) := goodIn_app (goodIn_of _ (by decide +kernel)) ggL_refused_X9_load
set_option maxRecDepth 100000 in
theorem ggL_refused_X9_undo : GoodIn wsL_refused wsX9_undo := goodIn_r _ [531, 19, 455, 20, 532, 533, 534, 31, 535, 34, 35, 33, 536, 116, 117, 44, 118, 52, 56, 60, 64, 68, 119, 120, 121, 122, 14, 123, 124, 125, 126, 55, 127, 75, 128, 129, 130, 131, 132, 133, 134, 74, 135, 83, 84, 85, 136, 137, 138, 139, 59, 140, 89, 141, 142, 143, 144, 90, 92, 145, 146, 147, 63, 148, 99, 100, 101, 149, 150, 151, 152, 153, 154, 98, 155, 107, 156, 157, 158, 159, 67, 160, 111, 113, 161, 162, 163, 547, 548, 549, 550, 551, 560, 561, 562, 552, 553, 554, 555, 556, 557, 558, 559, 563, 564, 565, 566, 567, 585, 586, 587, 588, 568, 569, 570, 571, 572, 573, 574, 575, 576, 577, 578, 579, 580, 589, 590, 581, 582, 583, 584] rfl (by decide +kernel)
set_option maxRecDepth 100000 in
theorem gL_refused_X9_undo : GoodIn wsL_refused (wsV RL 193 RX9 yX9_undo wsX9_undo) := goodIn_app (goodIn_of _ (by decide +kernel)) ggL_refused_X9_undo
set_option maxRecDepth 100000 in
theorem ggL_refused_X9_save : GoodIn wsL_refused wsX9_save := goodIn_r _ [540, 541, 20, 248, 22, 23, 14, 24, 542, 40, 41, 42, 43, 44, 45, 46, 47, 48, 49, 50, 51, 52, 53, 54, 55, 56, 57, 58, 59, 60, 61, 62, 63, 64, 65, 66, 67, 68, 69, 70, 71, 72, 73, 74, 75, 76, 77, 78, 79, 80, 81, 38, 82, 83, 84, 85, 86, 87, 88, 89, 90, 91, 92, 93, 94, 95, 96, 97, 98, 99, 100, 101, 102, 103, 104, 105, 106, 107, 108, 109, 110, 111, 112, 113, 114, 115, 116, 117, 118, 119, 120, 121, 122, 123, 124, 125, 126, 127, 128, 129, 130, 131, 132, 133, 134, 135, 136, 137, 138, 139, 140, 141, 142, 143, 144, 145, 146, 147, 148, 149, 150, 151, 152, 153, 154, 155, 156, 157, 158, 159, 160, 161, 162, 163, 547, 548, 549, 550, 551, 552, 553, 554, 555, 556, 557, 558, 559, 563, 564, 565, 566, 567, 568, 569, 570, 571, 572, 573, 574, 575, 576, 577, 578, 579, 580, 581, 582, 583, 584, 585, 586, 587, 588, 589, 590] rfl (by decide +kernel)
set_option maxRecDepth 100000 in
theorem gL_refused_X9_save : GoodIn wsL_refused (wsV RL 157 RX9 yX9_save wsX9_save) := goodIn_app (goodIn_of _ (by decide +kernel)) ggL_refused_X9_save
set_option maxRecDepth 100000 in
theorem ggL_refused_X9_restore : GoodIn wsL_refused wsX9_restore := goodIn_r _ [546, 541, 19, 20, 248, 22, 23, 14, 24, 28, 29, 30, 31, 32, 33, 34, 35, 36, 37, 38, 39, 40, 41, 42, 43, 44, 45, 46, 47, 48, 49, 50, 51, 52, 53, 54, 55, 56, 57, 58, 59, 60, 61, 62, 63, 64, 65, 66, 67, 68, 69, 70, 71, 72, 73, 74, 75, 76, 77, 78, 79, 80, 81, 82, 83, 84, 85, 86, 87, 88, 89, 90, 91, 92, 93, 94, 95, 96, 97, 98, 99, 100, 101, 102, 103, 104, 105, 106, 107, 108, 109, 110, 111, 112, 113, 114, 115, 116, 117, 118, 119, 120, 121, 122, 123, 124, 125, 126, 127, 128, 129, 130, 131, 132, 133, 134, 135, 136, 137, 138, 139, 140, 141, 142, 143, 144, 145, 146, 147, 148, 149, 150, 151, 152, 153, 154, 155, 156, 157, 158, 159, 160, 161, 162, 163, 547, 548, 549, 550, 551, 552, 553, 554, 555, 556, 557, 558, 559, 560, 561, 562, 563, 564, 565, 566, 567, 568, 569, 570, 571, 572, 573, 574, 575, 576, 577, 578, 579, 580, 581, 582, 583, 584, 585, 586, 587, 588, 589, 590] rfl (by decide +kernel)
set_option maxRecDepth 100000 in
theorem gL_refused_X9_restore : GoodIn wsL_refused (wsV RL 163 RX9 yX9_restore wsX9_restore) := goodIn_app (goodIn_of _ (by decide +kernel)) ggL_refused_X9_restore
theorem dL_refused_0 : decode cL_refused 0 = .ok (.iload_n 1, 1) := by decide +kernel
theorem dL_refused_1 : decode cL_refused 1 = .ok (.ifCond .ge 15, 3) := by decide +kernel
theorem dL_refused_4 : decode cL_refused 4 = .ok (.ldc 196, 2) := by decide +kernel
theorem dL_refused_6 : decode cL_refused 6 = .ok (.iload_n 1, 1) := by decide +kernel
theorem dL_refused_7 : decode cL_refused 7 = .ok (.ldc 63, 2) := by decide +kernel
theorem dL_refused_9 : decode cL_refused 9 = .ok (.invokestatic 22, 3) := by decide +kernel
theorem dL_refused_12 : decode cL_refused 12 = .ok (.isub, 1) := by decide +kernel
theorem dL_refused_13 : decode cL_refused 13 = .ok (.goto 10, 3) := by decide +kernel
theorem dL_refused_16 : decode cL_refused 16 = .ok (.iload_n 1, 1) := by decide +kernel
theorem dL_refused_17 : decode cL_refused 17 = .ok (.ldc 63, 2) := by decide +kernel
theorem dL_refused_19 : decode cL_refused 19 = .ok (.irem, 1) := by decide +kernel
theorem dL_refused_20 : decode cL_refused 20 = .ok (.ldc 197, 2) := by decide +kernel
theorem dL_refused_22 : decode cL_refused 22 = .ok (.iadd, 1) := by decide +kernel
theorem dL_refused_23 : decode cL_refused 23 = .ok (.istore_n 2, 1) := by decide +kernel
theorem dL_refused_24 : decode cL_refused 24 = .ok (.aload_n 0, 1) := by decide +kernel
theorem dL_refused_25 : decode cL_refused 25 = .ok (.iload_n 2, 1) := by decide +kernel
theorem dL_refused_26 : decode cL_refused 26 = .ok (.iconst 1, 1) := by decide +kernel
theorem dL_refused_27 : decode cL_refused 27 = .ok (.invokevirtual 26, 3) := by decide +kernel
theorem dL_refused_30 : decode cL_refused 30 = .ok (.bipush (-2), 2) := by decide +kernel
theorem dL_refused_32 : decode cL_refused 32 = .ok (.if_icmp .ne 335, 3) := by decide +kernel
theorem dL_refused_35 : decode cL_refused 35 = .ok (.aload_n 0, 1) := by decide +kernel
theorem dL_refused_36 : decode cL_refused 36 = .ok (.iconst 0, 1) := by decide +kernel
theorem dL_refused_37 : decode cL_refused 37 = .ok (.iload_n 2, 1) := by decide +kernel
theorem dL_refused_38 : decode cL_refused 38 = .ok (.invokevirtual 26, 3) := by decide +kernel
theorem dL_refused_41 : decode cL_refused 41 = .ok (.bipush (-2), 2) := by decide +kernel
theorem dL_refused_43 : decode cL_refused 43 = .ok (.if_icmp .ne 324, 3) := by decide +kernel
theorem dL_refused_46 : decode cL_refused 46 = .ok (.aload_n 0, 1) := by decide +kernel
theorem dL_refused_47 : decode cL_refused 47 = .ok (.bipush 7, 2) := by decide +kernel
theorem dL_refused_49 : decode cL_refused 49 = .ok (.iload_n 2, 1) := by decide +kernel
theorem dL_refused_50 : decode cL_refused 50 = .ok (.invokevirtual 26, 3) := by decide +kernel
theorem dL_refused_53 : decode cL_refused 53 = .ok (.bipush (-2), 2) := by decide +kernel
theorem dL_refused_55 : decode cL_refused 55 = .ok (.if_icmp .ne 312, 3) := by decide +kernel
theorem dL_refused_58 : decode cL_refused 58 = .ok (.aload_n 0, 1) := by decide +kernel
theorem dL_refused_59 : decode cL_refused 59 = .ok (.iload_n 2, 1) := by decide +kernel
theorem dL_refused_60 : decode cL_refused 60 = .ok (.iconst 0, 1) := by decide +kernel
theorem dL_refused_61 : decode cL_refused 61 = .ok (.invokevirtual 34, 3) := by decide +kernel
theorem dL_refused_64 : decode cL_refused 64 = .ok (.ldc 198, 2) := by decide +kernel
theorem dL_refused_66 : decode cL_refused 66 = .ok (.if_icmp .ne 301, 3) := by decide +kernel
theorem dL_refused_69 : decode cL_refused 69 = .ok (.aload_n 0, 1) := by decide +kernel
theorem dL_refused_70 : decode cL_refused 70 = .ok (.iconst 0, 1) := by decide +kernel
theorem dL_refused_71 : decode cL_refused 71 = .ok (.iload_n 2, 1) := by decide +kernel
theorem dL_refused_72 : decode cL_refused 72 = .ok (.invokevirtual 34, 3) := by decide +kernel
theorem dL_refused_75 : decode cL_refused 75 = .ok (.ldc 198, 2) := by decide +kernel
theorem dL_refused_77 : decode cL_refused 77 = .ok (.if_icmp .ne 290, 3) := by decide +kernel
theorem dL_refused_80 : decode cL_refused 80 = .ok (.aload_n 0, 1) := by decide +kernel
theorem dL_refused_81 : decode cL_refused 81 = .ok (.iload_n 2, 1) := by decide +kernel
theorem dL_refused_82 : decode cL_refused 82 = .ok (.invokevirtual 29, 3) := by decide +kernel
theorem dL_refused_85 : decode cL_refused 85 = .ok (.bipush (-2), 2) := by decide +kernel
theorem dL_refused_87 : decode cL_refused 87 = .ok (.if_icmp .ne 280, 3) := by decide +kernel
theorem dL_refused_90 : decode cL_refused 90 = .ok (.aload_n 0, 1) := by decide +kernel
theorem dL_refused_91 : decode cL_refused 91 = .ok (.iload_n 2, 1) := by decide +kernel
theorem dL_refused_92 : decode cL_refused 92 = .ok (.invokevirtual 128, 3) := by decide +kernel
theorem dL_refused_95 : decode cL_refused 95 = .ok (.bipush (-2), 2) := by decide +kernel
theorem dL_refused_97 : decode cL_refused 97 = .ok (.if_icmp .ne 270, 3) := by decide +kernel
theorem dL_refused_100 : decode cL_refused 100 = .ok (.aload_n 0, 1) := by decide +kernel
theorem dL_refused_101 : decode cL_refused 101 = .ok (.iload_n 2, 1) := by decide +kernel
theorem dL_refused_102 : decode cL_refused 102 = .ok (.iconst 0, 1) := by decide +kernel
theorem dL_refused_103 : decode cL_refused 103 = .ok (.invokevirtual 83, 3) := by decide +kernel
theorem dL_refused_106 : decode cL_refused 106 = .ok (.bipush (-2), 2) := by decide +kernel
theorem dL_refused_108 : decode cL_refused 108 = .ok (.if_icmp .ne 259, 3) := by decide +kernel
theorem dL_refused_111 : decode cL_refused 111 = .ok (.aload_n 0, 1) := by decide +kernel
theorem dL_refused_112 : decode cL_refused 112 = .ok (.iconst 0, 1) := by decide +kernel
theorem dL_refused_113 : decode cL_refused 113 = .ok (.iload_n 2, 1) := by decide +kernel
theorem dL_refused_114 : decode cL_refused 114 = .ok (.invokevirtual 83, 3) := by decide +kernel
theorem dL_refused_117 : decode cL_refused 117 = .ok (.bipush (-2), 2) := by decide +kernel
theorem dL_refused_119 : decode cL_refused 119 = .ok (.if_icmp .ne 248, 3) := by decide +kernel
theorem dL_refused_122 : decode cL_refused 122 = .ok (.aload_n 0, 1) := by decide +kernel
theorem dL_refused_123 : decode cL_refused 123 = .ok (.iload_n 2, 1) := by decide +kernel
theorem dL_refused_124 : decode cL_refused 124 = .ok (.iconst 0, 1) := by decide +kernel
theorem dL_refused_125 : decode cL_refused 125 = .ok (.iconst 1, 1) := by decide +kernel
theorem dL_refused_126 : decode cL_refused 126 = .ok (.invokevirtual 80, 3) := by decide +kernel
theorem dL_refused_129 : decode cL_refused 129 = .ok (.bipush (-2), 2) := by decide +kernel
theorem dL_refused_131 : decode cL_refused 131 = .ok (.if_icmp .ne 236, 3) := by decide +kernel
theorem dL_refused_134 : decode cL_refused 134 = .ok (.aload_n 0, 1) := by decide +kernel
theorem dL_refused_135 : decode cL_refused 135 = .ok (.iconst 0, 1) := by decide +kernel
theorem dL_refused_136 : decode cL_refused 136 = .ok (.iload_n 2, 1) := by decide +kernel
theorem dL_refused_137 : decode cL_refused 137 = .ok (.iconst 1, 1) := by decide +kernel
theorem dL_refused_138 : decode cL_refused 138 = .ok (.invokevirtual 80, 3) := by decide +kernel
theorem dL_refused_141 : decode cL_refused 141 = .ok (.bipush (-2), 2) := by decide +kernel
theorem dL_refused_143 : decode cL_refused 143 = .ok (.if_icmp .ne 224, 3) := by decide +kernel
theorem dL_refused_146 : decode cL_refused 146 = .ok (.aload_n 0, 1) := by decide +kernel
theorem dL_refused_147 : decode cL_refused 147 = .ok (.iconst 0, 1) := by decide +kernel
theorem dL_refused_148 : decode cL_refused 148 = .ok (.iconst 0, 1) := by decide +kernel
theorem dL_refused_149 : decode cL_refused 149 = .ok (.iload_n 2, 1) := by decide +kernel
theorem dL_refused_150 : decode cL_refused 150 = .ok (.invokevirtual 80, 3) := by decide +kernel
theorem dL_refused_153 : decode cL_refused 153 = .ok (.bipush (-2), 2) := by decide +kernel
theorem dL_refused_155 : decode cL_refused 155 = .ok (.if_icmp .ne 212, 3) := by decide +kernel
theorem dL_refused_158 : decode cL_refused 158 = .ok (.aload_n 0, 1) := by decide +kernel
theorem dL_refused_159 : decode cL_refused 159 = .ok (.iload_n 2, 1) := by decide +kernel
theorem dL_refused_160 : decode cL_refused 160 = .ok (.invokevirtual 107, 3) := by decide +kernel
theorem dL_refused_163 : decode cL_refused 163 = .ok (.bipush (-2), 2) := by decide +kernel
theorem dL_refused_165 : decode cL_refused 165 = .ok (.if_icmp .ne 202, 3) := by decide +kernel
theorem dL_refused_168 : decode cL_refused 168 = .ok (.aload_n 0, 1) := by decide +kernel
theorem dL_refused_169 : decode cL_refused 169 = .ok (.iload_n 2, 1) := by decide +kernel
theorem dL_refused_170 : decode cL_refused 170 = .ok (.invokevirtual 86, 3) := by decide +kernel
theorem dL_refused_173 : decode cL_refused 173 = .ok (.bipush (-2), 2) := by decide +kernel
theorem dL_refused_175 : decode cL_refused 175 = .ok (.if_icmp .ne 192, 3) := by decide +kernel
theorem dL_refused_178 : decode cL_refused 178 = .ok (.aload_n 0, 1) := by decide +kernel
theorem dL_refused_179 : decode cL_refused 179 = .ok (.iload_n 2, 1) := by decide +kernel
theorem dL_refused_180 : decode cL_refused 180 = .ok (.iconst 0, 1) := by decide +kernel
theorem dL_refused_181 : decode cL_refused 181 = .ok (.invokevirtual 89, 3) := by decide +kernel
theorem dL_refused_184 : decode cL_refused 184 = .ok (.bipush (-2), 2) := by decide +kernel
theorem dL_refused_186 : decode cL_refused 186 = .ok (.if_icmp .ne 181, 3) := by decide +kernel
theorem dL_refused_189 : decode cL_refused 189 = .ok (.aload_n 0, 1) := by decide +kernel
theorem dL_refused_190 : decode cL_refused 190 = .ok (.iconst 0, 1) := by decide +kernel
theorem dL_refused_191 : decode cL_refused 191 = .ok (.iload_n 2, 1) := by decide +kernel
theorem dL_refused_192 : decode cL_refused 192 = .ok (.invokevirtual 89, 3) := by decide +kernel
theorem dL_refused_195 : decode cL_refused 195 = .ok (.bipush (-2), 2) := by decide +kernel
theorem dL_refused_197 : decode cL_refused 197 = .ok (.if_icmp .ne 170, 3) := by decide +kernel
theorem dL_refused_200 : decode cL_refused 200 = .ok (.aload_n 0, 1) := by decide +kernel
theorem dL_refused_201 : decode cL_refused 201 = .ok (.iload_n 2, 1) := by decide +kernel
theorem dL_refused_202 : decode cL_refused 202 = .ok (.invokevirtual 131, 3) := by decide +kernel
theorem dL_refused_205 : decode cL_refused 205 = .ok (.iconst (-1), 1) := by decide +kernel
theorem dL_refused_206 : decode cL_refused 206 = .ok (.if_icmp .ne 161, 3) := by decide +kernel
theorem dL_refused_209 : decode cL_refused 209 = .ok (.aload_n 0, 1) := by decide +kernel
theorem dL_refused_210 : decode cL_refused 210 = .ok (.iload_n 2, 1) := by decide +kernel
theorem dL_refused_211 : decode cL_refused 211 = .ok (.invokevirtual 95, 3) := by decide +kernel
theorem dL_refused_214 : decode cL_refused 214 = .ok (.bipush (-2), 2) := by decide +kernel
theorem dL_refused_216 : decode cL_refused 216 = .ok (.if_icmp .ne 151, 3) := by decide +kernel
theorem dL_refused_219 : decode cL_refused 219 = .ok (.aload_n 0, 1) := by decide +kernel
theorem dL_refused_220 : decode cL_refused 220 = .ok (.iload_n 2, 1) := by decide +kernel
theorem dL_refused_221 : decode cL_refused 221 = .ok (.invokevirtual 76, 3) := by decide +kernel
theorem dL_refused_224 : decode cL_refused 224 = .ok (.ldc 198, 2) := by decide +kernel
theorem dL_refused_226 : decode cL_refused 226 = .ok (.if_icmp .ne 141, 3) := by decide +kernel
theorem dL_refused_229 : decode cL_refused 229 = .ok (.aload_n 0, 1) := by decide +kernel
theorem dL_refused_230 : decode cL_refused 230 = .ok (.iload_n 2, 1) := by decide +kernel
theorem dL_refused_231 : decode cL_refused 231 = .ok (.iconst 0, 1) := by decide +kernel
theorem dL_refused_232 : decode cL_refused 232 = .ok (.invokevirtual 104, 3) := by decide +kernel
theorem dL_refused_235 : decode cL_refused 235 = .ok (.ldc 144, 2) := by decide +kernel
theorem dL_refused_237 : decode cL_refused 237 = .ok (.if_icmp .ne 130, 3) := by decide +kernel
theorem dL_refused_240 : decode cL_refused 240 = .ok (.aload_n 0, 1) := by decide +kernel
theorem dL_refused_241 : decode cL_refused 241 = .ok (.iload_n 2, 1) := by decide +kernel
theorem dL_refused_242 : decode cL_refused 242 = .ok (.invokevirtual 134, 3) := by decide +kernel
theorem dL_refused_245 : decode cL_refused 245 = .ok (.ldc 144, 2) := by decide +kernel
theorem dL_refused_247 : decode cL_refused 247 = .ok (.if_icmp .ne 120, 3) := by decide +kernel
theorem dL_refused_250 : decode cL_refused 250 = .ok (.aload_n 0, 1) := by decide +kernel
theorem dL_refused_251 : decode cL_refused 251 = .ok (.iload_n 2, 1) := by decide +kernel
theorem dL_refused_252 : decode cL_refused 252 = .ok (.invokevirtual 73, 3) := by decide +kernel
theorem dL_refused_255 : decode cL_refused 255 = .ok (.bipush (-2), 2) := by decide +kernel
theorem dL_refused_257 : decode cL_refused 257 = .ok (.if_icmp .ne 110, 3) := by decide +kernel
theorem dL_refused_260 : decode cL_refused 260 = .ok (.aload_n 0, 1) := by decide +kernel
theorem dL_refused_261 : decode cL_refused 261 = .ok (.iload_n 2, 1) := by decide +kernel
theorem dL_refused_262 : decode cL_refused 262 = .ok (.iconst 0, 1) := by decide +kernel
theorem dL_refused_263 : decode cL_refused 263 = .ok (.invokevirtual 60, 3) := by decide +kernel
theorem dL_refused_266 : decode cL_refused 266 = .ok (.ldc 198, 2) := by decide +kernel
theorem dL_refused_268 : decode cL_refused 268 = .ok (.if_icmp .ne 99, 3) := by decide +kernel
theorem dL_refused_271 : decode cL_refused 271 = .ok (.aload_n 0, 1) := by decide +kernel
theorem dL_refused_272 : decode cL_refused 272 = .ok (.iload_n 2, 1) := by decide +kernel
theorem dL_refused_273 : decode cL_refused 273 = .ok (.iconst 0, 1) := by decide +kernel
theorem dL_refused_274 : decode cL_refused 274 = .ok (.iconst 0, 1) := by decide +kernel
theorem dL_refused_275 : decode cL_refused 275 = .ok (.invokevirtual 69, 3) := by decide +kernel
theorem dL_refused_278 : decode cL_refused 278 = .ok (.ldc 198, 2) := by decide +kernel
theorem dL_refused_280 : decode cL_refused 280 = .ok (.if_icmp .ne 87, 3) := by decide +kernel
theorem dL_refused_283 : decode cL_refused 283 = .ok (.aload_n 0, 1) := by decide +kernel
theorem dL_refused_284 : decode cL_refused 284 = .ok (.iload_n 2, 1) := by decide +kernel
theorem dL_refused_285 : decode cL_refused 285 = .ok (.iconst 1, 1) := by decide +kernel
theorem dL_refused_286 : decode cL_refused 286 = .ok (.invokevirtual 151, 3) := by decide +kernel
theorem dL_refused_289 : decode cL_refused 289 = .ok (.bipush (-2), 2) := by decide +kernel
theorem dL_refused_291 : decode cL_refused 291 = .ok (.if_icmp .ne 76, 3) := by decide +kernel
theorem dL_refused_294 : decode cL_refused 294 = .ok (.aload_n 0, 1) := by decide +kernel
theorem dL_refused_295 : decode cL_refused 295 = .ok (.iconst 0, 1) := by decide +kernel
theorem dL_refused_296 : decode cL_refused 296 = .ok (.iload_n 2, 1) := by decide +kernel
theorem dL_refused_297 : decode cL_refused 297 = .ok (.invokevirtual 151, 3) := by decide +kernel
theorem dL_refused_300 : decode cL_refused 300 = .ok (.bipush (-2), 2) := by decide +kernel
theorem dL_refused_302 : decode cL_refused 302 = .ok (.if_icmp .ne 65, 3) := by decide +kernel
theorem dL_refused_305 : decode cL_refused 305 = .ok (.aload_n 0, 1) := by decide +kernel
theorem dL_refused_306 : decode cL_refused 306 = .ok (.iload_n 2, 1) := by decide +kernel
theorem dL_refused_307 : decode cL_refused 307 = .ok (.iconst 1, 1) := by decide +kernel
theorem dL_refused_308 : decode cL_refused 308 = .ok (.invokevirtual 154, 3) := by decide +kernel
theorem dL_refused_311 : decode cL_refused 311 = .ok (.bipush (-2), 2) := by decide +kernel
theorem dL_refused_313 : decode cL_refused 313 = .ok (.if_icmp .ne 54, 3) := by decide +kernel
theorem dL_refused_316 : decode cL_refused 316 = .ok (.aload_n 0, 1) := by decide +kernel
theorem dL_refused_317 : decode cL_refused 317 = .ok (.invokevirtual 182, 3) := by decide +kernel
theorem dL_refused_320 : decode cL_refused 320 = .ok (.bipush (-3), 2) := by decide +kernel
theorem dL_refused_322 : decode cL_refused 322 = .ok (.if_icmp .ne 45, 3) := by decide +kernel
theorem dL_refused_325 : decode cL_refused 325 = .ok (.aload_n 0, 1) := by decide +kernel
theorem dL_refused_326 : decode cL_refused 326 = .ok (.invokevirtual 193, 3) := by decide +kernel
theorem dL_refused_329 : decode cL_refused 329 = .ok (.bipush (-5), 2) := by decide +kernel
theorem dL_refused_331 : decode cL_refused 331 = .ok (.if_icmp .ne 36, 3) := by decide +kernel
theorem dL_refused_334 : decode cL_refused 334 = .ok (.aload_n 0, 1) := by decide +kernel
theorem dL_refused_335 : decode cL_refused 335 = .ok (.iload_n 2, 1) := by decide +kernel
theorem dL_refused_336 : decode cL_refused 336 = .ok (.invokevirtual 157, 3) := by decide +kernel
theorem dL_refused_339 : decode cL_refused 339 = .ok (.bipush (-2), 2) := by decide +kernel
theorem dL_refused_341 : decode cL_refused 341 = .ok (.if_icmp .ne 26, 3) := by decide +kernel
theorem dL_refused_344 : decode cL_refused 344 = .ok (.aload_n 0, 1) := by decide +kernel
theorem dL_refused_345 : decode cL_refused 345 = .ok (.iload_n 2, 1) := by decide +kernel
theorem dL_refused_346 : decode cL_refused 346 = .ok (.invokevirtual 163, 3) := by decide +kernel
theorem dL_refused_349 : decode cL_refused 349 = .ok (.bipush (-2), 2) := by decide +kernel
theorem dL_refused_351 : decode cL_refused 351 = .ok (.if_icmp .ne 16, 3) := by decide +kernel
theorem dL_refused_354 : decode cL_refused 354 = .ok (.aload_n 0, 1) := by decide +kernel
theorem dL_refused_355 : decode cL_refused 355 = .ok (.bipush 21, 2) := by decide +kernel
theorem dL_refused_357 : decode cL_refused 357 = .ok (.invokevirtual 73, 3) := by decide +kernel
theorem dL_refused_360 : decode cL_refused 360 = .ok (.ifCond .ne 7, 3) := by decide +kernel
theorem dL_refused_363 : decode cL_refused 363 = .ok (.iconst 1, 1) := by decide +kernel
theorem dL_refused_364 : decode cL_refused 364 = .ok (.goto 4, 3) := by decide +kernel
theorem dL_refused_367 : decode cL_refused 367 = .ok (.iconst 0, 1) := by decide +kernel
theorem dL_refused_368 : decode cL_refused 368 = .ok (.ireturn, 1) := by decide +kernel
