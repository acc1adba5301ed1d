set_option maxRecDepth 100000 in
theorem ggL_law_X9_init : GoodIn wsL_law wsX9_init := goodIn_r _ [6, 7, 8, 9, 10, 11, 12, 13, 14, 15, 16, 17, 18, 19, 20, 21, 22, 23, 24, 25, 26, 27, 28, 29, 30, 31, 32, 33, 34, 35, 36, 37, 38, 39, 40, 41, 42, 43, 44, 45, 46, 47, 48, 49, 50, 51, 52, 53, 54, 55, 56, 57, 58, 59, 60, 61, 62, 63, 64, 65, 66, 67, 68, 69, 70, 71, 72, 73, 74, 75, 76, 77, 78, 79, 80, 81, 82, 83, 84, 85, 86, 87, 88, 89, 90, 91, 92, 93, 94, 95, 96, 97, 98, 99, 100, 101, 102, 103, 104, 105, 686, 687, 688, 689, 690, 691, 692, 693, 681, 682, 683, 684, 685, 694, 695, 696, 697, 698, 699, 700, 701, 702, 703, 704, 705, 706, 707, 708, 709, 710, 711, 712, 713, 714, 715, 716, 717, 718, 719, 720, 721, 722, 723, 724, 725, 726, 727, 728, 729] rfl (by decide +kernel)
set_option maxRecDepth 100000 in
theorem gL_law_X9_init : GoodIn wsL_law (wsX9_init) := ggL_law_X9_init
set_option maxRecDepth 100000 in
theorem ggL_law_L_cell : GoodIn wsL_law wsL_cell := goodIn_r _ [109, 110] rfl (by decide +kernel)
set_option maxRecDepth 100000 in
theorem gL_law_L_cell : GoodIn wsL_law (va_wsS RL 12 yL_cell wsL_cell) := goodIn_app (goodIn_of _ (by decide +kernel)) ggL_law_L_cell
set_option maxRecDepth 100000 in
theorem ggL_law_L_refused : GoodIn wsL_law wsL_refused := goodIn_r _ [113, 114, 115, 116, 117, 118, 119, 120, 108, 121, 122, 123, 124, 125, 2, 126, 127, 128, 129, 18, 13, 130, 131, 132, 133, 134, 135, 136, 137, 138, 139, 17, 140, 97, 141, 142, 143, 144, 59, 145, 146, 147, 10, 11, 12, 24, 25, 26, 27, 8, 9, 28, 29, 30, 31, 32, 33, 34, 35, 36, 37, 38, 39, 40, 41, 42, 43, 44, 45, 46, 47, 48, 49, 50, 51, 52, 53, 54, 55, 56, 57, 58, 60, 61, 62, 63, 64, 65, 66, 67, 68, 69, 70, 71, 72, 73, 74, 75, 76, 77, 78, 79, 80, 81, 82, 83, 84, 85, 86, 87, 88, 89, 90, 91, 92, 148, 149, 150, 151, 152, 153, 154, 155, 156, 157, 158, 159, 160, 161, 162, 163, 164, 165, 166, 167, 168, 169, 170, 171, 172, 173, 174, 175, 176, 177, 178, 179, 180, 181, 182, 183, 184, 185, 186, 187, 188, 189, 190, 191, 192, 193, 194, 195, 196, 197, 198, 199, 200, 201, 202, 203, 204, 205, 206, 207, 208, 209, 210, 211, 212, 213, 214, 215, 216, 217, 218, 219, 220, 221, 222, 223, 224, 225, 226, 227, 228, 229, 230, 231, 232, 233, 234, 235, 236, 237, 238, 239, 240, 241, 242, 243, 244, 245, 246, 247, 248, 249, 250, 251, 252, 253, 254, 255, 256, 257, 258, 259, 260, 261, 262, 263, 264, 265, 266, 267, 268, 269, 270, 271, 272, 273, 274, 275, 276, 277, 278, 279, 280, 281, 282, 283, 284, 285, 286, 287, 288, 289, 290, 291, 292, 293, 294, 295, 296, 297, 298, 299, 300, 301, 302, 303, 304, 305, 306, 307, 308, 309, 310, 311, 312, 313, 314, 315, 316, 317, 318, 319, 320, 321, 322, 323, 324, 325, 326, 327, 328, 329, 330, 331, 332, 333, 334, 335, 336, 337, 338, 339, 340, 341, 342, 343, 344, 345, 346, 347, 348, 349, 350, 351, 352, 353, 354, 355, 356, 357, 358, 359, 360, 361, 362, 363, 364, 365, 366, 367, 368, 369, 370, 371, 372, 373, 374, 375, 376, 377, 378, 379, 380, 381, 382, 383, 384, 385, 386, 387, 388, 389, 390, 391, 392, 393, 394, 395, 396, 397, 398, 399, 400, 401, 402, 403, 404, 405, 406, 407, 408, 409, 410, 411, 412, 413, 414, 415, 416, 417, 418, 419, 420, 421, 422, 423, 424, 425, 426, 427, 428, 429, 430, 431, 432, 433, 434, 435, 436, 437, 438, 439, 440, 441, 442, 443, 444, 445, 446, 447, 448, 449, 450, 451, 452, 453, 454, 455, 456, 457, 458, 459, 460, 461, 462, 463, 464, 465, 466, 467, 468, 469, 470, 471, 472, 473, 474, 475, 476, 477, 478, 479, 480, 481, 482, 483, 484, 485, 23, 486, 487, 488, 489, 490, 491, 492, 493, 494, 495, 496, 497, 498, 499, 500, 501, 502, 503, 504, 505, 14, 506, 507, 508, 509, 510, 511, 512, 513, 514, 515, 516, 517, 518, 519, 520, 521, 522, 523, 524, 525, 526, 527, 22, 528, 529, 104, 530, 531, 532, 533, 534, 535, 536, 537, 538, 539, 540, 541, 542, 543, 544, 545, 102, 546, 547, 548, 549, 550, 551, 552, 553, 554, 555, 556, 557, 558, 559, 560, 561, 562, 563, 564, 565, 566, 567, 568, 19, 569, 570, 571, 572, 573, 681, 682, 683, 684, 685, 686, 687, 688, 689, 690, 691, 692, 693, 694, 695, 696, 702, 703, 704, 705, 706, 707, 708, 709, 710, 711, 712, 713, 714, 715, 716, 717, 718, 719, 720, 721, 722, 723, 724, 725, 726, 727, 728, 729, 697, 698, 699, 700, 701] rfl (by decide +kernel)
set_option maxRecDepth 100000 in
theorem gL_law_L_refused : GoodIn wsL_law (va_wsS RL 18 yL_refused wsL_refused) := goodIn_app (goodIn_of _ (by decide +kernel)) ggL_law_L_refused
set_option maxRecDepth 100000 in
theorem ggL_law_L_up : GoodIn wsL_law wsL_up := goodIn_r _ [121, 122] rfl (by decide +kernel)
set_option maxRecDepth 100000 in
theorem gL_law_L_up : GoodIn wsL_law (va_wsS RL 22 yL_up wsL_up) := goodIn_app (goodIn_of _ (by decide +kernel)) ggL_law_L_up
set_option maxRecDepth 100000 in
theorem ggL_law_X9_set : GoodIn wsL_law wsX9_set := goodIn_r _ [126, 127, 128, 129, 18, 13, 130, 131, 132, 2, 133, 134, 135, 136, 137, 138, 139, 17, 140, 97, 141, 142, 143, 144, 59, 145, 146, 147, 10, 11, 12, 24, 25, 26, 27, 8, 9, 28, 29, 30, 31, 32, 33, 34, 35, 36, 37, 38, 39, 40, 41, 42, 43, 44, 45, 46, 47, 48, 49, 50, 51, 52, 53, 54, 55, 56, 57, 58, 60, 61, 62, 63, 64, 65, 66, 67, 68, 69, 70, 71, 72, 73, 74, 75, 76, 77, 78, 79, 80, 81, 82, 83, 84, 85, 86, 87, 88, 89, 90, 91, 92, 148, 149, 150, 151, 152, 153, 154, 155, 156, 157, 158, 159, 160, 161, 162, 163, 164, 165, 166, 167, 168, 169, 170, 171, 172, 173, 174, 175, 176, 177, 178, 179, 180, 181, 182, 183, 184, 185, 186, 187, 188, 189, 190, 191, 192, 193, 194, 195, 196, 197, 198, 199, 681, 682, 683, 684, 685, 686, 687, 688, 689, 690, 691, 692, 693, 694, 695, 696, 702, 703, 704, 705, 706, 707, 708, 709, 710, 711, 712, 713, 714, 715, 716, 717, 718, 719, 720, 721, 722, 723, 724, 725, 726, 727, 728, 729] rfl (by decide +kernel)
set_option maxRecDepth 100000 in
theorem gL_law_X9_set : GoodIn wsL_law (wsV RL 26 RX9 yX9_set wsX9_set) := goodIn_app (goodIn_of _ (by decide +kernel)) ggL_law_X9_set
set_option maxRecDepth 100000 in
theorem ggL_law_X9_place : GoodIn wsL_law wsX9_place := goodIn_r _ [215, 13, 216, 217, 218, 18, 219, 220, 221, 222, 2, 223, 224, 225, 131, 132, 133, 137, 138, 139, 17, 140, 97, 141, 142, 143, 144, 59, 145, 146, 147, 10, 11, 12, 24, 25, 26, 27, 8, 9, 28, 29, 30, 31, 32, 33, 34, 35, 36, 37, 38, 39, 40, 41, 42, 43, 44, 45, 46, 47, 48, 49, 50, 51, 52, 53, 54, 55, 56, 57, 58, 60, 61, 62, 63, 64, 65, 66, 67, 68, 69, 70, 71, 72, 73, 74, 75, 76, 77, 78, 79, 80, 81, 82, 83, 84, 85, 86, 87, 88, 89, 90, 91, 92, 148, 149, 150, 151, 152, 153, 154, 155, 156, 157, 158, 159, 160, 161, 162, 163, 164, 165, 166, 167, 168, 169, 170, 171, 172, 173, 174, 175, 176, 177, 178, 179, 180, 181, 182, 183, 184, 185, 186, 187, 188, 189, 190, 191, 192, 193, 194, 195, 196, 681, 682, 683, 684, 685, 686, 687, 688, 689, 690, 691, 692, 693, 702, 703, 704, 705, 706, 724, 725, 726, 727, 694, 695, 696, 707, 708, 709, 710, 711, 712, 713, 714, 715, 716, 717, 718, 719, 720, 721, 722, 723, 728, 729] rfl (by decide +kernel)
set_option maxRecDepth 100000 in
theorem gL_law_X9_place : GoodIn wsL_law (wsV RL 29 RX9 yX9_place wsX9_place) := goodIn_app (goodIn_of _ (by decide +kernel)) ggL_law_X9_place
set_option maxRecDepth 100000 in
theorem ggL_law_X9_start : GoodIn wsL_law wsX9_start := goodIn_r _ [203, 204, 205, 206, 207, 208, 18, 13, 209, 210, 211, 131, 132, 2, 133, 137, 138, 139, 17, 140, 97, 141, 142, 143, 144, 59, 145, 146, 147, 10, 11, 12, 24, 25, 26, 27, 8, 9, 28, 29, 30, 31, 32, 33, 34, 35, 36, 37, 38, 39, 40, 41, 42, 43, 44, 45, 46, 47, 48, 49, 50, 51, 52, 53, 54, 55, 56, 57, 58, 60, 61, 62, 63, 64, 65, 66, 67, 68, 69, 70, 71, 72, 73, 74, 75, 76, 77, 78, 79, 80, 81, 82, 83, 84, 85, 86, 87, 88, 89, 90, 91, 92, 148, 149, 150, 151, 152, 153, 154, 155, 156, 157, 158, 159, 160, 161, 162, 163, 164, 165, 166, 167, 168, 169, 170, 171, 172, 173, 174, 175, 176, 177, 178, 179, 180, 181, 182, 183, 184, 185, 186, 187, 188, 189, 190, 191, 192, 193, 194, 195, 196, 681, 682, 683, 684, 685, 686, 687, 688, 689, 690, 691, 692, 693, 707, 708, 709, 710, 711, 712, 713, 694, 695, 696, 702, 703, 704, 705, 706, 714, 715, 716, 717, 718, 719, 720, 721, 722, 723, 724, 725, 726, 727, 728, 729] rfl (by decide +kernel)
set_option maxRecDepth 100000 in
theorem gL_law_X9_start : GoodIn wsL_law (wsV RL 34 RX9 yX9_start wsX9_start) := goodIn_app (goodIn_of _ (by decide +kernel)) ggL_law_X9_start
set_option maxRecDepth 100000 in
theorem ggL_law_L_waves : GoodIn wsL_law wsL_waves := goodIn_r _ [576, 115, 577, 578, 579, 119, 120, 108, 121, 122, 488, 489, 490, 2, 491, 208, 232, 233, 234, 235, 131, 132, 133, 302, 303, 304, 305, 306, 307, 321, 298, 299, 300, 301, 492, 493, 494, 495, 13, 130, 219, 221, 222, 223, 224, 225, 246, 247, 248, 249, 134, 135, 136, 496, 317, 318, 319, 320, 292, 293, 294, 295, 59, 296, 297, 322, 323, 324, 464, 465, 466, 467, 127, 468, 209, 469, 470, 471, 472, 473, 474, 475, 281, 216, 244, 245, 217, 218, 476, 372, 477, 478, 479, 32, 480, 52, 274, 361, 374, 375, 376, 12, 377, 37, 378, 379, 380, 152, 481, 482, 483, 484, 282, 426, 427, 283, 230, 428, 485, 418, 386, 231, 23, 486, 18, 487, 681, 682, 683, 684, 685, 686, 687, 688, 689, 690, 691, 692, 693, 707, 708, 709, 710, 711, 712, 713, 702, 703, 704, 705, 706, 724, 725, 726, 727, 714, 715, 716, 717, 718, 719, 728, 729, 720, 721, 722, 723, 697, 698, 699, 700, 701, 694, 695, 696] rfl (by decide +kernel)
set_option maxRecDepth 100000 in
theorem gL_law_L_waves : GoodIn wsL_law (va_wsS RL 37 yL_waves wsL_waves) := goodIn_app (goodIn_of _ (by decide +kernel)) ggL_law_L_waves
set_option maxRecDepth 100000 in
theorem ggL_law_L_act : GoodIn wsL_law wsL_act := goodIn_r _ [582, 583, 577, 3, 119, 120, 108, 121, 122, 420, 421, 422, 2, 423, 13, 209, 210, 211, 282, 424, 425, 426, 427, 230, 428, 216, 220, 385, 419, 208, 387, 309, 310, 12, 311, 29, 33, 289, 312, 313, 37, 314, 315, 316, 135, 136, 317, 318, 319, 320, 292, 293, 294, 295, 59, 296, 297, 302, 303, 304, 305, 306, 307, 321, 298, 299, 300, 301, 322, 323, 324, 429, 430, 431, 40, 432, 77, 433, 434, 435, 436, 437, 438, 439, 440, 441, 442, 443, 444, 79, 78, 445, 446, 447, 448, 449, 450, 451, 76, 452, 189, 85, 464, 465, 466, 467, 127, 468, 469, 470, 471, 130, 131, 132, 133, 134, 472, 473, 474, 475, 281, 244, 245, 217, 218, 476, 372, 477, 478, 479, 32, 480, 52, 274, 361, 374, 375, 376, 377, 378, 379, 380, 152, 481, 482, 483, 484, 283, 485, 418, 386, 231, 23, 486, 18, 487, 200, 201, 202, 203, 204, 205, 206, 207, 137, 138, 139, 17, 140, 97, 141, 142, 143, 144, 145, 146, 147, 10, 11, 24, 25, 26, 27, 8, 9, 28, 30, 31, 34, 35, 36, 38, 39, 41, 42, 43, 44, 45, 46, 47, 48, 49, 50, 51, 53, 54, 55, 56, 57, 58, 60, 61, 62, 63, 64, 65, 66, 67, 68, 69, 70, 71, 72, 73, 74, 75, 80, 81, 82, 83, 84, 86, 87, 88, 89, 90, 91, 92, 148, 149, 150, 151, 153, 154, 155, 156, 157, 158, 159, 160, 161, 162, 163, 164, 165, 166, 167, 168, 169, 170, 171, 172, 173, 174, 175, 176, 177, 178, 179, 180, 181, 182, 183, 184, 185, 186, 187, 188, 190, 191, 192, 193, 194, 195, 196, 254, 255, 256, 257, 232, 233, 234, 235, 246, 247, 248, 249, 258, 259, 260, 261, 262, 263, 264, 265, 266, 267, 268, 269, 198, 199, 270, 271, 272, 273, 275, 276, 240, 241, 242, 243, 250, 251, 252, 253, 366, 367, 368, 369, 370, 371, 373, 381, 382, 383, 384, 221, 222, 223, 224, 225, 584, 585, 586, 587, 588, 589, 590, 226, 227, 228, 229, 236, 237, 238, 239, 388, 389, 390, 391, 392, 393, 394, 395, 396, 397, 398, 399, 400, 401, 402, 403, 404, 405, 406, 407, 346, 347, 348, 349, 408, 409, 410, 411, 460, 461, 462, 463, 457, 458, 591, 592, 593, 412, 413, 414, 415, 416, 417, 594, 595, 596, 597, 598, 599, 600, 601, 602, 603, 604, 605, 453, 454, 455, 456, 459, 277, 278, 279, 280, 284, 285, 286, 287, 288, 290, 291, 308, 325, 326, 327, 328, 329, 330, 331, 332, 333, 334, 335, 336, 337, 338, 339, 340, 341, 342, 343, 344, 345, 350, 351, 352, 353, 354, 355, 356, 357, 358, 359, 360, 362, 363, 364, 365, 488, 489, 490, 491, 681, 682, 683, 684, 685, 686, 687, 688, 689, 690, 691, 692, 693, 707, 708, 709, 710, 711, 712, 713, 714, 715, 716, 717, 718, 719, 728, 729, 720, 721, 722, 723, 702, 703, 704, 705, 706, 724, 725, 726, 727, 697, 698, 699, 700, 701, 694, 695, 696] rfl (by decide +kernel)
set_option maxRecDepth 100000 in
theorem gL_law_L_act : GoodIn wsL_law (va_wsS RL 40 yL_act wsL_act) := goodIn_app (goodIn_of _ (by decide +kernel)) ggL_law_L_act
set_option maxRecDepth 100000 in
theorem ggL_law_L_trust : GoodIn wsL_law wsL_trust := goodIn_r _ [608, 118, 609, 464, 465, 466, 2, 467, 127, 468, 13, 209, 469, 470, 471, 130, 131, 132, 133, 134, 135, 136, 472, 473, 474, 475, 281, 216, 244, 245, 217, 218, 476, 372, 477, 478, 479, 32, 480, 52, 274, 361, 374, 375, 376, 12, 377, 37, 378, 379, 380, 152, 481, 482, 483, 484, 282, 426, 427, 283, 230, 428, 485, 418, 386, 231, 23, 486, 18, 487, 453, 454, 455, 456, 457, 458, 459, 208, 460, 461, 462, 463, 420, 421, 422, 423, 210, 211, 424, 425, 220, 385, 419, 387, 309, 310, 311, 29, 33, 289, 312, 313, 314, 315, 316, 317, 318, 319, 320, 292, 293, 294, 295, 59, 296, 297, 302, 303, 304, 305, 306, 307, 321, 298, 299, 300, 301, 322, 323, 324, 429, 430, 431, 40, 432, 77, 433, 434, 435, 436, 437, 438, 439, 440, 441, 442, 443, 444, 79, 78, 445, 446, 447, 448, 449, 450, 451, 76, 452, 189, 85, 610, 611, 612, 613, 614, 615, 616, 617, 41, 510, 45, 618, 619, 620, 621, 291, 622, 623, 624, 625, 626, 591, 592, 108, 593, 681, 682, 683, 684, 685, 686, 687, 688, 689, 690, 691, 692, 693, 707, 708, 709, 710, 711, 712, 713, 702, 703, 704, 705, 706, 724, 725, 726, 727, 714, 715, 716, 717, 718, 719, 728, 729, 720, 721, 722, 723, 697, 698, 699, 700, 701, 694, 695, 696] rfl (by decide +kernel)
set_option maxRecDepth 100000 in
theorem gL_law_L_trust : GoodIn wsL_law (va_wsS RL 44 yL_trust wsL_trust) := goodIn_app (goodIn_of _ (by decide +kernel)) ggL_law_L_trust
set_option maxRecDepth 100000 in
theorem ggL_law_L_sums : GoodIn wsL_law wsL_sums := goodIn_r _ [629, 630, 464, 465, 466, 2, 467, 127, 468, 13, 209, 469, 470, 471, 130, 131, 132, 133, 134, 135, 136, 472, 473, 474, 475, 281, 216, 244, 245, 217, 218, 476, 372, 477, 478, 479, 32, 480, 52, 274, 361, 374, 375, 376, 12, 377, 37, 378, 379, 380, 152, 481, 482, 483, 484, 282, 426, 427, 283, 230, 428, 485, 418, 386, 231, 23, 486, 18, 487, 460, 461, 462, 463, 457, 458, 420, 421, 422, 423, 210, 211, 424, 425, 220, 385, 419, 208, 387, 309, 310, 311, 29, 33, 289, 312, 313, 314, 315, 316, 317, 318, 319, 320, 292, 293, 294, 295, 59, 296, 297, 302, 303, 304, 305, 306, 307, 321, 298, 299, 300, 301, 322, 323, 324, 429, 430, 431, 40, 432, 77, 433, 434, 435, 436, 437, 438, 439, 440, 441, 442, 443, 444, 79, 78, 445, 446, 447, 448, 449, 450, 451, 76, 452, 189, 85, 591, 592, 108, 593, 681, 682, 683, 684, 685, 686, 687, 688, 689, 690, 691, 692, 693, 707, 708, 709, 710, 711, 712, 713, 702, 703, 704, 705, 706, 724, 725, 726, 727, 714, 715, 716, 717, 718, 719, 728, 729, 720, 721, 722, 723, 697, 698, 699, 700, 701, 694, 695, 696] rfl (by decide +kernel)
set_option maxRecDepth 100000 in
theorem gL_law_L_sums : GoodIn wsL_law (va_wsS RL 48 yL_sums wsL_sums) := goodIn_app (goodIn_of _ (by decide +kernel)) ggL_law_L_sums
set_option maxRecDepth 100000 in
theorem ggL_law_L_comes : GoodIn wsL_law wsL_comes := goodIn_r _ [633, 28, 119, 120, 108, 121, 122, 497, 498, 499, 2, 500, 207, 501, 13, 209, 372, 131, 132, 133, 502, 503, 504, 505, 14, 148, 149, 150, 12, 151, 29, 33, 37, 41, 45, 152, 153, 154, 155, 156, 157, 158, 159, 32, 160, 52, 161, 162, 163, 164, 165, 166, 167, 51, 168, 61, 62, 63, 169, 170, 171, 172, 36, 173, 67, 174, 175, 176, 177, 68, 70, 178, 179, 180, 40, 181, 77, 78, 79, 182, 183, 184, 185, 186, 187, 76, 188, 85, 189, 190, 191, 192, 44, 193, 89, 91, 194, 195, 196, 506, 507, 508, 509, 288, 510, 295, 59, 296, 511, 308, 309, 310, 311, 289, 312, 313, 314, 315, 316, 135, 136, 317, 318, 319, 320, 292, 293, 294, 297, 302, 303, 304, 305, 306, 307, 321, 298, 299, 300, 301, 322, 323, 324, 284, 285, 286, 287, 290, 291, 325, 326, 327, 328, 329, 330, 331, 332, 333, 334, 335, 336, 337, 338, 339, 340, 341, 342, 343, 344, 345, 346, 347, 348, 349, 144, 145, 198, 199, 350, 351, 352, 353, 354, 355, 356, 274, 357, 358, 359, 360, 361, 362, 363, 364, 365, 57, 58, 60, 270, 271, 272, 273, 275, 276, 512, 513, 514, 515, 516, 565, 566, 567, 568, 19, 281, 569, 146, 147, 10, 11, 24, 25, 26, 27, 8, 9, 30, 31, 34, 35, 38, 39, 42, 43, 46, 47, 48, 49, 50, 53, 54, 55, 56, 64, 65, 66, 69, 71, 72, 73, 74, 75, 80, 81, 82, 83, 84, 86, 87, 88, 90, 92, 634, 635, 636, 637, 18, 282, 426, 427, 137, 138, 139, 17, 140, 97, 141, 142, 143, 638, 639, 640, 641, 642, 643, 644, 645, 420, 421, 422, 423, 210, 211, 424, 425, 230, 428, 216, 220, 385, 419, 208, 387, 429, 430, 431, 432, 433, 434, 435, 436, 437, 438, 439, 440, 441, 442, 443, 444, 445, 446, 447, 448, 449, 450, 451, 452, 591, 592, 593, 277, 278, 279, 280, 283, 258, 259, 260, 261, 464, 465, 466, 467, 127, 468, 469, 470, 471, 130, 134, 472, 473, 474, 475, 244, 245, 217, 218, 476, 477, 478, 479, 480, 374, 375, 376, 377, 378, 379, 380, 481, 482, 483, 484, 485, 418, 386, 231, 23, 486, 487, 453, 454, 455, 456, 457, 458, 459, 570, 571, 572, 573, 123, 124, 125, 126, 128, 129, 197, 366, 367, 368, 369, 370, 371, 373, 681, 682, 683, 684, 685, 686, 687, 688, 689, 690, 691, 692, 693, 707, 708, 709, 710, 711, 712, 713, 702, 703, 704, 705, 706, 724, 725, 726, 727, 714, 715, 716, 717, 718, 719, 728, 729, 720, 721, 722, 723, 694, 695, 696, 697, 698, 699, 700, 701] rfl (by decide +kernel)
set_option maxRecDepth 100000 in
theorem gL_law_L_comes : GoodIn wsL_law (va_wsS RL 51 yL_comes wsL_comes) := goodIn_app (goodIn_of _ (by decide +kernel)) ggL_law_L_comes
set_option maxRecDepth 100000 in
theorem ggL_law_L_told : GoodIn wsL_law wsL_told := goodIn_r _ [648, 649, 650, 651, 652, 653, 654, 655, 119, 120, 108, 121, 122, 240, 241, 242, 2, 243, 18, 13, 216, 217, 218, 244, 245, 232, 233, 234, 235, 131, 132, 133, 246, 247, 248, 249, 137, 138, 139, 17, 140, 97, 141, 142, 143, 144, 59, 145, 146, 147, 10, 11, 12, 24, 25, 26, 27, 8, 9, 28, 29, 30, 31, 32, 33, 34, 35, 36, 37, 38, 39, 40, 41, 42, 43, 44, 45, 46, 47, 48, 49, 50, 51, 52, 53, 54, 55, 56, 57, 58, 60, 61, 62, 63, 64, 65, 66, 67, 68, 69, 70, 71, 72, 73, 74, 75, 76, 77, 78, 79, 80, 81, 82, 83, 84, 85, 86, 87, 88, 89, 90, 91, 92, 148, 149, 150, 151, 152, 153, 154, 155, 156, 157, 158, 159, 160, 161, 162, 163, 164, 165, 166, 167, 168, 169, 170, 171, 172, 173, 174, 175, 176, 177, 178, 179, 180, 181, 182, 183, 184, 185, 186, 187, 188, 189, 190, 191, 192, 193, 194, 195, 196, 250, 251, 252, 253, 656, 657, 658, 659, 23, 486, 660, 661, 662, 663, 664, 665, 666, 667, 668, 669, 670, 671, 672, 22, 673, 530, 102, 674, 675, 676, 677, 525, 526, 527, 528, 529, 104, 531, 532, 533, 534, 535, 536, 537, 538, 539, 540, 541, 542, 543, 544, 545, 546, 547, 548, 549, 550, 551, 552, 553, 554, 555, 267, 268, 269, 198, 199, 517, 518, 519, 520, 521, 522, 523, 524, 134, 135, 136, 262, 263, 264, 265, 266, 270, 271, 272, 273, 274, 275, 276, 464, 465, 466, 467, 127, 468, 209, 469, 470, 471, 130, 472, 473, 474, 475, 281, 476, 372, 477, 478, 479, 480, 361, 374, 375, 376, 377, 378, 379, 380, 481, 482, 483, 484, 282, 426, 427, 283, 230, 428, 485, 418, 386, 231, 487, 277, 278, 279, 280, 207, 258, 259, 260, 261, 284, 285, 286, 287, 288, 289, 290, 291, 292, 293, 294, 295, 296, 297, 298, 299, 300, 301, 302, 303, 304, 305, 306, 307, 308, 309, 310, 311, 312, 313, 314, 315, 316, 317, 318, 319, 320, 321, 322, 323, 324, 325, 326, 327, 328, 329, 330, 331, 332, 333, 334, 335, 336, 337, 338, 339, 340, 341, 342, 343, 344, 345, 346, 347, 348, 349, 350, 351, 352, 353, 354, 355, 356, 357, 358, 359, 360, 362, 363, 364, 365, 681, 682, 683, 684, 685, 686, 687, 688, 689, 690, 691, 692, 693, 702, 703, 704, 705, 706, 724, 725, 726, 727, 694, 695, 696, 707, 708, 709, 710, 711, 712, 713, 714, 715, 716, 717, 718, 719, 720, 721, 722, 723, 728, 729, 697, 698, 699, 700, 701] rfl (by decide +kernel)
set_option maxRecDepth 100000 in
theorem gL_law_L_told : GoodIn wsL_law (va_wsS RL 54 yL_told wsL_told) := goodIn_app (goodIn_of _ (by decide +kernel)) ggL_law_L_told
set_option maxRecDepth 100000 in
theorem ggL_law_L_back : GoodIn wsL_law wsL_back := goodIn_r _ [680, 577, 420, 421, 422, 2, 423, 13, 209, 210, 211, 282, 424, 425, 426, 427, 230, 428, 216, 220, 385, 419, 208, 387, 309, 310, 12, 311, 29, 33, 289, 312, 313, 37, 314, 315, 316, 135, 136, 317, 318, 319, 320, 292, 293, 294, 295, 59, 296, 297, 302, 303, 304, 305, 306, 307, 321, 298, 299, 300, 301, 322, 323, 324, 429, 430, 431, 40, 432, 77, 433, 434, 435, 436, 437, 438, 439, 440, 441, 442, 443, 444, 79, 78, 445, 446, 447, 448, 449, 450, 451, 76, 452, 189, 85, 464, 465, 466, 467, 127, 468, 469, 470, 471, 130, 131, 132, 133, 134, 472, 473, 474, 475, 281, 244, 245, 217, 218, 476, 372, 477, 478, 479, 32, 480, 52, 274, 361, 374, 375, 376, 377, 378, 379, 380, 152, 481, 482, 483, 484, 283, 485, 418, 386, 231, 23, 486, 18, 487, 119, 120, 108, 121, 122, 277, 278, 279, 280, 207, 258, 259, 260, 261, 137, 138, 139, 17, 140, 97, 141, 142, 143, 144, 145, 146, 147, 10, 11, 24, 25, 26, 27, 8, 9, 28, 30, 31, 34, 35, 36, 38, 39, 41, 42, 43, 44, 45, 46, 47, 48, 49, 50, 51, 53, 54, 55, 56, 57, 58, 60, 61, 62, 63, 64, 65, 66, 67, 68, 69, 70, 71, 72, 73, 74, 75, 80, 81, 82, 83, 84, 86, 87, 88, 89, 90, 91, 92, 148, 149, 150, 151, 153, 154, 155, 156, 157, 158, 159, 160, 161, 162, 163, 164, 165, 166, 167, 168, 169, 170, 171, 172, 173, 174, 175, 176, 177, 178, 179, 180, 181, 182, 183, 184, 185, 186, 187, 188, 190, 191, 192, 193, 194, 195, 196, 284, 285, 286, 287, 288, 290, 291, 308, 325, 326, 327, 328, 329, 330, 331, 332, 333, 334, 335, 336, 337, 338, 339, 340, 341, 342, 343, 344, 345, 346, 347, 348, 349, 198, 199, 350, 351, 352, 353, 354, 355, 356, 357, 358, 359, 360, 362, 363, 364, 365, 270, 271, 272, 273, 275, 276, 123, 124, 125, 126, 128, 129, 197, 381, 382, 383, 384, 221, 222, 223, 224, 225, 246, 247, 248, 249, 634, 635, 636, 637, 638, 639, 640, 641, 642, 643, 644, 645, 240, 241, 242, 243, 232, 233, 234, 235, 250, 251, 252, 253, 556, 557, 558, 559, 560, 561, 562, 563, 564, 681, 682, 683, 684, 685, 686, 687, 688, 689, 690, 691, 692, 693, 707, 708, 709, 710, 711, 712, 713, 714, 715, 716, 717, 718, 719, 728, 729, 720, 721, 722, 723, 702, 703, 704, 705, 706, 724, 725, 726, 727, 697, 698, 699, 700, 701, 694, 695, 696] rfl (by decide +kernel)
set_option maxRecDepth 100000 in
theorem gL_law_L_back : GoodIn wsL_law (va_wsS RL 57 yL_back wsL_back) := goodIn_app (goodIn_of _ (by decide +kernel)) ggL_law_L_back
theorem dL_law_0 : decode cL_law 0 = .ok (.new 9, 3) := by decide +kernel
theorem dL_law_3 : decode cL_law 3 = .ok (.dup, 1) := by decide +kernel
theorem dL_law_4 : decode cL_law 4 = .ok (.invokespecial 11, 3) := by decide +kernel
theorem dL_law_7 : decode cL_law 7 = .ok (.astore_n 1, 1) := by decide +kernel
theorem dL_law_8 : decode cL_law 8 = .ok (.iconst 0, 1) := by decide +kernel
theorem dL_law_9 : decode cL_law 9 = .ok (.istore_n 2, 1) := by decide +kernel
theorem dL_law_10 : decode cL_law 10 = .ok (.aload_n 1, 1) := by decide +kernel
theorem dL_law_11 : decode cL_law 11 = .ok (.aload_n 0, 1) := by decide +kernel
theorem dL_law_12 : decode cL_law 12 = .ok (.iload_n 2, 1) := by decide +kernel
theorem dL_law_13 : decode cL_law 13 = .ok (.iinc 2 1, 3) := by decide +kernel
theorem dL_law_16 : decode cL_law 16 = .ok (.invokestatic 12, 3) := by decide +kernel
theorem dL_law_19 : decode cL_law 19 = .ok (.invokestatic 18, 3) := by decide +kernel
theorem dL_law_22 : decode cL_law 22 = .ok (.ifCond .ne 5, 3) := by decide +kernel
theorem dL_law_25 : decode cL_law 25 = .ok (.iconst 0, 1) := by decide +kernel
theorem dL_law_26 : decode cL_law 26 = .ok (.ireturn, 1) := by decide +kernel
theorem dL_law_27 : decode cL_law 27 = .ok (.aload_n 0, 1) := by decide +kernel
theorem dL_law_28 : decode cL_law 28 = .ok (.iload_n 2, 1) := by decide +kernel
theorem dL_law_29 : decode cL_law 29 = .ok (.iinc 2 1, 3) := by decide +kernel
theorem dL_law_32 : decode cL_law 32 = .ok (.invokestatic 12, 3) := by decide +kernel
theorem dL_law_35 : decode cL_law 35 = .ok (.istore_n 3, 1) := by decide +kernel
theorem dL_law_36 : decode cL_law 36 = .ok (.aload_n 1, 1) := by decide +kernel
theorem dL_law_37 : decode cL_law 37 = .ok (.iconst 0, 1) := by decide +kernel
theorem dL_law_38 : decode cL_law 38 = .ok (.iconst 1, 1) := by decide +kernel
theorem dL_law_39 : decode cL_law 39 = .ok (.iload_n 3, 1) := by decide +kernel
theorem dL_law_40 : decode cL_law 40 = .ok (.bipush 100, 2) := by decide +kernel
theorem dL_law_42 : decode cL_law 42 = .ok (.invokestatic 22, 3) := by decide +kernel
theorem dL_law_45 : decode cL_law 45 = .ok (.iadd, 1) := by decide +kernel
theorem dL_law_46 : decode cL_law 46 = .ok (.invokevirtual 26, 3) := by decide +kernel
theorem dL_law_49 : decode cL_law 49 = .ok (.pop, 1) := by decide +kernel
theorem dL_law_50 : decode cL_law 50 = .ok (.aload_n 1, 1) := by decide +kernel
theorem dL_law_51 : decode cL_law 51 = .ok (.iconst 1, 1) := by decide +kernel
theorem dL_law_52 : decode cL_law 52 = .ok (.bipush 100, 2) := by decide +kernel
theorem dL_law_54 : decode cL_law 54 = .ok (.iload_n 3, 1) := by decide +kernel
theorem dL_law_55 : decode cL_law 55 = .ok (.iconst 3, 1) := by decide +kernel
theorem dL_law_56 : decode cL_law 56 = .ok (.ishr, 1) := by decide +kernel
theorem dL_law_57 : decode cL_law 57 = .ok (.sipush 900, 3) := by decide +kernel
theorem dL_law_60 : decode cL_law 60 = .ok (.invokestatic 22, 3) := by decide +kernel
theorem dL_law_63 : decode cL_law 63 = .ok (.iadd, 1) := by decide +kernel
theorem dL_law_64 : decode cL_law 64 = .ok (.invokevirtual 26, 3) := by decide +kernel
theorem dL_law_67 : decode cL_law 67 = .ok (.pop, 1) := by decide +kernel
theorem dL_law_68 : decode cL_law 68 = .ok (.aload_n 1, 1) := by decide +kernel
theorem dL_law_69 : decode cL_law 69 = .ok (.iconst 2, 1) := by decide +kernel
theorem dL_law_70 : decode cL_law 70 = .ok (.iload_n 3, 1) := by decide +kernel
theorem dL_law_71 : decode cL_law 71 = .ok (.iconst 5, 1) := by decide +kernel
theorem dL_law_72 : decode cL_law 72 = .ok (.ishr, 1) := by decide +kernel
theorem dL_law_73 : decode cL_law 73 = .ok (.sipush 30001, 3) := by decide +kernel
theorem dL_law_76 : decode cL_law 76 = .ok (.invokestatic 22, 3) := by decide +kernel
theorem dL_law_79 : decode cL_law 79 = .ok (.invokevirtual 26, 3) := by decide +kernel
theorem dL_law_82 : decode cL_law 82 = .ok (.pop, 1) := by decide +kernel
theorem dL_law_83 : decode cL_law 83 = .ok (.aload_n 1, 1) := by decide +kernel
theorem dL_law_84 : decode cL_law 84 = .ok (.bipush 8, 2) := by decide +kernel
theorem dL_law_86 : decode cL_law 86 = .ok (.iload_n 3, 1) := by decide +kernel
theorem dL_law_87 : decode cL_law 87 = .ok (.bipush 7, 2) := by decide +kernel
theorem dL_law_89 : decode cL_law 89 = .ok (.ishr, 1) := by decide +kernel
theorem dL_law_90 : decode cL_law 90 = .ok (.bipush 12, 2) := by decide +kernel
theorem dL_law_92 : decode cL_law 92 = .ok (.invokestatic 22, 3) := by decide +kernel
theorem dL_law_95 : decode cL_law 95 = .ok (.invokevirtual 26, 3) := by decide +kernel
theorem dL_law_98 : decode cL_law 98 = .ok (.pop, 1) := by decide +kernel
theorem dL_law_99 : decode cL_law 99 = .ok (.aload_n 1, 1) := by decide +kernel
theorem dL_law_100 : decode cL_law 100 = .ok (.iload_n 3, 1) := by decide +kernel
theorem dL_law_101 : decode cL_law 101 = .ok (.iconst 2, 1) := by decide +kernel
theorem dL_law_102 : decode cL_law 102 = .ok (.ishr, 1) := by decide +kernel
theorem dL_law_103 : decode cL_law 103 = .ok (.sipush 141, 3) := by decide +kernel
theorem dL_law_106 : decode cL_law 106 = .ok (.invokestatic 22, 3) := by decide +kernel
theorem dL_law_109 : decode cL_law 109 = .ok (.bipush 70, 2) := by decide +kernel
theorem dL_law_111 : decode cL_law 111 = .ok (.isub, 1) := by decide +kernel
theorem dL_law_112 : decode cL_law 112 = .ok (.invokevirtual 29, 3) := by decide +kernel
theorem dL_law_115 : decode cL_law 115 = .ok (.pop, 1) := by decide +kernel
theorem dL_law_116 : decode cL_law 116 = .ok (.aload_n 1, 1) := by decide +kernel
theorem dL_law_117 : decode cL_law 117 = .ok (.iload_n 3, 1) := by decide +kernel
theorem dL_law_118 : decode cL_law 118 = .ok (.iconst 4, 1) := by decide +kernel
theorem dL_law_119 : decode cL_law 119 = .ok (.ishr, 1) := by decide +kernel
theorem dL_law_120 : decode cL_law 120 = .ok (.ldc 33, 2) := by decide +kernel
theorem dL_law_122 : decode cL_law 122 = .ok (.invokestatic 22, 3) := by decide +kernel
theorem dL_law_125 : decode cL_law 125 = .ok (.sipush 20000, 3) := by decide +kernel
theorem dL_law_128 : decode cL_law 128 = .ok (.isub, 1) := by decide +kernel
theorem dL_law_129 : decode cL_law 129 = .ok (.iload_n 3, 1) := by decide +kernel
theorem dL_law_130 : decode cL_law 130 = .ok (.sipush 2001, 3) := by decide +kernel
theorem dL_law_133 : decode cL_law 133 = .ok (.invokestatic 22, 3) := by decide +kernel
theorem dL_law_136 : decode cL_law 136 = .ok (.sipush 1000, 3) := by decide +kernel
theorem dL_law_139 : decode cL_law 139 = .ok (.isub, 1) := by decide +kernel
theorem dL_law_140 : decode cL_law 140 = .ok (.invokevirtual 34, 3) := by decide +kernel
theorem dL_law_143 : decode cL_law 143 = .ok (.pop, 1) := by decide +kernel
theorem dL_law_144 : decode cL_law 144 = .ok (.aload_n 1, 1) := by decide +kernel
theorem dL_law_145 : decode cL_law 145 = .ok (.aload_n 0, 1) := by decide +kernel
theorem dL_law_146 : decode cL_law 146 = .ok (.iload_n 2, 1) := by decide +kernel
theorem dL_law_147 : decode cL_law 147 = .ok (.iinc 2 1, 3) := by decide +kernel
theorem dL_law_150 : decode cL_law 150 = .ok (.invokestatic 12, 3) := by decide +kernel
theorem dL_law_153 : decode cL_law 153 = .ok (.invokestatic 37, 3) := by decide +kernel
theorem dL_law_156 : decode cL_law 156 = .ok (.ifCond .ne 5, 3) := by decide +kernel
theorem dL_law_159 : decode cL_law 159 = .ok (.iconst 0, 1) := by decide +kernel
theorem dL_law_160 : decode cL_law 160 = .ok (.ireturn, 1) := by decide +kernel
theorem dL_law_161 : decode cL_law 161 = .ok (.iconst 0, 1) := by decide +kernel
theorem dL_law_162 : decode cL_law 162 = .ok (.istore 4, 2) := by decide +kernel
theorem dL_law_164 : decode cL_law 164 = .ok (.iload 4, 2) := by decide +kernel
theorem dL_law_166 : decode cL_law 166 = .ok (.bipush 20, 2) := by decide +kernel
theorem dL_law_168 : decode cL_law 168 = .ok (.if_icmp .ge 66, 3) := by decide +kernel
theorem dL_law_171 : decode cL_law 171 = .ok (.aload_n 0, 1) := by decide +kernel
theorem dL_law_172 : decode cL_law 172 = .ok (.iload_n 2, 1) := by decide +kernel
theorem dL_law_173 : decode cL_law 173 = .ok (.iinc 2 1, 3) := by decide +kernel
theorem dL_law_176 : decode cL_law 176 = .ok (.invokestatic 12, 3) := by decide +kernel
theorem dL_law_179 : decode cL_law 179 = .ok (.istore_n 3, 1) := by decide +kernel
theorem dL_law_180 : decode cL_law 180 = .ok (.aload_n 1, 1) := by decide +kernel
theorem dL_law_181 : decode cL_law 181 = .ok (.iload_n 3, 1) := by decide +kernel
theorem dL_law_182 : decode cL_law 182 = .ok (.aload_n 0, 1) := by decide +kernel
theorem dL_law_183 : decode cL_law 183 = .ok (.iload_n 2, 1) := by decide +kernel
theorem dL_law_184 : decode cL_law 184 = .ok (.iinc 2 1, 3) := by decide +kernel
theorem dL_law_187 : decode cL_law 187 = .ok (.invokestatic 12, 3) := by decide +kernel
theorem dL_law_190 : decode cL_law 190 = .ok (.aload_n 0, 1) := by decide +kernel
theorem dL_law_191 : decode cL_law 191 = .ok (.iload_n 2, 1) := by decide +kernel
theorem dL_law_192 : decode cL_law 192 = .ok (.iinc 2 1, 3) := by decide +kernel
theorem dL_law_195 : decode cL_law 195 = .ok (.invokestatic 12, 3) := by decide +kernel
theorem dL_law_198 : decode cL_law 198 = .ok (.invokestatic 40, 3) := by decide +kernel
theorem dL_law_201 : decode cL_law 201 = .ok (.ifCond .eq 25, 3) := by decide +kernel
theorem dL_law_204 : decode cL_law 204 = .ok (.iload 4, 2) := by decide +kernel
theorem dL_law_206 : decode cL_law 206 = .ok (.iconst 4, 1) := by decide +kernel
theorem dL_law_207 : decode cL_law 207 = .ok (.irem, 1) := by decide +kernel
theorem dL_law_208 : decode cL_law 208 = .ok (.iconst 3, 1) := by decide +kernel
theorem dL_law_209 : decode cL_law 209 = .ok (.if_icmp .ne 19, 3) := by decide +kernel
theorem dL_law_212 : decode cL_law 212 = .ok (.aload_n 1, 1) := by decide +kernel
theorem dL_law_213 : decode cL_law 213 = .ok (.invokestatic 44, 3) := by decide +kernel
theorem dL_law_216 : decode cL_law 216 = .ok (.ifCond .eq 10, 3) := by decide +kernel
theorem dL_law_219 : decode cL_law 219 = .ok (.aload_n 1, 1) := by decide +kernel
theorem dL_law_220 : decode cL_law 220 = .ok (.invokestatic 48, 3) := by decide +kernel
theorem dL_law_223 : decode cL_law 223 = .ok (.ifCond .ne 5, 3) := by decide +kernel
theorem dL_law_226 : decode cL_law 226 = .ok (.iconst 0, 1) := by decide +kernel
theorem dL_law_227 : decode cL_law 227 = .ok (.ireturn, 1) := by decide +kernel
theorem dL_law_228 : decode cL_law 228 = .ok (.iinc 4 1, 3) := by decide +kernel
theorem dL_law_231 : decode cL_law 231 = .ok (.goto (-67), 3) := by decide +kernel
theorem dL_law_234 : decode cL_law 234 = .ok (.aload_n 0, 1) := by decide +kernel
theorem dL_law_235 : decode cL_law 235 = .ok (.iload_n 2, 1) := by decide +kernel
theorem dL_law_236 : decode cL_law 236 = .ok (.iinc 2 1, 3) := by decide +kernel
theorem dL_law_239 : decode cL_law 239 = .ok (.invokestatic 12, 3) := by decide +kernel
theorem dL_law_242 : decode cL_law 242 = .ok (.istore_n 3, 1) := by decide +kernel
theorem dL_law_243 : decode cL_law 243 = .ok (.aload_n 1, 1) := by decide +kernel
theorem dL_law_244 : decode cL_law 244 = .ok (.iload_n 3, 1) := by decide +kernel
theorem dL_law_245 : decode cL_law 245 = .ok (.invokestatic 51, 3) := by decide +kernel
theorem dL_law_248 : decode cL_law 248 = .ok (.ifCond .eq 44, 3) := by decide +kernel
theorem dL_law_251 : decode cL_law 251 = .ok (.aload_n 1, 1) := by decide +kernel
theorem dL_law_252 : decode cL_law 252 = .ok (.aload_n 0, 1) := by decide +kernel
theorem dL_law_253 : decode cL_law 253 = .ok (.iload_n 2, 1) := by decide +kernel
theorem dL_law_254 : decode cL_law 254 = .ok (.iinc 2 1, 3) := by decide +kernel
theorem dL_law_257 : decode cL_law 257 = .ok (.invokestatic 12, 3) := by decide +kernel
theorem dL_law_260 : decode cL_law 260 = .ok (.invokestatic 54, 3) := by decide +kernel
theorem dL_law_263 : decode cL_law 263 = .ok (.ifCond .eq 29, 3) := by decide +kernel
theorem dL_law_266 : decode cL_law 266 = .ok (.aload_n 1, 1) := by decide +kernel
theorem dL_law_267 : decode cL_law 267 = .ok (.aload_n 0, 1) := by decide +kernel
theorem dL_law_268 : decode cL_law 268 = .ok (.iload_n 2, 1) := by decide +kernel
theorem dL_law_269 : decode cL_law 269 = .ok (.iinc 2 1, 3) := by decide +kernel
theorem dL_law_272 : decode cL_law 272 = .ok (.invokestatic 12, 3) := by decide +kernel
theorem dL_law_275 : decode cL_law 275 = .ok (.invokestatic 57, 3) := by decide +kernel
theorem dL_law_278 : decode cL_law 278 = .ok (.ifCond .eq 14, 3) := by decide +kernel
theorem dL_law_281 : decode cL_law 281 = .ok (.aload_n 1, 1) := by decide +kernel
theorem dL_law_282 : decode cL_law 282 = .ok (.invokestatic 44, 3) := by decide +kernel
theorem dL_law_285 : decode cL_law 285 = .ok (.ifCond .eq 7, 3) := by decide +kernel
theorem dL_law_288 : decode cL_law 288 = .ok (.iconst 1, 1) := by decide +kernel
theorem dL_law_289 : decode cL_law 289 = .ok (.goto 4, 3) := by decide +kernel
theorem dL_law_292 : decode cL_law 292 = .ok (.iconst 0, 1) := by decide +kernel
theorem dL_law_293 : decode cL_law 293 = .ok (.ireturn, 1) := by decide +kernel
