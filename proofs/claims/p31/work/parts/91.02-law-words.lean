theorem zin_p {big ws : List Cond} (ps : List Nat) (hp : ws = ps.filterMap (fun i => big[i]?)) : ∀ w ∈ ws, w ∈ big := by
  intro w hw
  rw [hp] at hw
  obtain ⟨i, -, hi⟩ := List.mem_filterMap.mp hw
  exact List.mem_of_getElem? hi
theorem zin_a {big a b : List Cond} (ha : ∀ w ∈ a, w ∈ big) (hb : ∀ w ∈ b, w ∈ big) : ∀ w ∈ a ++ b, w ∈ big := fun w h => (List.mem_append.mp h).elim (ha w) (hb w)
set_option maxRecDepth 100000 in
theorem zin_wsL_law_r1 : ∀ w ∈ wsL_law_r1, w ∈ lw_tbl := zin_p [22, 23, 11, 608, 24, 25, 26, 27, 28, 29, 30, 31, 12, 295, 296, 249, 250, 20, 297, 298, 268, 269, 21, 299] rfl
set_option maxRecDepth 100000 in
theorem zin_wsL_law_r2 : ∀ w ∈ wsL_law_r2, w ∈ lw_tbl := zin_p [32, 33, 34, 35, 72, 216, 36, 37, 13, 218, 97, 98, 16, 220, 140, 141, 17, 222, 188, 189, 19, 224, 39, 40] rfl
set_option maxRecDepth 100000 in
theorem zin_wsL_law_r3 : ∀ w ∈ wsL_law_r3, w ∈ lw_tbl := zin_p [41, 42, 43, 14, 73, 44, 45, 46, 47, 48, 49, 15, 50, 51, 54, 57, 100, 101, 102, 104, 119, 103, 122, 143] rfl
set_option maxRecDepth 100000 in
theorem zin_wsL_law_r4 : ∀ w ∈ wsL_law_r4, w ∈ lw_tbl := zin_p [144, 145, 146, 147, 18, 165, 167, 169, 148, 149, 150, 151, 152, 153, 191, 192, 193, 196, 194, 198, 195, 252, 253, 254] rfl
set_option maxRecDepth 100000 in
theorem zin_wsL_law_r5 : ∀ w ∈ wsL_law_r5, w ∈ lw_tbl := zin_p [255, 257, 271, 272, 273, 294, 276, 274, 277, 275, 394, 395, 10, 396, 397, 829, 830, 831, 832, 424, 833, 834, 689, 398] rfl
set_option maxRecDepth 100000 in
theorem zin_wsL_law_r6 : ∀ w ∈ wsL_law_r6, w ∈ lw_tbl := zin_p [399, 400, 401, 311, 312, 313, 314, 315, 319, 324, 217, 316, 317, 318, 321, 322, 323, 326, 327, 328, 329, 258, 259, 369] rfl
set_option maxRecDepth 100000 in
theorem zin_wsL_law_r7 : ∀ w ∈ wsL_law_r7, w ∈ lw_tbl := zin_p [370, 371, 331, 332, 333, 334, 335, 336, 226, 228, 230, 338, 339, 340, 341, 342, 343, 75, 78, 81, 84, 344, 345, 346] rfl
set_option maxRecDepth 100000 in
theorem zin_wsL_law_r8 : ∀ w ∈ wsL_law_r8, w ∈ lw_tbl := zin_p [347, 60, 349, 350, 351, 352, 107, 110, 113, 116, 354, 355, 356, 357, 170, 171, 173, 358, 359, 360, 361, 156, 363, 364] rfl
set_option maxRecDepth 100000 in
theorem zin_wsL_law_r9 : ∀ w ∈ wsL_law_r9, w ∈ lw_tbl := zin_p [365, 366, 201, 203, 368, 372, 373, 374, 375, 376, 377, 378, 379, 380, 381, 382, 383, 221, 109, 111, 384, 385, 386, 387] rfl
set_option maxRecDepth 100000 in
theorem zin_wsL_law_r10 : ∀ w ∈ wsL_law_r10, w ∈ lw_tbl := zin_p [219, 74, 62, 393, 77, 388, 389, 390, 391, 392, 559, 560, 561, 562, 225, 202, 409, 410, 411, 412, 563, 564, 565, 566] rfl
set_option maxRecDepth 100000 in
theorem zin_wsL_law_r11 : ∀ w ∈ wsL_law_r11, w ∈ lw_tbl := zin_p [538, 539, 540, 541, 80, 83, 432, 433, 434, 435, 542, 543, 544, 545, 517, 518, 519, 520, 521, 522, 523, 524, 525, 526] rfl
set_option maxRecDepth 100000 in
theorem zin_wsL_law_r12 : ∀ w ∈ wsL_law_r12, w ∈ lw_tbl := zin_p [527, 528, 529, 530, 531, 532, 534, 536, 2, 537, 61, 52, 55, 622, 623, 624, 625, 227, 223, 174, 626, 627, 628, 629] rfl
set_option maxRecDepth 100000 in
theorem zin_wsL_law_r13 : ∀ w ∈ wsL_law_r13, w ∈ lw_tbl := zin_p [108, 76, 105, 120, 440, 441, 442, 443, 444, 445, 420, 421, 422, 423, 413, 414, 415, 416, 417, 418, 632, 484, 485, 486] rfl
set_option maxRecDepth 100000 in
theorem zin_wsL_law_r14 : ∀ w ∈ wsL_law_r14, w ∈ lw_tbl := zin_p [82, 79, 114, 489, 117, 437, 438, 449, 439, 419, 446, 447, 448, 633, 634, 635, 636, 637, 638, 642, 652, 644, 645, 646] rfl
set_option maxRecDepth 100000 in
theorem zin_wsL_law_r15 : ∀ w ∈ wsL_law_r15, w ∈ lw_tbl := zin_p [647, 648, 649, 650, 651, 653, 654, 655, 656, 657, 588, 589, 590, 592, 658, 659, 660, 661, 662, 664, 665, 667, 669, 3] rfl
set_option maxRecDepth 100000 in
theorem zin_wsL_law_r16 : ∀ w ∈ wsL_law_r16, w ∈ lw_tbl := zin_p [670, 58, 672, 673, 674, 675, 546, 547, 548, 549, 550, 551, 121, 124, 466, 467, 468, 469, 123, 470, 471, 552, 553, 554] rfl
set_option maxRecDepth 100000 in
theorem zin_wsL_law_r17 : ∀ w ∈ wsL_law_r17, w ∈ lw_tbl := zin_p [555, 115, 118, 483, 568, 569, 570, 571, 572, 197, 573, 574, 575, 576, 577, 578, 579, 580, 582, 583, 584, 585, 586, 587] rfl
set_option maxRecDepth 100000 in
theorem zin_wsL_law_r18 : ∀ w ∈ wsL_law_r18, w ∈ lw_tbl := zin_p [593, 594, 15, 595, 609, 610, 611, 612, 613, 614, 229, 231, 479, 480, 481, 482, 172, 501, 166, 159, 200, 490, 491, 492] rfl
set_option maxRecDepth 100000 in
theorem zin_wsL_law_r19 : ∀ w ∈ wsL_law_r19, w ∈ lw_tbl := zin_p [493, 157, 494, 495, 496, 497, 154, 499, 500, 502, 503, 504, 505, 507, 508, 509, 510, 511, 512, 513, 514, 618, 619, 620] rfl
set_option maxRecDepth 100000 in
theorem zin_wsL_law_r20 : ∀ w ∈ wsL_law_r20, w ∈ lw_tbl := zin_p [621, 600, 155, 168, 596, 597, 598, 599, 450, 451, 452, 453, 454, 106, 455, 456, 457, 459, 0, 460, 85, 461, 462, 463] rfl
set_option maxRecDepth 100000 in
theorem zin_wsL_law_r21 : ∀ w ∈ wsL_law_r21, w ∈ lw_tbl := zin_p [464, 472, 474, 1, 475, 204, 280, 260, 405, 406, 407, 408, 428, 429, 430, 431, 436, 714, 715, 716, 717, 718, 719, 721] rfl
set_option maxRecDepth 100000 in
theorem zin_wsL_law_r22 : ∀ w ∈ wsL_law_r22, w ∈ lw_tbl := zin_p [4, 722, 723, 724, 725, 726, 702, 112, 727, 728, 729, 730, 731, 809, 810, 811, 812, 278, 53, 56, 59, 781, 782, 783] rfl
set_option maxRecDepth 100000 in
theorem zin_wsL_law_r23 : ∀ w ∈ wsL_law_r23, w ∈ lw_tbl := zin_p [784, 281, 279, 785, 786, 788, 5, 789, 282, 807, 790, 792, 6, 793, 794, 796, 7, 797, 798, 800, 8, 801, 806, 802] rfl
set_option maxRecDepth 100000 in
theorem zin_wsL_law_r24 : ∀ w ∈ wsL_law_r24, w ∈ lw_tbl := zin_p [804, 9, 805, 808, 820, 821, 822, 823, 824, 825, 826, 827, 828, 732, 733, 734, 735, 736, 749, 750, 751, 752, 402, 403] rfl
set_option maxRecDepth 100000 in
theorem zin_wsL_law_r25 : ∀ w ∈ wsL_law_r25, w ∈ lw_tbl := zin_p [404, 425, 426, 427, 476, 477, 478, 516, 556, 557, 558, 601, 602, 603, 604, 605, 606, 607, 615, 616, 617, 677, 678, 679] rfl
set_option maxRecDepth 100000 in
theorem zin_wsL_law_r26 : ∀ w ∈ wsL_law_r26, w ∈ lw_tbl := zin_p [680, 681, 682, 683, 684, 685, 686, 687, 688, 690, 691, 692, 693, 694, 695, 696, 697, 698, 199, 158, 704, 706, 699, 700] rfl
set_option maxRecDepth 100000 in
theorem zin_wsL_law_r27 : ∀ w ∈ wsL_law_r27, w ∈ lw_tbl := zin_p [701, 703, 705, 707, 708, 709, 710, 711, 712, 713, 737, 738, 739, 740, 741, 742, 743, 744, 745, 746, 747, 748, 753, 754] rfl
set_option maxRecDepth 100000 in
theorem zin_wsL_law_r28 : ∀ w ∈ wsL_law_r28, w ∈ lw_tbl := zin_p [755, 760, 761, 762, 813, 814, 815, 816, 756, 757, 758, 759, 763, 764, 765, 766, 770, 767, 768, 769, 771, 772, 773, 774] rfl
set_option maxRecDepth 100000 in
theorem zin_wsL_law_r29 : ∀ w ∈ wsL_law_r29, w ∈ lw_tbl := zin_p [775, 776, 777, 778, 779, 780, 817, 818, 819] rfl
set_option maxRecDepth 100000 in
theorem zin_wsX90 : ∀ w ∈ wsX90, w ∈ lw_tbl := zin_p [300, 302, 304, 306, 308] rfl
set_option maxRecDepth 100000 in
theorem zin_wsX70 : ∀ w ∈ wsX70, w ∈ lw_tbl := zin_p [232, 234, 236, 238, 240, 242, 244, 246] rfl
set_option maxRecDepth 100000 in
theorem zin_wsX10 : ∀ w ∈ wsX10, w ∈ lw_tbl := zin_p [261, 263, 265] rfl
set_option maxRecDepth 100000 in
theorem zin_wsX40 : ∀ w ∈ wsX40, w ∈ lw_tbl := zin_p [283, 285, 287, 289, 291] rfl
set_option maxRecDepth 100000 in
theorem zin_wsX50 : ∀ w ∈ wsX50, w ∈ lw_tbl := zin_p [86, 88, 90, 92, 94] rfl
set_option maxRecDepth 100000 in
theorem zin_wsX00 : ∀ w ∈ wsX00, w ∈ lw_tbl := zin_p [125, 127, 129, 131, 133, 135, 137] rfl
set_option maxRecDepth 100000 in
theorem zin_wsX80 : ∀ w ∈ wsX80, w ∈ lw_tbl := zin_p [175, 177, 179, 181, 183, 185] rfl
set_option maxRecDepth 100000 in
theorem zin_wsX60 : ∀ w ∈ wsX60, w ∈ lw_tbl := zin_p [205, 207, 209, 211] rfl
set_option maxRecDepth 100000 in
theorem zin_wsX30 : ∀ w ∈ wsX30, w ∈ lw_tbl := zin_p [63, 65, 67, 69] rfl
set_option maxRecDepth 100000 in
theorem zin_wsX20 : ∀ w ∈ wsX20, w ∈ lw_tbl := zin_p [160, 162] rfl
set_option maxRecDepth 100000 in
theorem wsL_law_in : ∀ w ∈ wsL_law, w ∈ lw_tbl := zin_a (zin_a (zin_a (zin_a (zin_a (zin_a (zin_a (zin_a (zin_a (zin_a (zin_a (zin_a zin_wsL_law_r1 (zin_a zin_wsL_law_r2 (zin_a zin_wsL_law_r3 (zin_a zin_wsL_law_r4 (zin_a zin_wsL_law_r5 (zin_a zin_wsL_law_r6 (zin_a zin_wsL_law_r7 (zin_a zin_wsL_law_r8 (zin_a zin_wsL_law_r9 (zin_a zin_wsL_law_r10 (zin_a zin_wsL_law_r11 (zin_a zin_wsL_law_r12 (zin_a zin_wsL_law_r13 (zin_a zin_wsL_law_r14 (zin_a zin_wsL_law_r15 (zin_a zin_wsL_law_r16 (zin_a zin_wsL_law_r17 (zin_a zin_wsL_law_r18 (zin_a zin_wsL_law_r19 (zin_a zin_wsL_law_r20 (zin_a zin_wsL_law_r21 (zin_a zin_wsL_law_r22 (zin_a zin_wsL_law_r23 (zin_a zin_wsL_law_r24 (zin_a zin_wsL_law_r25 (zin_a zin_wsL_law_r26 (zin_a zin_wsL_law_r27 (zin_a zin_wsL_law_r28 (zin_wsL_law_r29))))))))))))))))))))))))))))) zin_wsX90) zin_wsX70) zin_wsX10) zin_wsX40) zin_wsX50) zin_wsX00) zin_wsX80) zin_wsX60) zin_wsX30) zin_wsX20) (fun _ h => absurd h List.not_mem_nil)
theorem inlX0 : ∀ w ∈ wsX00, w ∈ wsL_law := fun _ h => List.mem_append_left _ (List.mem_append_left _ (List.mem_append_left _ (List.mem_append_left _ (List.mem_append_left _ (List.mem_append_right _ h)))))
theorem inX0 : ∀ w ∈ wsX00, w ∈ lw_tbl := fun w h => wsL_law_in w (inlX0 w h)
theorem inlX1 : ∀ w ∈ wsX10, w ∈ wsL_law := fun _ h => List.mem_append_left _ (List.mem_append_left _ (List.mem_append_left _ (List.mem_append_left _ (List.mem_append_left _ (List.mem_append_left _ (List.mem_append_left _ (List.mem_append_left _ (List.mem_append_right _ h))))))))
theorem inX1 : ∀ w ∈ wsX10, w ∈ lw_tbl := fun w h => wsL_law_in w (inlX1 w h)
theorem inlX2 : ∀ w ∈ wsX20, w ∈ wsL_law := fun _ h => List.mem_append_left _ (List.mem_append_right _ h)
theorem inX2 : ∀ w ∈ wsX20, w ∈ lw_tbl := fun w h => wsL_law_in w (inlX2 w h)
theorem inlX3 : ∀ w ∈ wsX30, w ∈ wsL_law := fun _ h => List.mem_append_left _ (List.mem_append_left _ (List.mem_append_right _ h))
theorem inX3 : ∀ w ∈ wsX30, w ∈ lw_tbl := fun w h => wsL_law_in w (inlX3 w h)
theorem inlX4 : ∀ w ∈ wsX40, w ∈ wsL_law := fun _ h => List.mem_append_left _ (List.mem_append_left _ (List.mem_append_left _ (List.mem_append_left _ (List.mem_append_left _ (List.mem_append_left _ (List.mem_append_left _ (List.mem_append_right _ h)))))))
theorem inX4 : ∀ w ∈ wsX40, w ∈ lw_tbl := fun w h => wsL_law_in w (inlX4 w h)
theorem inlX5 : ∀ w ∈ wsX50, w ∈ wsL_law := fun _ h => List.mem_append_left _ (List.mem_append_left _ (List.mem_append_left _ (List.mem_append_left _ (List.mem_append_left _ (List.mem_append_left _ (List.mem_append_right _ h))))))
theorem inX5 : ∀ w ∈ wsX50, w ∈ lw_tbl := fun w h => wsL_law_in w (inlX5 w h)
theorem inlX6 : ∀ w ∈ wsX60, w ∈ wsL_law := fun _ h => List.mem_append_left _ (List.mem_append_left _ (List.mem_append_left _ (List.mem_append_right _ h)))
theorem inX6 : ∀ w ∈ wsX60, w ∈ lw_tbl := fun w h => wsL_law_in w (inlX6 w h)
theorem inlX7 : ∀ w ∈ wsX70, w ∈ wsL_law := fun _ h => List.mem_append_left _ (List.mem_append_left _ (List.mem_append_left _ (List.mem_append_left _ (List.mem_append_left _ (List.mem_append_left _ (List.mem_append_left _ (List.mem_append_left _ (List.mem_append_left _ (List.mem_append_right _ h)))))))))
theorem inX7 : ∀ w ∈ wsX70, w ∈ lw_tbl := fun w h => wsL_law_in w (inlX7 w h)
theorem inlX8 : ∀ w ∈ wsX80, w ∈ wsL_law := fun _ h => List.mem_append_left _ (List.mem_append_left _ (List.mem_append_left _ (List.mem_append_left _ (List.mem_append_right _ h))))
theorem inX8 : ∀ w ∈ wsX80, w ∈ lw_tbl := fun w h => wsL_law_in w (inlX8 w h)
theorem inlX9 : ∀ w ∈ wsX90, w ∈ wsL_law := fun _ h => List.mem_append_left _ (List.mem_append_left _ (List.mem_append_left _ (List.mem_append_left _ (List.mem_append_left _ (List.mem_append_left _ (List.mem_append_left _ (List.mem_append_left _ (List.mem_append_left _ (List.mem_append_left _ (List.mem_append_right _ h))))))))))
theorem inX9 : ∀ w ∈ wsX90, w ∈ lw_tbl := fun w h => wsL_law_in w (inlX9 w h)
/-! the start: the classes' numbers and slots, the rows that stand still, both sides made -/
set_option maxRecDepth 100000 in
theorem z_nwin : ∀ w ∈ zNw, w ∈ lw_tbl := zin_p [38, 99, 142, 190, 337, 251, 270, 330, 348, 353, 362, 367, 567, 533, 465, 630, 631, 487, 488, 641, 643, 591, 663, 666, 671, 676, 581, 498, 506, 515, 214, 639] rfl
theorem z_onT : zNw.all (fun w => w.onTables) = true := by decide +kernel
theorem z_row {s : State} {a : Array Value} {n : String} {N : Nat} {f : Nat → Int64} (hN : N < 2 ^ 31) (hl : (Cond.laysStatic "GyroTrainer" n "[J").before a s = true) (hi : (Cond.initialized "GyroTrainer").before a s = true) (harr : (Cond.arrayOf (.static "GyroTrainer" n "[J") .long).before a s = true) (hlen : (Cond.eq (.length (.static "GyroTrainer" n "[J")) (.int (Int32.ofNat N))).before a s = true) (hel : ∀ j : Nat, j < N → (Cond.eq (.elem (.static "GyroTrainer" n "[J") (.int (Int32.ofNat j))) (.long (f j))).before a s = true) : zT1 n N f (zAl s) s s.heap := by
  have hA : ∀ r : Nat, r < s.heap.size → ¬ zAl s r := fun r h => Nat.not_le.mpr h
  obtain ⟨t, ht, hT⟩ := va_Tof (A := zAl s) (f := fun j => .long (f j)) hN harr (va_eqt hlen) (fun j hj => va_eqtl (hel j hj)) hA
  exact ⟨t, va_Zof hl hi ht hA, hT⟩
set_option maxHeartbeats 4000000 in
set_option maxRecDepth 100000 in
theorem z_env {s : State} {b : Addr} (hT : ∀ w ∈ lw_tbl, w.before #[Value.ref b] s = true) (hgv : (Jvm.Cond.and given_1 narrow_1).before #[Value.ref b] s = true) : zE (zAl s) s s.heap := by
  have hf := flat_of_before _ hgv
  have hi := hT (.initialized "GyroTrainer") (List.mem_of_getElem? (i := 11) (by decide +kernel))
  refine ⟨fun w hw => va_Nw.of (List.all_eq_true.mp z_onT w hw) (hT w (z_nwin w hw)), va_AO.of (hT (.arrayOver (.object "GyroTrainer$State")) (List.mem_of_getElem? (i := 256) (by decide +kernel))), ?_, ?_, ?_, ?_⟩
  · refine z_row (by decide) (hT (.laysStatic "GyroTrainer" "SETTING_LEAST" "[J") (List.mem_of_getElem? (i := 320) (by decide +kernel))) hi (hf _ (by decide +kernel)) (hf _ (by decide +kernel)) (fun j hj => ?_)
    rcases (show j = 0 ∨ j = 1 ∨ j = 2 ∨ j = 3 ∨ j = 4 ∨ j = 5 ∨ j = 6 ∨ j = 7 ∨ j = 8 by omega) with rfl | rfl | rfl | rfl | rfl | rfl | rfl | rfl | rfl <;> exact hf _ (by decide +kernel)
  · refine z_row (by decide) (hT (.laysStatic "GyroTrainer" "SETTING_MOST" "[J") (List.mem_of_getElem? (i := 325) (by decide +kernel))) hi (hf _ (by decide +kernel)) (hf _ (by decide +kernel)) (fun j hj => ?_)
    rcases (show j = 0 ∨ j = 1 ∨ j = 2 ∨ j = 3 ∨ j = 4 ∨ j = 5 ∨ j = 6 ∨ j = 7 ∨ j = 8 by omega) with rfl | rfl | rfl | rfl | rfl | rfl | rfl | rfl | rfl <;> exact hf _ (by decide +kernel)
  · refine z_row (by decide) (hT (.laysStatic "GyroTrainer" "SETTING_FIRST" "[J") (List.mem_of_getElem? (i := 215) (by decide +kernel))) hi (hf _ (by decide +kernel)) (hf _ (by decide +kernel)) (fun j hj => ?_)
    rcases (show j = 0 ∨ j = 1 ∨ j = 2 ∨ j = 3 ∨ j = 4 ∨ j = 5 ∨ j = 6 ∨ j = 7 ∨ j = 8 by omega) with rfl | rfl | rfl | rfl | rfl | rfl | rfl | rfl | rfl <;> exact hf _ (by decide +kernel)
  · refine z_row (by decide) (hT (.laysStatic "GyroTrainer" "DAMPING" "[J") (List.mem_of_getElem? (i := 640) (by decide +kernel))) hi (hf _ (by decide +kernel)) (hf _ (by decide +kernel)) (fun j hj => ?_)
    rcases (show j = 0 ∨ j = 1 ∨ j = 2 ∨ j = 3 ∨ j = 4 by omega) with rfl | rfl | rfl | rfl | rfl <;> exact hf _ (by decide +kernel)
set_option maxHeartbeats 4000000 in
set_option maxRecDepth 100000 in
theorem z_known {s : State} {b : Addr} (hT : ∀ w ∈ lw_tbl, w.before #[Value.ref b] s = true) : ∃ (D : va_G) (cA : Nat → ClassId), va_K D vwCl (zty cA) s := by
  obtain ⟨c0, i0, h0⟩ := u_known (C := RX0) (T := TX0) (N := 7) (n := 7) hT inX0 (hT (.instantiable RX0 7) (List.mem_of_getElem? (i := 98) (by decide +kernel)))
  obtain ⟨c1, i1, h1⟩ := u_known (C := RX1) (T := TX1) (N := 3) (n := 3) hT inX1 (hT (.instantiable RX1 3) (List.mem_of_getElem? (i := 250) (by decide +kernel)))
  obtain ⟨c2, i2, h2⟩ := u_known (C := RX2) (T := TX2) (N := 2) (n := 2) hT inX2 (hT (.instantiable RX2 2) (List.mem_of_getElem? (i := 147) (by decide +kernel)))
  obtain ⟨c3, i3, h3⟩ := u_known (C := RX3) (T := TX3) (N := 4) (n := 4) hT inX3 (hT (.instantiable RX3 4) (List.mem_of_getElem? (i := 43) (by decide +kernel)))
  obtain ⟨c4, i4, h4⟩ := u_known (C := RX4) (T := TX4) (N := 5) (n := 5) hT inX4 (hT (.instantiable RX4 5) (List.mem_of_getElem? (i := 269) (by decide +kernel)))
  obtain ⟨c5, i5, h5⟩ := u_known (C := RX5) (T := TX5) (N := 5) (n := 5) hT inX5 (hT (.instantiable RX5 5) (List.mem_of_getElem? (i := 37) (by decide +kernel)))
  obtain ⟨c6, i6, h6⟩ := u_known (C := RX6) (T := TX6) (N := 4) (n := 4) hT inX6 (hT (.instantiable RX6 4) (List.mem_of_getElem? (i := 189) (by decide +kernel)))
  obtain ⟨c7, i7, h7⟩ := u_known (C := RX7) (T := TX7) (N := 8) (n := 8) hT inX7 (hT (.instantiable RX7 8) (List.mem_of_getElem? (i := 31) (by decide +kernel)))
  obtain ⟨c8, i8, h8⟩ := u_known (C := RX8) (T := TX8) (N := 6) (n := 6) hT inX8 (hT (.instantiable RX8 6) (List.mem_of_getElem? (i := 141) (by decide +kernel)))
  obtain ⟨c9, i9, h9⟩ := u_known (C := RX9) (T := TX9) (N := 5) (n := 5) hT inX9 (hT (.instantiable RX9 5) (List.mem_of_getElem? (i := 23) (by decide +kernel)))
  obtain ⟨a0, ka0, co0, f0, g0, k0⟩ := Cond.arrayClass_spec (hT (.arrayClass .long) (List.mem_of_getElem? (i := 72) (by decide +kernel)))
  obtain ⟨a3, ka3, co3, f3, g3, k3⟩ := Cond.arrayClass_spec (hT (.arrayClass .char) (List.mem_of_getElem? (i := 294) (by decide +kernel)))
  obtain ⟨co4, a4, ka4, e4, -, g4, k4, f4⟩ := Cond.arrayOver_spec (hT (.arrayOver (.object "GyroTrainer$State")) (List.mem_of_getElem? (i := 256) (by decide +kernel)))
  refine ⟨(fun k => match k with | 0 => c0 | 1 => c1 | 2 => c2 | 3 => c3 | 4 => c4 | 5 => c5 | 6 => c6 | 7 => c7 | 8 => c8 | _ => c9, fun k => match k with | 0 => i0 | 1 => i1 | 2 => i2 | 3 => i3 | 4 => i4 | 5 => i5 | 6 => i6 | 7 => i7 | 8 => i8 | _ => i9), fun k => match k with | 0 => a0 | 3 => a3 | _ => a4, ?_, ?_⟩
  · intro k q hq
    match k, hq with
    | 0, hq => cases hq; exact h0
    | 1, hq => cases hq; exact h1
    | 2, hq => cases hq; exact h2
    | 3, hq => cases hq; exact h3
    | 4, hq => cases hq; exact h4
    | 5, hq => cases hq; exact h5
    | 6, hq => cases hq; exact h6
    | 7, hq => cases hq; exact h7
    | 8, hq => cases hq; exact h8
    | 9, hq => cases hq; exact h9
    | k + 10, hq => simp [vwCl] at hq
  · intro k q hq
    match k, hq with
    | 0, hq => cases hq; exact ⟨fun n z => ⟨(fun k h => by cases h), ka0, g0, co0, k0⟩, f0⟩
    | 1, hq => cases hq; exact ⟨fun n z => ⟨(fun k h => by cases h), ka0, g0, co0, k0⟩, f0⟩
    | 2, hq => cases hq; exact ⟨fun n z => ⟨(fun k h => by cases h), ka0, g0, co0, k0⟩, f0⟩
    | 3, hq => cases hq; exact ⟨fun n z => ⟨(fun k h => by cases h), ka3, g3, co3, k3⟩, f3⟩
    | 4, hq => cases hq; exact ⟨fun n z => ⟨(fun k h => by cases h), ka4, g4, co4, k4⟩, ka4, co4, g4, k4, e4, f4⟩
    | k + 5, hq => simp [zty] at hq
