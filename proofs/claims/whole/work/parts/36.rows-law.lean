theorem zin_p {big ws : List Cond} (ps : List Nat) (hp : ws = ps.filterMap (fun i => big[i]?)) : ∀ w ∈ ws, w ∈ big := by
  intro w hw
  rw [hp] at hw
  obtain ⟨i, -, hi⟩ := List.mem_filterMap.mp hw
  exact List.mem_of_getElem? hi
theorem zin_a {big a b : List Cond} (ha : ∀ w ∈ a, w ∈ big) (hb : ∀ w ∈ b, w ∈ big) : ∀ w ∈ a ++ b, w ∈ big := fun w h => (List.mem_append.mp h).elim (ha w) (hb w)
set_option maxRecDepth 100000 in
theorem zin_wsL_law_r1 : ∀ w ∈ wsL_law_r1, w ∈ lw_tbl := zin_p [47, 48, 35, 787, 788, 46, 1117, 49, 50, 51, 52, 53, 54, 55, 56, 36, 320, 321, 274, 275, 44, 322, 323, 293] (by decide +kernel)
set_option maxRecDepth 100000 in
theorem zin_wsL_law_r2 : ∀ w ∈ wsL_law_r2, w ∈ lw_tbl := zin_p [294, 45, 324, 57, 58, 59, 60, 97, 241, 61, 62, 37, 243, 122, 123, 40, 245, 165, 166, 41, 247, 213, 214, 43] (by decide +kernel)
set_option maxRecDepth 100000 in
theorem zin_wsL_law_r3 : ∀ w ∈ wsL_law_r3, w ∈ lw_tbl := zin_p [249, 64, 65, 66, 67, 68, 38, 98, 69, 70, 71, 72, 73, 74, 39, 75, 76, 79, 82, 125, 126, 127, 129, 144] (by decide +kernel)
set_option maxRecDepth 100000 in
theorem zin_wsL_law_r4 : ∀ w ∈ wsL_law_r4, w ∈ lw_tbl := zin_p [128, 147, 168, 169, 170, 171, 172, 42, 190, 192, 194, 173, 174, 175, 176, 177, 178, 216, 217, 218, 221, 219, 223, 220] (by decide +kernel)
set_option maxRecDepth 100000 in
theorem zin_wsL_law_r5 : ∀ w ∈ wsL_law_r5, w ∈ lw_tbl := zin_p [277, 278, 279, 280, 282, 296, 297, 298, 319, 301, 299, 302, 300, 789, 790, 791, 792, 842, 793, 794, 795, 796, 797, 798] (by decide +kernel)
set_option maxRecDepth 100000 in
theorem zin_wsL_law_r6 : ∀ w ∈ wsL_law_r6, w ∈ lw_tbl := zin_p [800, 801, 843, 802, 803, 807, 336, 337, 338, 339, 340, 344, 349, 242, 341, 342, 343, 346, 347, 348, 351, 352, 353, 354] (by decide +kernel)
set_option maxRecDepth 100000 in
theorem zin_wsL_law_r7 : ∀ w ∈ wsL_law_r7, w ∈ lw_tbl := zin_p [283, 284, 394, 395, 396, 356, 357, 358, 359, 360, 361, 251, 253, 255, 363, 364, 365, 366, 367, 368, 100, 103, 106, 109] (by decide +kernel)
set_option maxRecDepth 100000 in
theorem zin_wsL_law_r8 : ∀ w ∈ wsL_law_r8, w ∈ lw_tbl := zin_p [369, 370, 371, 372, 85, 374, 375, 376, 377, 132, 135, 138, 141, 379, 380, 381, 382, 195, 196, 198, 383, 384, 385, 386] (by decide +kernel)
set_option maxRecDepth 100000 in
theorem zin_wsL_law_r9 : ∀ w ∈ wsL_law_r9, w ∈ lw_tbl := zin_p [181, 388, 389, 390, 391, 226, 228, 393, 397, 398, 399, 844, 845, 846, 847, 848, 849, 850, 854, 855, 856, 851, 852, 853] (by decide +kernel)
set_option maxRecDepth 100000 in
theorem zin_wsL_law_r10 : ∀ w ∈ wsL_law_r10, w ∈ lw_tbl := zin_p [857, 859, 10, 860, 799, 861, 863, 11, 864, 400, 401, 402, 403, 404, 405, 406, 407, 408, 246, 134, 136, 865, 866, 867] (by decide +kernel)
set_option maxRecDepth 100000 in
theorem zin_wsL_law_r11 : ∀ w ∈ wsL_law_r11, w ∈ lw_tbl := zin_p [868, 869, 870, 871, 872, 409, 410, 411, 412, 244, 99, 87, 418, 102, 413, 414, 415, 416, 417, 873, 874, 875, 876, 880] (by decide +kernel)
set_option maxRecDepth 100000 in
theorem zin_wsL_law_r12 : ∀ w ∈ wsL_law_r12, w ∈ lw_tbl := zin_p [877, 878, 879, 419, 420, 421, 422, 250, 227, 423, 424, 425, 426, 427, 428, 429, 430, 881, 882, 883, 884, 885, 886, 887] (by decide +kernel)
set_option maxRecDepth 100000 in
theorem zin_wsL_law_r13 : ∀ w ∈ wsL_law_r13, w ∈ lw_tbl := zin_p [888, 432, 433, 434, 435, 105, 108, 436, 437, 438, 439, 440, 441, 442, 443, 889, 890, 891, 892, 893, 894, 895, 444, 445] (by decide +kernel)
set_option maxRecDepth 100000 in
theorem zin_wsL_law_r14 : ∀ w ∈ wsL_law_r14, w ∈ lw_tbl := zin_p [446, 447, 448, 449, 450, 451, 452, 453, 454, 455, 456, 457, 458, 459, 461, 463, 0, 464, 86, 77, 80, 896, 897, 898] (by decide +kernel)
set_option maxRecDepth 100000 in
theorem zin_wsL_law_r15 : ∀ w ∈ wsL_law_r15, w ∈ lw_tbl := zin_p [899, 900, 902, 12, 903, 466, 467, 468, 469, 252, 248, 199, 470, 471, 472, 473, 133, 101, 130, 145, 475, 476, 477, 478] (by decide +kernel)
set_option maxRecDepth 100000 in
theorem zin_wsL_law_r16 : ∀ w ∈ wsL_law_r16, w ∈ lw_tbl := zin_p [479, 480, 482, 483, 484, 485, 486, 487, 488, 489, 490, 491, 493, 494, 495, 496, 107, 104, 139, 506, 142, 498, 499, 505] (by decide +kernel)
set_option maxRecDepth 100000 in
theorem zin_wsL_law_r17 : ∀ w ∈ wsL_law_r17, w ∈ lw_tbl := zin_p [500, 501, 502, 503, 504, 507, 508, 509, 510, 511, 512, 516, 526, 518, 519, 520, 521, 522, 523, 524, 525, 527, 528, 529] (by decide +kernel)
set_option maxRecDepth 100000 in
theorem zin_wsL_law_r18 : ∀ w ∈ wsL_law_r18, w ∈ lw_tbl := zin_p [530, 531, 532, 533, 534, 536, 537, 538, 539, 540, 541, 543, 544, 546, 548, 1, 549, 83, 551, 552, 553, 554, 904, 905] (by decide +kernel)
set_option maxRecDepth 100000 in
theorem zin_wsL_law_r19 : ∀ w ∈ wsL_law_r19, w ∈ lw_tbl := zin_p [906, 907, 908, 910, 13, 911, 968, 959, 969, 912, 914, 14, 915, 916, 918, 15, 919, 920, 922, 16, 923, 924, 958, 963] (by decide +kernel)
set_option maxRecDepth 100000 in
theorem zin_wsL_law_r20 : ∀ w ∈ wsL_law_r20, w ∈ lw_tbl := zin_p [925, 927, 17, 928, 929, 931, 18, 932, 957, 933, 934, 935, 936, 937, 938, 939, 940, 941, 942, 943, 944, 945, 946, 947] (by decide +kernel)
set_option maxRecDepth 100000 in
theorem zin_wsL_law_r21 : ∀ w ∈ wsL_law_r21, w ∈ lw_tbl := zin_p [948, 949, 950, 951, 952, 953, 954, 955, 956, 960, 961, 962, 964, 966, 19, 967, 970, 972, 20, 973, 557, 558, 559, 560] (by decide +kernel)
set_option maxRecDepth 100000 in
theorem zin_wsL_law_r22 : ∀ w ∈ wsL_law_r22, w ∈ lw_tbl := zin_p [561, 568, 146, 149, 562, 563, 564, 565, 148, 566, 567, 974, 975, 976, 977, 569, 570, 571, 572, 140, 143, 573, 978, 979] (by decide +kernel)
set_option maxRecDepth 100000 in
theorem zin_wsL_law_r23 : ∀ w ∈ wsL_law_r23, w ∈ lw_tbl := zin_p [980, 981, 574, 575, 576, 577, 191, 184, 578, 579, 580, 581, 582, 583, 584, 585, 982, 983, 984, 985, 586, 587, 588, 589] (by decide +kernel)
set_option maxRecDepth 100000 in
theorem zin_wsL_law_r24 : ∀ w ∈ wsL_law_r24, w ∈ lw_tbl := zin_p [590, 222, 591, 592, 593, 594, 595, 596, 597, 598, 599, 600, 601, 602, 603, 604, 605, 606, 39, 607, 986, 987, 988, 989] (by decide +kernel)
set_option maxRecDepth 100000 in
theorem zin_wsL_law_r25 : ∀ w ∈ wsL_law_r25, w ∈ lw_tbl := zin_p [990, 991, 992, 994, 21, 995, 608, 609, 610, 611, 612, 613, 254, 256, 996, 997, 998, 999, 1000, 614, 615, 616, 617, 197] (by decide +kernel)
set_option maxRecDepth 100000 in
theorem zin_wsL_law_r26 : ∀ w ∈ wsL_law_r26, w ∈ lw_tbl := zin_p [629, 225, 618, 619, 620, 621, 182, 622, 623, 624, 625, 179, 627, 628, 630, 631, 632, 633, 635, 636, 637, 638, 639, 640] (by decide +kernel)
set_option maxRecDepth 100000 in
theorem zin_wsL_law_r27 : ∀ w ∈ wsL_law_r27, w ∈ lw_tbl := zin_p [641, 642, 1001, 1002, 1003, 1004, 1005, 1006, 1008, 22, 1009, 1010, 1012, 23, 1013, 1014, 1016, 24, 1017, 1018, 1020, 25, 1021, 644] (by decide +kernel)
set_option maxRecDepth 100000 in
theorem zin_wsL_law_r28 : ∀ w ∈ wsL_law_r28, w ∈ lw_tbl := zin_p [645, 646, 647, 648, 180, 193, 1022, 1023, 1024, 1025, 1026, 649, 650, 651, 652, 1027, 1028, 1029, 1030, 653, 654, 655, 656, 657] (by decide +kernel)
set_option maxRecDepth 100000 in
theorem zin_wsL_law_r29 : ∀ w ∈ wsL_law_r29, w ∈ lw_tbl := zin_p [658, 659, 660, 664, 224, 183, 666, 668, 661, 662, 663, 665, 667, 1031, 1032, 1033, 1034, 669, 670, 671, 672, 673, 131, 674] (by decide +kernel)
set_option maxRecDepth 100000 in
theorem zin_wsL_law_r30 : ∀ w ∈ wsL_law_r30, w ∈ lw_tbl := zin_p [675, 676, 678, 2, 679, 110, 680, 681, 682, 683, 684, 686, 3, 687, 229, 305, 285, 1035, 1036, 1037, 1038, 804, 688, 689] (by decide +kernel)
set_option maxRecDepth 100000 in
theorem zin_wsL_law_r31 : ∀ w ∈ wsL_law_r31, w ∈ lw_tbl := zin_p [690, 691, 1039, 1040, 1041, 1042, 692, 693, 694, 695, 696, 1043, 1044, 1045, 1046, 697, 698, 699, 700, 701, 702, 704, 4, 705] (by decide +kernel)
set_option maxRecDepth 100000 in
theorem zin_wsL_law_r32 : ∀ w ∈ wsL_law_r32, w ∈ lw_tbl := zin_p [706, 707, 708, 709, 137, 1047, 1048, 1049, 1050, 1051, 1053, 26, 1054, 1055, 1057, 27, 1058, 1059, 1061, 28, 1062, 1063, 1065, 29] (by decide +kernel)
set_option maxRecDepth 100000 in
theorem zin_wsL_law_r33 : ∀ w ∈ wsL_law_r33, w ∈ lw_tbl := zin_p [1066, 710, 711, 712, 713, 714, 1067, 1068, 1069, 1070, 715, 716, 717, 718, 722, 719, 720, 721, 723, 724, 725, 726, 727, 728] (by decide +kernel)
set_option maxRecDepth 100000 in
theorem zin_wsL_law_r34 : ∀ w ∈ wsL_law_r34, w ∈ lw_tbl := zin_p [304, 1071, 1072, 1073, 1074, 1075, 729, 730, 731, 732, 1076, 1077, 1078, 1079, 733, 734, 735, 736, 737, 738, 739, 740, 306, 741] (by decide +kernel)
set_option maxRecDepth 100000 in
theorem zin_wsL_law_r35 : ∀ w ∈ wsL_law_r35, w ∈ lw_tbl := zin_p [742, 744, 5, 745, 307, 763, 746, 748, 6, 749, 750, 752, 7, 753, 754, 756, 8, 757, 762, 758, 760, 9, 761, 764] (by decide +kernel)
set_option maxRecDepth 100000 in
theorem zin_wsL_law_r36 : ∀ w ∈ wsL_law_r36, w ∈ lw_tbl := zin_p [1080, 1081, 1082, 1083, 805, 806, 808, 1084, 1086, 30, 1087, 1088, 1090, 31, 1091, 1092, 1094, 32, 1095, 1096, 1098, 33, 1099, 765] (by decide +kernel)
set_option maxRecDepth 100000 in
theorem zin_wsL_law_r37 : ∀ w ∈ wsL_law_r37, w ∈ lw_tbl := zin_p [766, 767, 768, 303, 78, 81, 84, 1100, 1101, 1102, 1103, 1104, 769, 770, 771, 772, 773, 774, 775, 776, 777, 1105, 1106, 1107] (by decide +kernel)
set_option maxRecDepth 100000 in
theorem zin_wsL_law_r38 : ∀ w ∈ wsL_law_r38, w ∈ lw_tbl := zin_p [1108, 778, 779, 780, 781, 782, 1109, 1110, 1111, 1112, 783, 784, 785, 786, 1113, 1114, 1115, 1116] (by decide +kernel)
set_option maxRecDepth 100000 in
theorem zin_wsX90 : ∀ w ∈ wsX90, w ∈ lw_tbl := zin_p [325, 327, 329, 331, 333] (by decide +kernel)
set_option maxRecDepth 100000 in
theorem zin_wsX100 : ∀ w ∈ wsX100, w ∈ lw_tbl := zin_p [809, 811, 813, 815, 817, 819, 821, 823, 825, 827, 829, 831, 833, 835, 837, 839] (by decide +kernel)
set_option maxRecDepth 100000 in
theorem zin_wsX70 : ∀ w ∈ wsX70, w ∈ lw_tbl := zin_p [257, 259, 261, 263, 265, 267, 269, 271] (by decide +kernel)
set_option maxRecDepth 100000 in
theorem zin_wsX10 : ∀ w ∈ wsX10, w ∈ lw_tbl := zin_p [286, 288, 290] (by decide +kernel)
set_option maxRecDepth 100000 in
theorem zin_wsX40 : ∀ w ∈ wsX40, w ∈ lw_tbl := zin_p [308, 310, 312, 314, 316] (by decide +kernel)
set_option maxRecDepth 100000 in
theorem zin_wsX50 : ∀ w ∈ wsX50, w ∈ lw_tbl := zin_p [111, 113, 115, 117, 119] (by decide +kernel)
set_option maxRecDepth 100000 in
theorem zin_wsX00 : ∀ w ∈ wsX00, w ∈ lw_tbl := zin_p [150, 152, 154, 156, 158, 160, 162] (by decide +kernel)
set_option maxRecDepth 100000 in
theorem zin_wsX80 : ∀ w ∈ wsX80, w ∈ lw_tbl := zin_p [200, 202, 204, 206, 208, 210] (by decide +kernel)
set_option maxRecDepth 100000 in
theorem zin_wsX60 : ∀ w ∈ wsX60, w ∈ lw_tbl := zin_p [230, 232, 234, 236] (by decide +kernel)
set_option maxRecDepth 100000 in
theorem zin_wsX30 : ∀ w ∈ wsX30, w ∈ lw_tbl := zin_p [88, 90, 92, 94] (by decide +kernel)
set_option maxRecDepth 100000 in
theorem zin_wsX20 : ∀ w ∈ wsX20, w ∈ lw_tbl := zin_p [185, 187] (by decide +kernel)
set_option maxRecDepth 100000 in
theorem wsL_law_in : ∀ w ∈ wsL_law, w ∈ lw_tbl := zin_a (zin_a (zin_a (zin_a (zin_a (zin_a (zin_a (zin_a (zin_a (zin_a (zin_a (zin_a (zin_a zin_wsL_law_r1 (zin_a zin_wsL_law_r2 (zin_a zin_wsL_law_r3 (zin_a zin_wsL_law_r4 (zin_a zin_wsL_law_r5 (zin_a zin_wsL_law_r6 (zin_a zin_wsL_law_r7 (zin_a zin_wsL_law_r8 (zin_a zin_wsL_law_r9 (zin_a zin_wsL_law_r10 (zin_a zin_wsL_law_r11 (zin_a zin_wsL_law_r12 (zin_a zin_wsL_law_r13 (zin_a zin_wsL_law_r14 (zin_a zin_wsL_law_r15 (zin_a zin_wsL_law_r16 (zin_a zin_wsL_law_r17 (zin_a zin_wsL_law_r18 (zin_a zin_wsL_law_r19 (zin_a zin_wsL_law_r20 (zin_a zin_wsL_law_r21 (zin_a zin_wsL_law_r22 (zin_a zin_wsL_law_r23 (zin_a zin_wsL_law_r24 (zin_a zin_wsL_law_r25 (zin_a zin_wsL_law_r26 (zin_a zin_wsL_law_r27 (zin_a zin_wsL_law_r28 (zin_a zin_wsL_law_r29 (zin_a zin_wsL_law_r30 (zin_a zin_wsL_law_r31 (zin_a zin_wsL_law_r32 (zin_a zin_wsL_law_r33 (zin_a zin_wsL_law_r34 (zin_a zin_wsL_law_r35 (zin_a zin_wsL_law_r36 (zin_a zin_wsL_law_r37 (zin_wsL_law_r38)))))))))))))))))))))))))))))))))))))) zin_wsX90) zin_wsX100) zin_wsX70) zin_wsX10) zin_wsX40) zin_wsX50) zin_wsX00) zin_wsX80) zin_wsX60) zin_wsX30) zin_wsX20) (fun _ h => absurd h List.not_mem_nil)
theorem inlX0 : ∀ w ∈ wsX00, w ∈ wsL_law := fun _ h => List.mem_append_left _ (List.mem_append_left _ (List.mem_append_left _ (List.mem_append_left _ (List.mem_append_left _ (List.mem_append_right _ h)))))
theorem inX0 : ∀ w ∈ wsX00, w ∈ lw_tbl := fun w h => wsL_law_in w (inlX0 w h)
theorem inlX1 : ∀ w ∈ wsX10, w ∈ wsL_law := fun _ h => List.mem_append_left _ (List.mem_append_left _ (List.mem_append_left _ (List.mem_append_left _ (List.mem_append_left _ (List.mem_append_left _ (List.mem_append_left _ (List.mem_append_left _ (List.mem_append_right _ h))))))))
theorem inX1 : ∀ w ∈ wsX10, w ∈ lw_tbl := fun w h => wsL_law_in w (inlX1 w h)
theorem inlX2 : ∀ w ∈ wsX20, w ∈ wsL_law := fun _ h => List.mem_append_left _ (List.mem_append_right _ h)
theorem inX2 : ∀ w ∈ wsX20, w ∈ lw_tbl := fun w h => wsL_law_in w (inlX2 w h)
theorem inlX3 : ∀ w ∈ wsX30, w ∈ wsL_law := fun _ h => List.mem_append_left _ (List.mem_append_left _ (List.mem_append_right _ h))
theorem inX3 : ∀ w ∈ wsX30, w ∈ lw_tbl := fun w h => wsL_law_in w (inlX3 w h)
theorem inlX4 : ∀ w ∈ wsX40, w ∈ wsL_law := fun _ h => List.mem_append_left _ (List.mem_append_left _ (List.mem_append_left _ (List.mem_append_left _ (List.mem_append_left _ (List.mem_append_left _ (List.mem_append_left _ (List.mem_append_right _ h)))))))
theorem inX4 : ∀ w ∈ wsX40, w ∈ lw_tbl := fun w h => wsL_law_in w (inlX4 w h)
theorem inlX5 : ∀ w ∈ wsX50, w ∈ wsL_law := fun _ h => List.mem_append_left _ (List.mem_append_left _ (List.mem_append_left _ (List.mem_append_left _ (List.mem_append_left _ (List.mem_append_left _ (List.mem_append_right _ h))))))
theorem inX5 : ∀ w ∈ wsX50, w ∈ lw_tbl := fun w h => wsL_law_in w (inlX5 w h)
theorem inlX6 : ∀ w ∈ wsX60, w ∈ wsL_law := fun _ h => List.mem_append_left _ (List.mem_append_left _ (List.mem_append_left _ (List.mem_append_right _ h)))
theorem inX6 : ∀ w ∈ wsX60, w ∈ lw_tbl := fun w h => wsL_law_in w (inlX6 w h)
theorem inlX7 : ∀ w ∈ wsX70, w ∈ wsL_law := fun _ h => List.mem_append_left _ (List.mem_append_left _ (List.mem_append_left _ (List.mem_append_left _ (List.mem_append_left _ (List.mem_append_left _ (List.mem_append_left _ (List.mem_append_left _ (List.mem_append_left _ (List.mem_append_right _ h)))))))))
theorem inX7 : ∀ w ∈ wsX70, w ∈ lw_tbl := fun w h => wsL_law_in w (inlX7 w h)
theorem inlX8 : ∀ w ∈ wsX80, w ∈ wsL_law := fun _ h => List.mem_append_left _ (List.mem_append_left _ (List.mem_append_left _ (List.mem_append_left _ (List.mem_append_right _ h))))
theorem inX8 : ∀ w ∈ wsX80, w ∈ lw_tbl := fun w h => wsL_law_in w (inlX8 w h)
theorem inlX9 : ∀ w ∈ wsX90, w ∈ wsL_law := fun _ h => List.mem_append_left _ (List.mem_append_left _ (List.mem_append_left _ (List.mem_append_left _ (List.mem_append_left _ (List.mem_append_left _ (List.mem_append_left _ (List.mem_append_left _ (List.mem_append_left _ (List.mem_append_left _ (List.mem_append_left _ (List.mem_append_right _ h)))))))))))
theorem inX9 : ∀ w ∈ wsX90, w ∈ lw_tbl := fun w h => wsL_law_in w (inlX9 w h)
theorem inlX10 : ∀ w ∈ wsX100, w ∈ wsL_law := fun _ h => List.mem_append_left _ (List.mem_append_left _ (List.mem_append_left _ (List.mem_append_left _ (List.mem_append_left _ (List.mem_append_left _ (List.mem_append_left _ (List.mem_append_left _ (List.mem_append_left _ (List.mem_append_left _ (List.mem_append_right _ h))))))))))
theorem inX10 : ∀ w ∈ wsX100, w ∈ lw_tbl := fun w h => wsL_law_in w (inlX10 w h)
theorem inJ9 : ∀ w ∈ wsJ90, w ∈ lw_tbl := by decide +kernel
set_option maxRecDepth 20000 in
theorem ggL_law_X9_init : GoodIn wsL_law wsX9_init := goodIn_r _ [9, 10, 11, 12, 13, 14, 15, 16, 17, 18, 19, 20, 21, 22, 23, 24, 25, 26, 27, 28, 29, 30, 31, 32, 33, 34, 35, 36, 37, 38, 39, 40, 41, 42, 43, 44, 45, 46, 47, 48, 49, 50, 51, 52, 53, 54, 55, 56, 57, 58, 59, 60, 61, 62, 63, 64, 65, 66, 67, 68, 69, 70, 71, 72, 73, 74, 75, 76, 77, 78, 79, 80, 81, 82, 83, 84, 85, 86, 87, 88, 89, 90, 91, 92, 93, 94, 95, 96, 97, 98, 99, 100, 101, 102, 103, 104, 105, 106, 107, 108, 927, 928, 929, 930, 931, 932, 933, 934, 906, 907, 908, 909, 910, 935, 936, 937, 938, 939, 940, 941, 942, 943, 944, 945, 946, 947, 948, 949, 950, 951, 952, 953, 954, 955, 956, 957, 958, 959, 960, 961, 962, 963, 964, 965, 966, 967, 968, 969, 970] (by decide +kernel) (by decide +kernel)
set_option maxRecDepth 20000 in
theorem gL_law_X9_init : GoodIn wsL_law (wsX9_init) := ggL_law_X9_init
set_option maxRecDepth 20000 in
theorem ggL_law_X10_init : GoodIn wsL_law wsX10_init := goodIn_r _ [111, 112, 11, 12, 113, 114, 31, 115, 116, 117, 118, 119, 120, 121, 122, 123, 124, 125, 911, 912, 913, 914, 915, 916, 917, 918, 919, 920, 921, 922, 923, 924, 925, 926] (by decide +kernel) (by decide +kernel)
set_option maxRecDepth 20000 in
theorem gL_law_X10_init : GoodIn wsL_law (wsX10_init) := ggL_law_X10_init
set_option maxRecDepth 20000 in
theorem ggL_law_X9_set : GoodIn wsL_law wsX9_set := goodIn_r _ [129, 130, 131, 132, 21, 16, 133, 134, 135, 2, 136, 137, 138, 139, 140, 141, 142, 20, 143, 100, 144, 145, 146, 147, 62, 148, 149, 150, 13, 14, 15, 27, 28, 29, 30, 11, 12, 31, 32, 33, 34, 35, 36, 37, 38, 39, 40, 41, 42, 43, 44, 45, 46, 47, 48, 49, 50, 51, 52, 53, 54, 55, 56, 57, 58, 59, 60, 61, 63, 64, 65, 66, 67, 68, 69, 70, 71, 72, 73, 74, 75, 76, 77, 78, 79, 80, 81, 82, 83, 84, 85, 86, 87, 88, 89, 90, 91, 92, 93, 94, 95, 151, 152, 153, 154, 155, 156, 157, 158, 159, 160, 161, 162, 163, 164, 165, 166, 167, 168, 169, 170, 171, 172, 173, 174, 175, 176, 177, 178, 179, 180, 181, 182, 183, 184, 185, 186, 187, 188, 189, 190, 191, 192, 193, 194, 195, 196, 197, 198, 199, 200, 201, 202, 906, 907, 908, 909, 910, 927, 928, 929, 930, 931, 932, 933, 934, 935, 936, 937, 943, 944, 945, 946, 947, 948, 949, 950, 951, 952, 953, 954, 955, 956, 957, 958, 959, 960, 961, 962, 963, 964, 965, 966, 967, 968, 969, 970] (by decide +kernel) (by decide +kernel)
set_option maxRecDepth 20000 in
theorem gL_law_X9_set : GoodIn wsL_law (wsV RL 13 RX9 yX9_set wsX9_set) := goodIn_app (goodIn_of _ (by decide +kernel)) ggL_law_X9_set
set_option maxRecDepth 20000 in
theorem ggL_law_X10_set : GoodIn wsL_law wsX10_set := goodIn_r _ [206, 114, 207, 208, 5, 209, 210, 211, 212, 213, 214, 215, 216, 217, 218, 219, 220, 118, 119, 115, 221, 222, 223, 224, 911, 912, 913, 914, 915, 916, 917, 918, 919, 920, 921, 922, 923, 924, 925, 926] (by decide +kernel) (by decide +kernel)
set_option maxRecDepth 20000 in
theorem gL_law_X10_set : GoodIn wsL_law (wsV RL 17 RX10 yX10_set wsX10_set) := goodIn_app (goodIn_of _ (by decide +kernel)) ggL_law_X10_set
set_option maxRecDepth 20000 in
theorem ggL_law_X9_start : GoodIn wsL_law wsX9_start := goodIn_r _ [228, 229, 230, 231, 232, 233, 21, 16, 234, 235, 236, 134, 135, 2, 136, 140, 141, 142, 20, 143, 100, 144, 145, 146, 147, 62, 148, 149, 150, 13, 14, 15, 27, 28, 29, 30, 11, 12, 31, 32, 33, 34, 35, 36, 37, 38, 39, 40, 41, 42, 43, 44, 45, 46, 47, 48, 49, 50, 51, 52, 53, 54, 55, 56, 57, 58, 59, 60, 61, 63, 64, 65, 66, 67, 68, 69, 70, 71, 72, 73, 74, 75, 76, 77, 78, 79, 80, 81, 82, 83, 84, 85, 86, 87, 88, 89, 90, 91, 92, 93, 94, 95, 151, 152, 153, 154, 155, 156, 157, 158, 159, 160, 161, 162, 163, 164, 165, 166, 167, 168, 169, 170, 171, 172, 173, 174, 175, 176, 177, 178, 179, 180, 181, 182, 183, 184, 185, 186, 187, 188, 189, 190, 191, 192, 193, 194, 195, 196, 197, 198, 199, 906, 907, 908, 909, 910, 927, 928, 929, 930, 931, 932, 933, 934, 948, 949, 950, 951, 952, 953, 954, 935, 936, 937, 943, 944, 945, 946, 947, 955, 956, 957, 958, 959, 960, 961, 962, 963, 964, 965, 966, 967, 968, 969, 970] (by decide +kernel) (by decide +kernel)
set_option maxRecDepth 20000 in
theorem gL_law_X9_start : GoodIn wsL_law (wsV RL 18 RX9 yX9_start wsX9_start) := goodIn_app (goodIn_of _ (by decide +kernel)) ggL_law_X9_start
set_option maxRecDepth 20000 in
theorem ggL_law_X10_start : GoodIn wsL_law wsX10_start := goodIn_r _ [240, 241, 242, 243, 210, 244, 114, 213, 214, 5, 215, 216, 217, 218, 219, 220, 118, 119, 115, 911, 912, 913, 914, 915, 916, 917, 918, 919, 920, 921, 922, 923, 924, 925, 926] (by decide +kernel) (by decide +kernel)
set_option maxRecDepth 20000 in
theorem gL_law_X10_start : GoodIn wsL_law (wsV RL 21 RX10 yX10_start wsX10_start) := goodIn_app (goodIn_of _ (by decide +kernel)) ggL_law_X10_start
set_option maxRecDepth 20000 in
theorem ggL_law_X9_place : GoodIn wsL_law wsX9_place := goodIn_r _ [248, 16, 249, 250, 251, 21, 252, 253, 254, 255, 2, 256, 257, 258, 134, 135, 136, 140, 141, 142, 20, 143, 100, 144, 145, 146, 147, 62, 148, 149, 150, 13, 14, 15, 27, 28, 29, 30, 11, 12, 31, 32, 33, 34, 35, 36, 37, 38, 39, 40, 41, 42, 43, 44, 45, 46, 47, 48, 49, 50, 51, 52, 53, 54, 55, 56, 57, 58, 59, 60, 61, 63, 64, 65, 66, 67, 68, 69, 70, 71, 72, 73, 74, 75, 76, 77, 78, 79, 80, 81, 82, 83, 84, 85, 86, 87, 88, 89, 90, 91, 92, 93, 94, 95, 151, 152, 153, 154, 155, 156, 157, 158, 159, 160, 161, 162, 163, 164, 165, 166, 167, 168, 169, 170, 171, 172, 173, 174, 175, 176, 177, 178, 179, 180, 181, 182, 183, 184, 185, 186, 187, 188, 189, 190, 191, 192, 193, 194, 195, 196, 197, 198, 199, 906, 907, 908, 909, 910, 927, 928, 929, 930, 931, 932, 933, 934, 943, 944, 945, 946, 947, 965, 966, 967, 968, 935, 936, 937, 948, 949, 950, 951, 952, 953, 954, 955, 956, 957, 958, 959, 960, 961, 962, 963, 964, 969, 970] (by decide +kernel) (by decide +kernel)
set_option maxRecDepth 20000 in
theorem gL_law_X9_place : GoodIn wsL_law (wsV RL 22 RX9 yX9_place wsX9_place) := goodIn_app (goodIn_of _ (by decide +kernel)) ggL_law_X9_place
set_option maxRecDepth 20000 in
theorem ggL_law_X10_place : GoodIn wsL_law wsX10_place := goodIn_r _ [262, 114, 263, 264, 265, 5, 266, 213, 214, 215, 216, 217, 218, 219, 220, 118, 119, 115, 911, 912, 913, 914, 915, 916, 917, 918, 919, 920, 921, 922, 923, 924, 925, 926] (by decide +kernel) (by decide +kernel)
set_option maxRecDepth 20000 in
theorem gL_law_X10_place : GoodIn wsL_law (wsV RL 26 RX10 yX10_place wsX10_place) := goodIn_app (goodIn_of _ (by decide +kernel)) ggL_law_X10_place
set_option maxRecDepth 20000 in
theorem ggL_law_X9_line : GoodIn wsL_law wsX9_line := goodIn_r _ [270, 16, 271, 272, 21, 273, 274, 2, 275, 276, 134, 135, 136, 140, 141, 142, 20, 143, 100, 144, 145, 146, 147, 62, 148, 149, 150, 13, 14, 15, 27, 28, 29, 30, 11, 12, 31, 32, 33, 34, 35, 36, 37, 38, 39, 40, 41, 42, 43, 44, 45, 46, 47, 48, 49, 50, 51, 52, 53, 54, 55, 56, 57, 58, 59, 60, 61, 63, 64, 65, 66, 67, 68, 69, 70, 71, 72, 73, 74, 75, 76, 77, 78, 79, 80, 81, 82, 83, 84, 85, 86, 87, 88, 89, 90, 91, 92, 93, 94, 95, 151, 152, 153, 154, 155, 156, 157, 158, 159, 160, 161, 162, 163, 164, 165, 166, 167, 168, 169, 170, 171, 172, 173, 174, 175, 176, 177, 178, 179, 180, 181, 182, 183, 184, 185, 186, 187, 188, 189, 190, 191, 192, 193, 194, 195, 196, 197, 198, 199, 277, 278, 279, 280, 201, 202, 906, 907, 908, 909, 910, 927, 928, 929, 930, 931, 932, 933, 934, 961, 962, 963, 964, 935, 936, 937, 943, 944, 945, 946, 947, 948, 949, 950, 951, 952, 953, 954, 955, 956, 957, 958, 959, 960, 965, 966, 967, 968, 969, 970] (by decide +kernel) (by decide +kernel)
set_option maxRecDepth 20000 in
theorem gL_law_X9_line : GoodIn wsL_law (wsV RL 27 RX9 yX9_line wsX9_line) := goodIn_app (goodIn_of _ (by decide +kernel)) ggL_law_X9_line
set_option maxRecDepth 20000 in
theorem ggL_law_X10_line : GoodIn wsL_law wsX10_line := goodIn_r _ [284, 114, 285, 286, 5, 287, 288, 213, 214, 215, 216, 217, 218, 219, 220, 118, 119, 115, 911, 912, 913, 914, 915, 916, 917, 918, 919, 920, 921, 922, 923, 924, 925, 926] (by decide +kernel) (by decide +kernel)
set_option maxRecDepth 20000 in
theorem gL_law_X10_line : GoodIn wsL_law (wsV RL 30 RX10 yX10_line wsX10_line) := goodIn_app (goodIn_of _ (by decide +kernel)) ggL_law_X10_line
set_option maxRecDepth 20000 in
theorem ggL_law_X9_steer : GoodIn wsL_law wsX9_steer := goodIn_r _ [292, 21, 16, 249, 250, 251, 293, 294, 273, 274, 2, 275, 276, 134, 135, 136, 295, 296, 297, 298, 140, 141, 142, 20, 143, 100, 144, 145, 146, 147, 62, 148, 149, 150, 13, 14, 15, 27, 28, 29, 30, 11, 12, 31, 32, 33, 34, 35, 36, 37, 38, 39, 40, 41, 42, 43, 44, 45, 46, 47, 48, 49, 50, 51, 52, 53, 54, 55, 56, 57, 58, 59, 60, 61, 63, 64, 65, 66, 67, 68, 69, 70, 71, 72, 73, 74, 75, 76, 77, 78, 79, 80, 81, 82, 83, 84, 85, 86, 87, 88, 89, 90, 91, 92, 93, 94, 95, 151, 152, 153, 154, 155, 156, 157, 158, 159, 160, 161, 162, 163, 164, 165, 166, 167, 168, 169, 170, 171, 172, 173, 174, 175, 176, 177, 178, 179, 180, 181, 182, 183, 184, 185, 186, 187, 188, 189, 190, 191, 192, 193, 194, 195, 196, 197, 198, 199, 299, 300, 301, 302, 906, 907, 908, 909, 910, 927, 928, 929, 930, 931, 932, 933, 934, 943, 944, 945, 946, 947, 965, 966, 967, 968, 935, 936, 937, 948, 949, 950, 951, 952, 953, 954, 955, 956, 957, 958, 959, 960, 961, 962, 963, 964, 969, 970] (by decide +kernel) (by decide +kernel)
set_option maxRecDepth 20000 in
theorem gL_law_X9_steer : GoodIn wsL_law (wsV RL 31 RX9 yX9_steer wsX9_steer) := goodIn_app (goodIn_of _ (by decide +kernel)) ggL_law_X9_steer
set_option maxRecDepth 20000 in
theorem ggL_law_X10_steer : GoodIn wsL_law wsX10_steer := goodIn_r _ [306, 114, 285, 286, 5, 287, 288, 213, 214, 215, 307, 308, 309, 216, 217, 218, 219, 220, 118, 119, 115, 911, 912, 913, 914, 915, 916, 917, 918, 919, 920, 921, 922, 923, 924, 925, 926] (by decide +kernel) (by decide +kernel)
set_option maxRecDepth 20000 in
theorem gL_law_X10_steer : GoodIn wsL_law (wsV RL 34 RX10 yX10_steer wsX10_steer) := goodIn_app (goodIn_of _ (by decide +kernel)) ggL_law_X10_steer
set_option maxRecDepth 20000 in
theorem ggL_law_X9_leg : GoodIn wsL_law wsX9_leg := goodIn_r _ [313, 16, 249, 250, 251, 21, 273, 274, 2, 275, 276, 134, 135, 136, 295, 296, 297, 298, 314, 315, 316, 317, 140, 141, 142, 20, 143, 100, 144, 145, 146, 147, 62, 148, 149, 150, 13, 14, 15, 27, 28, 29, 30, 11, 12, 31, 32, 33, 34, 35, 36, 37, 38, 39, 40, 41, 42, 43, 44, 45, 46, 47, 48, 49, 50, 51, 52, 53, 54, 55, 56, 57, 58, 59, 60, 61, 63, 64, 65, 66, 67, 68, 69, 70, 71, 72, 73, 74, 75, 76, 77, 78, 79, 80, 81, 82, 83, 84, 85, 86, 87, 88, 89, 90, 91, 92, 93, 94, 95, 151, 152, 153, 154, 155, 156, 157, 158, 159, 160, 161, 162, 163, 164, 165, 166, 167, 168, 169, 170, 171, 172, 173, 174, 175, 176, 177, 178, 179, 180, 181, 182, 183, 184, 185, 186, 187, 188, 189, 190, 191, 192, 193, 194, 195, 196, 197, 198, 199, 318, 319, 320, 321, 322, 323, 324, 325, 201, 202, 326, 327, 328, 329, 330, 331, 332, 138, 139, 906, 907, 908, 909, 910, 927, 928, 929, 930, 931, 932, 933, 934, 943, 944, 945, 946, 947, 965, 966, 967, 968, 935, 936, 937, 948, 949, 950, 951, 952, 953, 954, 955, 956, 957, 958, 959, 960, 961, 962, 963, 964, 969, 970] (by decide +kernel) (by decide +kernel)
set_option maxRecDepth 20000 in
theorem gL_law_X9_leg : GoodIn wsL_law (wsV RL 35 RX9 yX9_leg wsX9_leg) := goodIn_app (goodIn_of _ (by decide +kernel)) ggL_law_X9_leg
set_option maxRecDepth 20000 in
theorem ggL_law_X10_leg : GoodIn wsL_law wsX10_leg := goodIn_r _ [336, 114, 285, 286, 5, 287, 288, 213, 214, 215, 307, 308, 309, 216, 217, 218, 219, 220, 118, 119, 115, 337, 338, 339, 340, 911, 912, 913, 914, 915, 916, 917, 918, 919, 920, 921, 922, 923, 924, 925, 926] (by decide +kernel) (by decide +kernel)
set_option maxRecDepth 20000 in
theorem gL_law_X10_leg : GoodIn wsL_law (wsV RL 39 RX10 yX10_leg wsX10_leg) := goodIn_app (goodIn_of _ (by decide +kernel)) ggL_law_X10_leg
set_option maxRecDepth 20000 in
theorem ggL_law_X9_pass : GoodIn wsL_law wsX9_pass := goodIn_r _ [344, 16, 345, 232, 21, 346, 347, 314, 315, 2, 316, 317, 134, 135, 136, 140, 141, 142, 20, 143, 100, 144, 145, 146, 147, 62, 148, 149, 150, 13, 14, 15, 27, 28, 29, 30, 11, 12, 31, 32, 33, 34, 35, 36, 37, 38, 39, 40, 41, 42, 43, 44, 45, 46, 47, 48, 49, 50, 51, 52, 53, 54, 55, 56, 57, 58, 59, 60, 61, 63, 64, 65, 66, 67, 68, 69, 70, 71, 72, 73, 74, 75, 76, 77, 78, 79, 80, 81, 82, 83, 84, 85, 86, 87, 88, 89, 90, 91, 92, 93, 94, 95, 151, 152, 153, 154, 155, 156, 157, 158, 159, 160, 161, 162, 163, 164, 165, 166, 167, 168, 169, 170, 171, 172, 173, 174, 175, 176, 177, 178, 179, 180, 181, 182, 183, 184, 185, 186, 187, 188, 189, 190, 191, 192, 193, 194, 195, 196, 197, 198, 199, 348, 349, 350, 351, 352, 353, 354, 355, 356, 357, 358, 359, 360, 361, 362, 363, 364, 365, 366, 367, 368, 369, 370, 371, 138, 139, 372, 373, 374, 375, 376, 377, 378, 379, 380, 381, 382, 383, 384, 385, 386, 387, 388, 389, 390, 391, 392, 393, 394, 395, 396, 397, 398, 399, 400, 401, 402, 403, 404, 405, 406, 407, 408, 409, 410, 411, 412, 413, 201, 202, 414, 415, 416, 417, 418, 419, 420, 330, 421, 422, 423, 424, 425, 426, 427, 428, 429, 326, 327, 328, 329, 331, 332, 906, 907, 908, 909, 910, 927, 928, 929, 930, 931, 932, 933, 934, 955, 956, 957, 958, 959, 960, 935, 936, 937, 943, 944, 945, 946, 947, 948, 949, 950, 951, 952, 953, 954, 961, 962, 963, 964, 965, 966, 967, 968, 969, 970] (by decide +kernel) (by decide +kernel)
set_option maxRecDepth 20000 in
theorem gL_law_X9_pass : GoodIn wsL_law (wsV RL 40 RX9 yX9_pass wsX9_pass) := goodIn_app (goodIn_of _ (by decide +kernel)) ggL_law_X9_pass
set_option maxRecDepth 20000 in
theorem ggL_law_X10_pass : GoodIn wsL_law wsX10_pass := goodIn_r _ [433, 114, 210, 213, 214, 5, 215, 216, 217, 218, 219, 220, 118, 119, 115, 434, 435, 436, 437, 438, 439, 440, 441, 442, 443, 444, 445, 446, 447, 448, 449, 450, 451, 452, 453, 454, 242, 455, 221, 222, 223, 224, 456, 457, 458, 459, 263, 460, 461, 462, 463, 464, 465, 466, 467, 468, 469, 470, 471, 472, 473, 474, 475, 476, 477, 478, 479, 480, 481, 482, 483, 484, 485, 486, 487, 488, 489, 490, 491, 492, 493, 494, 495, 496, 497, 498, 499, 911, 912, 913, 914, 915, 916, 917, 918, 919, 920, 921, 922, 923, 924, 925, 926] (by decide +kernel) (by decide +kernel)
set_option maxRecDepth 20000 in
theorem gL_law_X10_pass : GoodIn wsL_law (wsV RL 43 RX10 yX10_pass wsX10_pass) := goodIn_app (goodIn_of _ (by decide +kernel)) ggL_law_X10_pass
set_option maxRecDepth 20000 in
theorem ggL_law_X9_damp : GoodIn wsL_law wsX9_damp := goodIn_r _ [503, 504, 16, 505, 133, 21, 234, 506, 345, 507, 134, 135, 2, 136, 508, 509, 510, 15, 511, 40, 512, 513, 514, 155, 137, 138, 139, 140, 141, 142, 20, 143, 100, 144, 145, 146, 147, 62, 148, 149, 150, 13, 14, 27, 28, 29, 30, 11, 12, 31, 32, 33, 34, 35, 36, 37, 38, 39, 41, 42, 43, 44, 45, 46, 47, 48, 49, 50, 51, 52, 53, 54, 55, 56, 57, 58, 59, 60, 61, 63, 64, 65, 66, 67, 68, 69, 70, 71, 72, 73, 74, 75, 76, 77, 78, 79, 80, 81, 82, 83, 84, 85, 86, 87, 88, 89, 90, 91, 92, 93, 94, 95, 151, 152, 153, 154, 156, 157, 158, 159, 160, 161, 162, 163, 164, 165, 166, 167, 168, 169, 170, 171, 172, 173, 174, 175, 176, 177, 178, 179, 180, 181, 182, 183, 184, 185, 186, 187, 188, 189, 190, 191, 192, 193, 194, 195, 196, 197, 198, 199, 906, 907, 908, 909, 910, 927, 928, 929, 930, 931, 932, 933, 934, 948, 949, 950, 951, 952, 953, 954, 935, 936, 937, 943, 944, 945, 946, 947, 955, 956, 957, 958, 959, 960, 961, 962, 963, 964, 965, 966, 967, 968, 969, 970] (by decide +kernel) (by decide +kernel)
set_option maxRecDepth 20000 in
theorem gL_law_X9_damp : GoodIn wsL_law (wsV RL 44 RX9 yX9_damp wsX9_damp) := goodIn_app (goodIn_of _ (by decide +kernel)) ggL_law_X9_damp
set_option maxRecDepth 20000 in
theorem ggL_law_X10_damp : GoodIn wsL_law wsX10_damp := goodIn_r _ [518, 114, 213, 214, 5, 215, 221, 222, 223, 224, 216, 217, 218, 219, 220, 118, 119, 115, 911, 912, 913, 914, 915, 916, 917, 918, 919, 920, 921, 922, 923, 924, 925, 926] (by decide +kernel) (by decide +kernel)
set_option maxRecDepth 20000 in
theorem gL_law_X10_damp : GoodIn wsL_law (wsV RL 47 RX10 yX10_damp wsX10_damp) := goodIn_app (goodIn_of _ (by decide +kernel)) ggL_law_X10_damp
set_option maxRecDepth 20000 in
theorem ggL_law_X9_correct : GoodIn wsL_law wsX9_correct := goodIn_r _ [522, 21, 16, 234, 523, 524, 254, 255, 2, 256, 257, 258, 134, 135, 136, 295, 296, 297, 298, 140, 141, 142, 20, 143, 100, 144, 145, 146, 147, 62, 148, 149, 150, 13, 14, 15, 27, 28, 29, 30, 11, 12, 31, 32, 33, 34, 35, 36, 37, 38, 39, 40, 41, 42, 43, 44, 45, 46, 47, 48, 49, 50, 51, 52, 53, 54, 55, 56, 57, 58, 59, 60, 61, 63, 64, 65, 66, 67, 68, 69, 70, 71, 72, 73, 74, 75, 76, 77, 78, 79, 80, 81, 82, 83, 84, 85, 86, 87, 88, 89, 90, 91, 92, 93, 94, 95, 151, 152, 153, 154, 155, 156, 157, 158, 159, 160, 161, 162, 163, 164, 165, 166, 167, 168, 169, 170, 171, 172, 173, 174, 175, 176, 177, 178, 179, 180, 181, 182, 183, 184, 185, 186, 187, 188, 189, 190, 191, 192, 193, 194, 195, 196, 197, 198, 199, 525, 373, 374, 375, 353, 376, 377, 378, 379, 380, 138, 139, 381, 382, 383, 384, 356, 357, 358, 359, 360, 361, 366, 367, 368, 369, 370, 371, 385, 362, 363, 364, 365, 386, 387, 388, 906, 907, 908, 909, 910, 927, 928, 929, 930, 931, 932, 933, 934, 948, 949, 950, 951, 952, 953, 954, 935, 936, 937, 943, 944, 945, 946, 947, 955, 956, 957, 958, 959, 960, 961, 962, 963, 964, 965, 966, 967, 968, 969, 970] (by decide +kernel) (by decide +kernel)
set_option maxRecDepth 20000 in
theorem gL_law_X9_correct : GoodIn wsL_law (wsV RL 48 RX9 yX9_correct wsX9_correct) := goodIn_app (goodIn_of _ (by decide +kernel)) ggL_law_X9_correct
set_option maxRecDepth 20000 in
theorem ggL_law_X10_correct : GoodIn wsL_law wsX10_correct := goodIn_r _ [529, 114, 264, 265, 5, 266, 213, 214, 215, 307, 308, 309, 216, 217, 218, 219, 220, 118, 119, 115, 456, 457, 458, 459, 263, 445, 446, 447, 448, 441, 442, 443, 444, 460, 461, 462, 463, 464, 221, 222, 223, 224, 465, 466, 467, 468, 469, 470, 471, 472, 473, 474, 475, 476, 477, 478, 479, 480, 481, 482, 483, 484, 485, 486, 487, 488, 911, 912, 913, 914, 915, 916, 917, 918, 919, 920, 921, 922, 923, 924, 925, 926] (by decide +kernel) (by decide +kernel)
set_option maxRecDepth 20000 in
theorem gL_law_X10_correct : GoodIn wsL_law (wsV RL 51 RX10 yX10_correct wsX10_correct) := goodIn_app (goodIn_of _ (by decide +kernel)) ggL_law_X10_correct
set_option maxRecDepth 20000 in
theorem ggL_law_X9_forgetSwings : GoodIn wsL_law wsX9_forgetSwings := goodIn_r _ [533, 21, 16, 346, 534, 535, 140, 141, 142, 20, 143, 100, 144, 145, 146, 147, 62, 148, 149, 2, 150, 13, 14, 15, 27, 28, 29, 30, 11, 12, 31, 32, 33, 34, 35, 36, 37, 38, 39, 40, 41, 42, 43, 44, 45, 46, 47, 48, 49, 50, 51, 52, 53, 54, 55, 56, 57, 58, 59, 60, 61, 63, 64, 65, 66, 67, 68, 69, 70, 71, 72, 73, 74, 75, 76, 77, 78, 79, 80, 81, 82, 83, 84, 85, 86, 87, 88, 89, 90, 91, 92, 93, 94, 95, 151, 152, 153, 154, 155, 156, 157, 158, 159, 160, 161, 162, 163, 164, 165, 166, 167, 168, 169, 170, 171, 172, 173, 174, 175, 176, 177, 178, 179, 180, 181, 182, 183, 184, 185, 186, 187, 188, 189, 190, 191, 192, 193, 194, 195, 196, 197, 198, 199, 536, 537, 538, 539, 540, 541, 542, 543, 906, 907, 908, 909, 910, 927, 928, 929, 930, 931, 932, 933, 934, 955, 956, 957, 958, 959, 960, 969, 970, 935, 936, 937, 943, 944, 945, 946, 947, 948, 949, 950, 951, 952, 953, 954, 961, 962, 963, 964, 965, 966, 967, 968] (by decide +kernel) (by decide +kernel)
set_option maxRecDepth 20000 in
theorem gL_law_X9_forgetSwings : GoodIn wsL_law (wsV RL 52 RX9 yX9_forgetSwings wsX9_forgetSwings) := goodIn_app (goodIn_of _ (by decide +kernel)) ggL_law_X9_forgetSwings
set_option maxRecDepth 20000 in
theorem ggL_law_X10_forgetSwings : GoodIn wsL_law wsX10_forgetSwings := goodIn_r _ [547, 114, 216, 217, 218, 5, 219, 220, 118, 119, 115, 911, 912, 913, 914, 915, 916, 917, 918, 919, 920, 921, 922, 923, 924, 925, 926] (by decide +kernel) (by decide +kernel)
set_option maxRecDepth 20000 in
theorem gL_law_X10_forgetSwings : GoodIn wsL_law (wsV RL 56 RX10 yX10_forgetSwings wsX10_forgetSwings) := goodIn_app (goodIn_of _ (by decide +kernel)) ggL_law_X10_forgetSwings
set_option maxRecDepth 20000 in
theorem ggL_law_X9_observe : GoodIn wsL_law wsX9_observe := goodIn_r _ [551, 16, 271, 272, 21, 234, 235, 552, 553, 365, 134, 135, 2, 136, 140, 141, 142, 20, 143, 100, 144, 145, 146, 147, 62, 148, 149, 150, 13, 14, 15, 27, 28, 29, 30, 11, 12, 31, 32, 33, 34, 35, 36, 37, 38, 39, 40, 41, 42, 43, 44, 45, 46, 47, 48, 49, 50, 51, 52, 53, 54, 55, 56, 57, 58, 59, 60, 61, 63, 64, 65, 66, 67, 68, 69, 70, 71, 72, 73, 74, 75, 76, 77, 78, 79, 80, 81, 82, 83, 84, 85, 86, 87, 88, 89, 90, 91, 92, 93, 94, 95, 151, 152, 153, 154, 155, 156, 157, 158, 159, 160, 161, 162, 163, 164, 165, 166, 167, 168, 169, 170, 171, 172, 173, 174, 175, 176, 177, 178, 179, 180, 181, 182, 183, 184, 185, 186, 187, 188, 189, 190, 191, 192, 193, 194, 195, 196, 197, 198, 199, 554, 555, 556, 557, 558, 559, 560, 561, 562, 138, 139, 201, 202, 563, 564, 565, 566, 567, 410, 411, 412, 413, 137, 568, 569, 570, 571, 906, 907, 908, 909, 910, 927, 928, 929, 930, 931, 932, 933, 934, 961, 962, 963, 964, 948, 949, 950, 951, 952, 953, 954, 935, 936, 937, 943, 944, 945, 946, 947, 955, 956, 957, 958, 959, 960, 965, 966, 967, 968, 969, 970] (by decide +kernel) (by decide +kernel)
set_option maxRecDepth 20000 in
theorem gL_law_X9_observe : GoodIn wsL_law (wsV RL 57 RX9 yX9_observe wsX9_observe) := goodIn_app (goodIn_of _ (by decide +kernel)) ggL_law_X9_observe
set_option maxRecDepth 20000 in
theorem ggL_law_X10_observe : GoodIn wsL_law wsX10_observe := goodIn_r _ [575, 114, 576, 577, 488, 216, 217, 218, 5, 219, 220, 118, 119, 115, 221, 222, 223, 224, 578, 579, 580, 581, 911, 912, 913, 914, 915, 916, 917, 918, 919, 920, 921, 922, 923, 924, 925, 926] (by decide +kernel) (by decide +kernel)
set_option maxRecDepth 20000 in
theorem gL_law_X10_observe : GoodIn wsL_law (wsV RL 60 RX10 yX10_observe wsX10_observe) := goodIn_app (goodIn_of _ (by decide +kernel)) ggL_law_X10_observe
set_option maxRecDepth 20000 in
theorem ggL_law_X9_guess : GoodIn wsL_law wsX9_guess := goodIn_r _ [585, 586, 587, 21, 16, 358, 359, 62, 360, 588, 589, 134, 135, 2, 136, 140, 141, 142, 20, 143, 100, 144, 145, 146, 147, 148, 149, 150, 13, 14, 15, 27, 28, 29, 30, 11, 12, 31, 32, 33, 34, 35, 36, 37, 38, 39, 40, 41, 42, 43, 44, 45, 46, 47, 48, 49, 50, 51, 52, 53, 54, 55, 56, 57, 58, 59, 60, 61, 63, 64, 65, 66, 67, 68, 69, 70, 71, 72, 73, 74, 75, 76, 77, 78, 79, 80, 81, 82, 83, 84, 85, 86, 87, 88, 89, 90, 91, 92, 93, 94, 95, 151, 152, 153, 154, 155, 156, 157, 158, 159, 160, 161, 162, 163, 164, 165, 166, 167, 168, 169, 170, 171, 172, 173, 174, 175, 176, 177, 178, 179, 180, 181, 182, 183, 184, 185, 186, 187, 188, 189, 190, 191, 192, 193, 194, 195, 196, 197, 198, 199, 525, 373, 374, 375, 353, 376, 377, 378, 379, 380, 138, 139, 381, 382, 383, 384, 356, 357, 361, 366, 367, 368, 369, 370, 371, 385, 362, 363, 364, 365, 386, 387, 388, 906, 907, 908, 909, 910, 927, 928, 929, 930, 931, 932, 933, 934, 935, 936, 937, 943, 944, 945, 946, 947, 948, 949, 950, 951, 952, 953, 954, 955, 956, 957, 958, 959, 960, 961, 962, 963, 964, 965, 966, 967, 968, 969, 970] (by decide +kernel) (by decide +kernel)
set_option maxRecDepth 20000 in
theorem gL_law_X9_guess : GoodIn wsL_law (wsV RL 61 RX9 yX9_guess wsX9_guess) := goodIn_app (goodIn_of _ (by decide +kernel)) ggL_law_X9_guess
set_option maxRecDepth 20000 in
theorem ggL_law_X10_guess : GoodIn wsL_law wsX10_guess := goodIn_r _ [593, 594, 455, 114, 213, 214, 5, 215, 216, 217, 218, 219, 220, 118, 119, 115, 456, 457, 458, 459, 263, 445, 446, 447, 448, 441, 442, 443, 444, 460, 461, 462, 463, 464, 221, 222, 223, 224, 465, 466, 467, 468, 469, 470, 471, 472, 473, 474, 475, 476, 477, 478, 479, 480, 481, 482, 483, 484, 485, 486, 487, 488, 911, 912, 913, 914, 915, 916, 917, 918, 919, 920, 921, 922, 923, 924, 925, 926] (by decide +kernel) (by decide +kernel)
set_option maxRecDepth 20000 in
theorem gL_law_X10_guess : GoodIn wsL_law (wsV RL 64 RX10 yX10_guess wsX10_guess) := goodIn_app (goodIn_of _ (by decide +kernel)) ggL_law_X10_guess
set_option maxRecDepth 20000 in
theorem ggL_law_X9_compass : GoodIn wsL_law wsX9_compass := goodIn_r _ [598, 16, 234, 235, 236, 346, 599, 600, 534, 535, 271, 601, 249, 253, 523, 589, 233, 525, 373, 374, 15, 375, 32, 36, 353, 376, 377, 40, 378, 379, 380, 138, 2, 139, 381, 382, 383, 384, 356, 357, 358, 359, 62, 360, 361, 366, 367, 368, 369, 370, 371, 385, 362, 363, 364, 365, 386, 387, 388, 602, 603, 604, 43, 605, 80, 606, 607, 608, 609, 610, 611, 612, 613, 614, 615, 616, 617, 82, 81, 618, 619, 620, 621, 622, 623, 624, 79, 625, 192, 88, 906, 907, 908, 909, 910, 927, 928, 929, 930, 931, 932, 933, 934, 948, 949, 950, 951, 952, 953, 954, 955, 956, 957, 958, 959, 960, 969, 970, 961, 962, 963, 964, 943, 944, 945, 946, 947] (by decide +kernel) (by decide +kernel)
set_option maxRecDepth 20000 in
theorem gL_law_X9_compass : GoodIn wsL_law (wsV RL 65 RX9 yX9_compass wsX9_compass) := goodIn_app (goodIn_of _ (by decide +kernel)) ggL_law_X9_compass
set_option maxRecDepth 20000 in
theorem ggL_law_X10_compass : GoodIn wsL_law wsX10_compass := goodIn_r _ [629, 114, 630, 244, 456, 457, 458, 5, 459, 263, 445, 446, 447, 448, 441, 442, 443, 444, 460, 461, 462, 463, 464, 221, 222, 223, 224, 465, 466, 467, 468, 469, 470, 471, 472, 473, 474, 475, 476, 477, 478, 479, 480, 481, 482, 483, 484, 485, 486, 487, 488, 631, 632, 633, 634, 635, 636, 637, 638, 639, 640, 641, 642, 115, 643, 644, 645, 646, 911, 912, 913, 914, 915, 916, 917, 918, 919, 920, 921, 922, 923, 924, 925, 926] (by decide +kernel) (by decide +kernel)
set_option maxRecDepth 20000 in
theorem gL_law_X10_compass : GoodIn wsL_law (wsV RL 68 RX10 yX10_compass wsX10_compass) := goodIn_app (goodIn_of _ (by decide +kernel)) ggL_law_X10_compass
set_option maxRecDepth 20000 in
theorem ggL_law_X9_turn : GoodIn wsL_law wsX9_turn := goodIn_r _ [650, 16, 346, 534, 535, 651, 652, 653, 233, 134, 135, 2, 136, 137, 138, 139, 906, 907, 908, 909, 910, 927, 928, 929, 930, 931, 932, 933, 934, 955, 956, 957, 958, 959, 960, 969, 970] (by decide +kernel) (by decide +kernel)
set_option maxRecDepth 20000 in
theorem gL_law_X9_turn : GoodIn wsL_law (wsV RL 69 RX9 yX9_turn wsX9_turn) := goodIn_app (goodIn_of _ (by decide +kernel)) ggL_law_X9_turn
set_option maxRecDepth 20000 in
theorem ggL_law_X10_turn : GoodIn wsL_law wsX10_turn := goodIn_r _ [657, 114, 658, 244, 213, 214, 5, 215, 911, 912, 913, 914, 915, 916, 917, 918, 919, 920, 921, 922, 923, 924, 925, 926] (by decide +kernel) (by decide +kernel)
set_option maxRecDepth 20000 in
theorem gL_law_X10_turn : GoodIn wsL_law (wsV RL 72 RX10 yX10_turn wsX10_turn) := goodIn_app (goodIn_of _ (by decide +kernel)) ggL_law_X10_turn
set_option maxRecDepth 20000 in
theorem ggL_law_X9_check : GoodIn wsL_law wsX9_check := goodIn_r _ [662, 16, 271, 601, 535, 651, 652, 134, 135, 2, 136, 137, 138, 139, 906, 907, 908, 909, 910, 927, 928, 929, 930, 931, 932, 933, 934, 961, 962, 963, 964, 969, 970] (by decide +kernel) (by decide +kernel)
set_option maxRecDepth 20000 in
theorem gL_law_X9_check : GoodIn wsL_law (wsV RL 73 RX9 yX9_check wsX9_check) := goodIn_app (goodIn_of _ (by decide +kernel)) ggL_law_X9_check
set_option maxRecDepth 20000 in
theorem ggL_law_X10_check : GoodIn wsL_law wsX10_check := goodIn_r _ [666, 114, 658, 911, 912, 913, 914, 915, 916, 917, 918, 919, 920, 921, 922, 923, 924, 925, 926] (by decide +kernel) (by decide +kernel)
set_option maxRecDepth 20000 in
theorem gL_law_X10_check : GoodIn wsL_law (wsV RL 76 RX10 yX10_check wsX10_check) := goodIn_app (goodIn_of _ (by decide +kernel)) ggL_law_X10_check
set_option maxRecDepth 20000 in
theorem ggL_law_X9_reason : GoodIn wsL_law wsX9_reason := goodIn_r _ [670, 16, 671, 672, 673, 15, 674, 44, 32, 675, 359, 62, 360, 48, 676, 677, 678, 679, 40, 355, 680, 603, 604, 43, 605, 80, 606, 681, 608, 609, 610, 611, 612, 613, 138, 2, 139, 682, 619, 620, 621, 683, 615, 616, 617, 82, 81, 387, 388, 684, 623, 624, 79, 625, 192, 88, 906, 907, 908, 909, 910, 927, 928, 929, 930, 931, 932, 933, 934, 961, 962, 963, 964, 969, 970, 948, 949, 950, 951, 952, 953, 954, 955, 956, 957, 958, 959, 960] (by decide +kernel) (by decide +kernel)
set_option maxRecDepth 20000 in
theorem gL_law_X9_reason : GoodIn wsL_law (wsV RL 77 RX9 yX9_reason wsX9_reason) := goodIn_app (goodIn_of _ (by decide +kernel)) ggL_law_X9_reason
set_option maxRecDepth 20000 in
theorem ggL_law_X10_reason : GoodIn wsL_law wsX10_reason := goodIn_r _ [688, 114, 635, 636, 637, 5, 638, 471, 472, 473, 221, 222, 223, 224, 631, 632, 633, 634, 639, 640, 641, 642, 115, 643, 644, 645, 646, 911, 912, 913, 914, 915, 916, 917, 918, 919, 920, 921, 922, 923, 924, 925, 926] (by decide +kernel) (by decide +kernel)
set_option maxRecDepth 20000 in
theorem gL_law_X10_reason : GoodIn wsL_law (wsV RL 80 RX10 yX10_reason wsX10_reason) := goodIn_app (goodIn_of _ (by decide +kernel)) ggL_law_X10_reason
set_option maxRecDepth 20000 in
theorem ggL_law_X9_state : GoodIn wsL_law wsX9_state := goodIn_r _ [692, 130, 693, 16, 234, 694, 695, 696, 133, 134, 135, 2, 136, 137, 138, 139, 697, 698, 699, 700, 345, 249, 293, 294, 250, 251, 701, 506, 702, 703, 704, 35, 705, 55, 330, 425, 508, 509, 510, 15, 511, 40, 512, 513, 514, 155, 706, 707, 708, 709, 346, 534, 535, 347, 271, 601, 710, 588, 524, 272, 26, 711, 21, 712, 906, 907, 908, 909, 910, 927, 928, 929, 930, 931, 932, 933, 934, 948, 949, 950, 951, 952, 953, 954, 943, 944, 945, 946, 947, 965, 966, 967, 968, 955, 956, 957, 958, 959, 960, 969, 970, 961, 962, 963, 964, 938, 939, 940, 941, 942, 935, 936, 937] (by decide +kernel) (by decide +kernel)
set_option maxRecDepth 20000 in
theorem gL_law_X9_state : GoodIn wsL_law (wsV RL 81 RX9 yX9_state wsX9_state) := goodIn_app (goodIn_of _ (by decide +kernel)) ggL_law_X9_state
set_option maxRecDepth 20000 in
theorem ggL_law_X10_state : GoodIn wsL_law wsX10_state := goodIn_r _ [716, 114, 717, 220, 213, 214, 5, 215, 221, 222, 223, 224, 441, 442, 443, 444, 445, 446, 447, 448, 911, 912, 913, 914, 915, 916, 917, 918, 919, 920, 921, 922, 923, 924, 925, 926] (by decide +kernel) (by decide +kernel)
set_option maxRecDepth 20000 in
theorem gL_law_X10_state : GoodIn wsL_law (wsV RL 84 RX10 yX10_state wsX10_state) := goodIn_app (goodIn_of _ (by decide +kernel)) ggL_law_X10_state
set_option maxRecDepth 20000 in
theorem ggL_law_X9_wave : GoodIn wsL_law wsX9_wave := goodIn_r _ [721, 233, 273, 274, 2, 275, 276, 134, 135, 136, 366, 367, 368, 369, 370, 371, 385, 362, 363, 364, 365] (by decide +kernel) (by decide +kernel)
set_option maxRecDepth 20000 in
theorem gL_law_X9_wave : GoodIn wsL_law (wsV RL 85 RX9 yX9_wave wsX9_wave) := goodIn_app (goodIn_of _ (by decide +kernel)) ggL_law_X9_wave
set_option maxRecDepth 20000 in
theorem ggL_law_X10_wave : GoodIn wsL_law wsX10_wave := goodIn_r _ [725, 244, 285, 286, 5, 287, 288, 213, 214, 215, 474, 475, 476, 477, 478, 479, 480, 481, 485, 486, 487, 488] (by decide +kernel) (by decide +kernel)
set_option maxRecDepth 20000 in
theorem gL_law_X10_wave : GoodIn wsL_law (wsV RL 88 RX10 yX10_wave wsX10_wave) := goodIn_app (goodIn_of _ (by decide +kernel)) ggL_law_X10_wave
set_option maxRecDepth 20000 in
theorem ggL_law_X9_restAt : GoodIn wsL_law wsX9_restAt := goodIn_r _ [729, 233, 16, 133, 252, 254, 255, 2, 256, 257, 258, 134, 135, 136, 295, 296, 297, 298, 273, 274, 275, 276, 137, 138, 139, 730, 381, 382, 383, 384, 356, 357, 358, 359, 62, 360, 361, 366, 367, 368, 369, 370, 371, 385, 362, 363, 364, 365, 386, 387, 388, 906, 907, 908, 909, 910, 927, 928, 929, 930, 931, 932, 933, 934] (by decide +kernel) (by decide +kernel)
set_option maxRecDepth 20000 in
theorem gL_law_X9_restAt : GoodIn wsL_law (wsV RL 89 RX9 yX9_restAt wsX9_restAt) := goodIn_app (goodIn_of _ (by decide +kernel)) ggL_law_X9_restAt
set_option maxRecDepth 20000 in
theorem ggL_law_X10_restAt : GoodIn wsL_law wsX10_restAt := goodIn_r _ [734, 263, 244, 264, 265, 5, 266, 213, 214, 215, 307, 308, 309, 285, 286, 287, 288, 460, 461, 462, 463, 464, 221, 222, 223, 224, 114, 465, 466, 467, 468, 469, 470, 471, 472, 473, 474, 475, 476, 477, 478, 479, 480, 481, 482, 483, 484, 485, 486, 487, 488, 911, 912, 913, 914, 915, 916, 917, 918, 919, 920, 921, 922, 923, 924, 925, 926] (by decide +kernel) (by decide +kernel)
set_option maxRecDepth 20000 in
theorem gL_law_X10_restAt : GoodIn wsL_law (wsV RL 92 RX10 yX10_restAt wsX10_restAt) := goodIn_app (goodIn_of _ (by decide +kernel)) ggL_law_X10_restAt
set_option maxRecDepth 20000 in
theorem ggL_law_X9_calmIn : GoodIn wsL_law wsX9_calmIn := goodIn_r _ [738, 232, 739, 16, 234, 506, 134, 135, 2, 136, 740, 741, 742, 743, 17, 151, 152, 153, 15, 154, 32, 36, 40, 44, 48, 155, 156, 157, 158, 159, 160, 161, 162, 35, 163, 55, 164, 165, 166, 167, 168, 169, 170, 54, 171, 64, 65, 66, 172, 173, 174, 175, 39, 176, 70, 177, 178, 179, 180, 71, 73, 181, 182, 183, 43, 184, 80, 81, 82, 185, 186, 187, 188, 189, 190, 79, 191, 88, 192, 193, 194, 195, 47, 196, 92, 94, 197, 198, 199, 744, 745, 746, 747, 352, 675, 359, 62, 360, 748, 372, 373, 374, 375, 353, 376, 377, 378, 379, 380, 138, 139, 381, 382, 383, 384, 356, 357, 358, 361, 366, 367, 368, 369, 370, 371, 385, 362, 363, 364, 365, 386, 387, 388, 348, 349, 350, 351, 354, 355, 389, 390, 391, 392, 393, 394, 395, 396, 397, 398, 399, 400, 401, 402, 403, 404, 405, 406, 407, 408, 409, 410, 411, 412, 413, 147, 148, 201, 202, 414, 415, 416, 417, 418, 419, 420, 330, 421, 422, 423, 424, 425, 426, 427, 428, 429, 60, 61, 63, 326, 327, 328, 329, 331, 332, 906, 907, 908, 909, 910, 927, 928, 929, 930, 931, 932, 933, 934, 948, 949, 950, 951, 952, 953, 954, 943, 944, 945, 946, 947, 965, 966, 967, 968, 955, 956, 957, 958, 959, 960, 969, 970, 961, 962, 963, 964] (by decide +kernel) (by decide +kernel)
set_option maxRecDepth 20000 in
theorem gL_law_X9_calmIn : GoodIn wsL_law (wsV RL 93 RX9 yX9_calmIn wsX9_calmIn) := goodIn_app (goodIn_of _ (by decide +kernel)) ggL_law_X9_calmIn
set_option maxRecDepth 20000 in
theorem ggL_law_X10_calmIn : GoodIn wsL_law wsX10_calmIn := goodIn_r _ [752, 210, 114, 213, 214, 5, 215, 753, 754, 755, 756, 757, 758, 759, 760, 116, 117, 115, 761, 762, 763, 764, 456, 457, 458, 459, 263, 445, 446, 447, 448, 441, 442, 443, 444, 460, 461, 462, 463, 464, 221, 222, 223, 224, 465, 466, 467, 468, 469, 470, 471, 472, 473, 474, 475, 476, 477, 478, 479, 480, 481, 482, 483, 484, 485, 486, 487, 488, 434, 435, 436, 437, 438, 439, 440, 449, 450, 451, 452, 453, 454, 242, 455, 489, 490, 491, 492, 493, 494, 495, 496, 497, 498, 499, 765, 766, 767, 768, 911, 912, 913, 914, 915, 916, 917, 918, 919, 920, 921, 922, 923, 924, 925, 926] (by decide +kernel) (by decide +kernel)
set_option maxRecDepth 20000 in
theorem gL_law_X10_calmIn : GoodIn wsL_law (wsV RL 96 RX10 yX10_calmIn wsX10_calmIn) := goodIn_app (goodIn_of _ (by decide +kernel)) ggL_law_X10_calmIn
set_option maxRecDepth 20000 in
theorem ggL_law_X9_bestLevel : GoodIn wsL_law wsX9_bestLevel := goodIn_r _ [772, 232, 773, 134, 135, 2, 136, 740, 741, 742, 743, 17, 16, 234, 506, 151, 152, 153, 15, 154, 32, 36, 40, 44, 48, 155, 156, 157, 158, 159, 160, 161, 162, 35, 163, 55, 164, 165, 166, 167, 168, 169, 170, 54, 171, 64, 65, 66, 172, 173, 174, 175, 39, 176, 70, 177, 178, 179, 180, 71, 73, 181, 182, 183, 43, 184, 80, 81, 82, 185, 186, 187, 188, 189, 190, 79, 191, 88, 192, 193, 194, 195, 47, 196, 92, 94, 197, 198, 199, 744, 745, 746, 747, 352, 675, 359, 62, 360, 748, 372, 373, 374, 375, 353, 376, 377, 378, 379, 380, 138, 139, 381, 382, 383, 384, 356, 357, 358, 361, 366, 367, 368, 369, 370, 371, 385, 362, 363, 364, 365, 386, 387, 388, 348, 349, 350, 351, 354, 355, 389, 390, 391, 392, 393, 394, 395, 396, 397, 398, 399, 400, 401, 402, 403, 404, 405, 406, 407, 408, 409, 410, 411, 412, 413, 147, 148, 201, 202, 414, 415, 416, 417, 418, 419, 420, 330, 421, 422, 423, 424, 425, 426, 427, 428, 429, 60, 61, 63, 326, 327, 328, 329, 331, 332, 906, 907, 908, 909, 910, 927, 928, 929, 930, 931, 932, 933, 934, 948, 949, 950, 951, 952, 953, 954, 943, 944, 945, 946, 947, 965, 966, 967, 968, 955, 956, 957, 958, 959, 960, 969, 970, 961, 962, 963, 964] (by decide +kernel) (by decide +kernel)
set_option maxRecDepth 20000 in
theorem gL_law_X9_bestLevel : GoodIn wsL_law (wsV RL 97 RX9 yX9_bestLevel wsX9_bestLevel) := goodIn_app (goodIn_of _ (by decide +kernel)) ggL_law_X9_bestLevel
set_option maxRecDepth 20000 in
theorem ggL_law_X10_bestLevel : GoodIn wsL_law wsX10_bestLevel := goodIn_r _ [777, 210, 213, 214, 5, 215, 753, 754, 755, 756, 114, 757, 758, 759, 760, 116, 117, 115, 761, 762, 763, 764, 456, 457, 458, 459, 263, 445, 446, 447, 448, 441, 442, 443, 444, 460, 461, 462, 463, 464, 221, 222, 223, 224, 465, 466, 467, 468, 469, 470, 471, 472, 473, 474, 475, 476, 477, 478, 479, 480, 481, 482, 483, 484, 485, 486, 487, 488, 434, 435, 436, 437, 438, 439, 440, 449, 450, 451, 452, 453, 454, 242, 455, 489, 490, 491, 492, 493, 494, 495, 496, 497, 498, 499, 765, 766, 767, 768, 911, 912, 913, 914, 915, 916, 917, 918, 919, 920, 921, 922, 923, 924, 925, 926] (by decide +kernel) (by decide +kernel)
set_option maxRecDepth 20000 in
theorem gL_law_X10_bestLevel : GoodIn wsL_law (wsV RL 100 RX10 yX10_bestLevel wsX10_bestLevel) := goodIn_app (goodIn_of _ (by decide +kernel)) ggL_law_X10_bestLevel
set_option maxRecDepth 20000 in
theorem ggL_law_X9_put : GoodIn wsL_law wsX9_put := goodIn_r _ [781, 26, 711, 782, 783, 784, 2, 785, 786, 787, 134, 135, 136, 788, 789, 790, 25, 791, 792, 105, 906, 907, 908, 909, 910, 938, 939, 940, 941, 942] (by decide +kernel) (by decide +kernel)
set_option maxRecDepth 20000 in
theorem gL_law_X9_put : GoodIn wsL_law (wsV RL 103 RX9 yX9_put wsX9_put) := goodIn_app (goodIn_of _ (by decide +kernel)) ggL_law_X9_put
set_option maxRecDepth 20000 in
theorem ggL_law_X10_put : GoodIn wsL_law wsX10_put := goodIn_r _ [796, 797, 717, 124, 213, 214, 5, 215, 911, 912, 913, 914, 915, 916, 917, 918, 919, 920, 921, 922, 923, 924, 925, 926] (by decide +kernel) (by decide +kernel)
set_option maxRecDepth 20000 in
theorem gL_law_X10_put : GoodIn wsL_law (wsV RL 107 RX10 yX10_put wsX10_put) := goodIn_app (goodIn_of _ (by decide +kernel)) ggL_law_X10_put
set_option maxRecDepth 20000 in
theorem ggL_law_X9_wipe : GoodIn wsL_law wsX9_wipe := goodIn_r _ [801, 26, 711, 906, 907, 908, 909, 910, 938, 939, 940, 941, 942] (by decide +kernel) (by decide +kernel)
set_option maxRecDepth 20000 in
theorem gL_law_X9_wipe : GoodIn wsL_law (wsV RL 108 RX9 yX9_wipe wsX9_wipe) := goodIn_app (goodIn_of _ (by decide +kernel)) ggL_law_X9_wipe
set_option maxRecDepth 20000 in
theorem ggL_law_X10_wipe : GoodIn wsL_law wsX10_wipe := goodIn_r _ [805, 717, 911, 912, 913, 914, 915, 916, 917, 918, 919, 920, 921, 922, 923, 924, 925, 926] (by decide +kernel) (by decide +kernel)
set_option maxRecDepth 20000 in
theorem gL_law_X10_wipe : GoodIn wsL_law (wsV RL 111 RX10 yX10_wipe wsX10_wipe) := goodIn_app (goodIn_of _ (by decide +kernel)) ggL_law_X10_wipe
set_option maxRecDepth 20000 in
theorem ggL_law_X9_fault : GoodIn wsL_law wsX9_fault := goodIn_r _ [809, 26, 810, 811, 812, 25, 813, 814, 107, 792, 815, 300, 301, 54, 302, 172, 816, 817, 818, 819, 820, 821, 822, 823, 824, 825, 826, 827, 828, 829, 105, 830, 831, 832, 833, 834, 835, 836, 837, 838, 839, 323, 324, 325, 64, 65, 66, 201, 2, 202, 906, 907, 908, 909, 910, 938, 939, 940, 941, 942, 965, 966, 967, 968] (by decide +kernel) (by decide +kernel)
set_option maxRecDepth 20000 in
theorem gL_law_X9_fault : GoodIn wsL_law (wsV RL 112 RX9 yX9_fault wsX9_fault) := goodIn_app (goodIn_of _ (by decide +kernel)) ggL_law_X9_fault
set_option maxRecDepth 20000 in
theorem ggL_law_X10_fault : GoodIn wsL_law wsX10_fault := goodIn_r _ [843, 844, 845, 846, 717, 847, 848, 849, 5, 850, 125, 851, 852, 853, 854, 855, 856, 857, 858, 124, 859, 860, 861, 862, 213, 214, 215, 911, 912, 913, 914, 915, 916, 917, 918, 919, 920, 921, 922, 923, 924, 925, 926] (by decide +kernel) (by decide +kernel)
set_option maxRecDepth 20000 in
theorem gL_law_X10_fault : GoodIn wsL_law (wsV RL 115 RX10 yX10_fault wsX10_fault) := goodIn_app (goodIn_of _ (by decide +kernel)) ggL_law_X10_fault
set_option maxRecDepth 20000 in
theorem ggL_law_X9_load : GoodIn wsL_law wsX9_load := goodIn_r _ [866, 26, 16, 249, 250, 251, 867, 21, 868, 869, 870, 711, 810, 811, 812, 25, 813, 814, 107, 792, 815, 300, 301, 54, 302, 172, 816, 817, 818, 819, 820, 821, 822, 823, 824, 825, 826, 827, 828, 829, 105, 830, 831, 832, 833, 834, 835, 836, 837, 838, 839, 323, 324, 325, 64, 65, 66, 201, 2, 202, 140, 141, 142, 20, 143, 100, 144, 145, 146, 147, 62, 148, 149, 150, 13, 14, 15, 27, 28, 29, 30, 11, 12, 31, 32, 33, 34, 35, 36, 37, 38, 39, 40, 41, 42, 43, 44, 45, 46, 47, 48, 49, 50, 51, 52, 53, 55, 56, 57, 58, 59, 60, 61, 63, 67, 68, 69, 70, 71, 72, 73, 74, 75, 76, 77, 78, 79, 80, 81, 82, 83, 84, 85, 86, 87, 88, 89, 90, 91, 92, 93, 94, 95, 151, 152, 153, 154, 155, 156, 157, 158, 159, 160, 161, 162, 163, 164, 165, 166, 167, 168, 169, 170, 171, 173, 174, 175, 176, 177, 178, 179, 180, 181, 182, 183, 184, 185, 186, 187, 188, 189, 190, 191, 192, 193, 194, 195, 196, 197, 198, 199, 137, 138, 139, 318, 319, 320, 321, 322, 326, 327, 328, 329, 330, 331, 332, 906, 907, 908, 909, 910, 927, 928, 929, 930, 931, 932, 933, 934, 943, 944, 945, 946, 947, 965, 966, 967, 968, 938, 939, 940, 941, 942, 935, 936, 937, 948, 949, 950, 951, 952, 953, 954, 955, 956, 957, 958, 959, 960, 961, 962, 963, 964, 969, 970] (by decide +kernel) (by decide +kernel)
set_option maxRecDepth 20000 in
theorem gL_law_X9_load : GoodIn wsL_law (wsV RL 116 RX9 yX9_load wsX9_load) := goodIn_app (goodIn_of _ (by decide +kernel)) ggL_law_X9_load
set_option maxRecDepth 20000 in
theorem ggL_law_X10_load : GoodIn wsL_law wsX10_load := goodIn_r _ [874, 114, 846, 125, 717, 875, 841, 842, 5, 843, 844, 845, 847, 848, 849, 850, 851, 852, 853, 854, 855, 856, 857, 858, 124, 859, 860, 861, 862, 213, 214, 215, 216, 217, 218, 219, 220, 118, 119, 115, 337, 338, 339, 340, 911, 912, 913, 914, 915, 916, 917, 918, 919, 920, 921, 922, 923, 924, 925, 926] (by decide +kernel) (by decide +kernel)
set_option maxRecDepth 20000 in
theorem gL_law_X10_load : GoodIn wsL_law (wsV RL 119 RX10 yX10_load wsX10_load) := goodIn_app (goodIn_of _ (by decide +kernel)) ggL_law_X10_load
set_option maxRecDepth 20000 in
theorem ggL_law_X9_undo : GoodIn wsL_law wsX9_undo := goodIn_r _ [879, 21, 712, 16, 880, 881, 882, 20, 883, 144, 145, 100, 884, 152, 153, 15, 154, 32, 36, 40, 44, 48, 155, 156, 157, 158, 2, 159, 160, 161, 162, 35, 163, 55, 164, 165, 166, 167, 168, 169, 170, 54, 171, 64, 65, 66, 172, 173, 174, 175, 39, 176, 70, 177, 178, 179, 180, 71, 73, 181, 182, 183, 43, 184, 80, 81, 82, 185, 186, 187, 188, 189, 190, 79, 191, 88, 192, 193, 194, 195, 47, 196, 92, 94, 197, 198, 199, 906, 907, 908, 909, 910, 935, 936, 937, 927, 928, 929, 930, 931, 932, 933, 934, 943, 944, 945, 946, 947, 965, 966, 967, 968, 948, 949, 950, 951, 952, 953, 954, 955, 956, 957, 958, 959, 960, 969, 970, 961, 962, 963, 964] (by decide +kernel) (by decide +kernel)
set_option maxRecDepth 20000 in
theorem gL_law_X9_undo : GoodIn wsL_law (wsV RL 120 RX9 yX9_undo wsX9_undo) := goodIn_app (goodIn_of _ (by decide +kernel)) ggL_law_X9_undo
set_option maxRecDepth 20000 in
theorem ggL_law_X10_undo : GoodIn wsL_law wsX10_undo := goodIn_r _ [888, 220, 114, 118, 115, 119, 911, 912, 913, 914, 915, 916, 917, 918, 919, 920, 921, 922, 923, 924, 925, 926] (by decide +kernel) (by decide +kernel)
set_option maxRecDepth 20000 in
theorem gL_law_X10_undo : GoodIn wsL_law (wsV RL 123 RX10 yX10_undo wsX10_undo) := goodIn_app (goodIn_of _ (by decide +kernel)) ggL_law_X10_undo
set_option maxRecDepth 20000 in
theorem ggL_law_X9_save : GoodIn wsL_law wsX9_save := goodIn_r _ [892, 22, 16, 345, 134, 135, 2, 136, 893, 149, 150, 13, 14, 15, 27, 28, 29, 30, 11, 12, 31, 32, 33, 34, 35, 36, 37, 38, 39, 40, 41, 42, 43, 44, 45, 46, 47, 48, 49, 50, 51, 52, 53, 54, 55, 56, 57, 58, 59, 60, 61, 62, 63, 64, 65, 66, 67, 68, 69, 70, 71, 72, 73, 74, 75, 76, 77, 78, 79, 80, 81, 82, 83, 84, 85, 86, 87, 88, 89, 90, 91, 92, 93, 94, 95, 151, 152, 153, 154, 155, 156, 157, 158, 159, 160, 161, 162, 163, 164, 165, 166, 167, 168, 169, 170, 171, 172, 173, 174, 175, 176, 177, 178, 179, 180, 181, 182, 183, 184, 185, 186, 187, 188, 189, 190, 191, 192, 193, 194, 195, 196, 197, 198, 199, 906, 907, 908, 909, 910, 927, 928, 929, 930, 931, 932, 933, 934, 943, 944, 945, 946, 947, 948, 949, 950, 951, 952, 953, 954, 955, 956, 957, 958, 959, 960, 961, 962, 963, 964, 965, 966, 967, 968, 969, 970] (by decide +kernel) (by decide +kernel)
set_option maxRecDepth 20000 in
theorem gL_law_X9_save : GoodIn wsL_law (wsV RL 124 RX9 yX9_save wsX9_save) := goodIn_app (goodIn_of _ (by decide +kernel)) ggL_law_X9_save
set_option maxRecDepth 20000 in
theorem ggL_law_X10_save : GoodIn wsL_law wsX10_save := goodIn_r _ [897, 120, 114, 121, 115, 123, 213, 214, 5, 215, 911, 912, 913, 914, 915, 916, 917, 918, 919, 920, 921, 922, 923, 924, 925, 926] (by decide +kernel) (by decide +kernel)
set_option maxRecDepth 20000 in
theorem gL_law_X10_save : GoodIn wsL_law (wsV RL 127 RX10 yX10_save wsX10_save) := goodIn_app (goodIn_of _ (by decide +kernel)) ggL_law_X10_save
set_option maxRecDepth 20000 in
theorem ggL_law_X9_restore : GoodIn wsL_law wsX9_restore := goodIn_r _ [901, 22, 21, 16, 345, 134, 135, 2, 136, 140, 141, 142, 20, 143, 100, 144, 145, 146, 147, 62, 148, 149, 150, 13, 14, 15, 27, 28, 29, 30, 11, 12, 31, 32, 33, 34, 35, 36, 37, 38, 39, 40, 41, 42, 43, 44, 45, 46, 47, 48, 49, 50, 51, 52, 53, 54, 55, 56, 57, 58, 59, 60, 61, 63, 64, 65, 66, 67, 68, 69, 70, 71, 72, 73, 74, 75, 76, 77, 78, 79, 80, 81, 82, 83, 84, 85, 86, 87, 88, 89, 90, 91, 92, 93, 94, 95, 151, 152, 153, 154, 155, 156, 157, 158, 159, 160, 161, 162, 163, 164, 165, 166, 167, 168, 169, 170, 171, 172, 173, 174, 175, 176, 177, 178, 179, 180, 181, 182, 183, 184, 185, 186, 187, 188, 189, 190, 191, 192, 193, 194, 195, 196, 197, 198, 199, 906, 907, 908, 909, 910, 927, 928, 929, 930, 931, 932, 933, 934, 935, 936, 937, 943, 944, 945, 946, 947, 948, 949, 950, 951, 952, 953, 954, 955, 956, 957, 958, 959, 960, 961, 962, 963, 964, 965, 966, 967, 968, 969, 970] (by decide +kernel) (by decide +kernel)
set_option maxRecDepth 20000 in
theorem gL_law_X9_restore : GoodIn wsL_law (wsV RL 128 RX9 yX9_restore wsX9_restore) := goodIn_app (goodIn_of _ (by decide +kernel)) ggL_law_X9_restore
set_option maxRecDepth 20000 in
theorem ggL_law_X10_restore : GoodIn wsL_law wsX10_restore := goodIn_r _ [905, 123, 114, 120, 115, 121, 213, 214, 5, 215, 216, 217, 218, 219, 220, 118, 119, 911, 912, 913, 914, 915, 916, 917, 918, 919, 920, 921, 922, 923, 924, 925, 926] (by decide +kernel) (by decide +kernel)
set_option maxRecDepth 20000 in
theorem gL_law_X10_restore : GoodIn wsL_law (wsV RL 131 RX10 yX10_restore wsX10_restore) := goodIn_app (goodIn_of _ (by decide +kernel)) ggL_law_X10_restore
