theorem dL_cell_0 : decode cL_cell 0 = .ok (.iload_n 1, 1) := by decide +kernel
theorem dL_cell_1 : decode cL_cell 1 = .ok (.aload_n 0, 1) := by decide +kernel
theorem dL_cell_2 : decode cL_cell 2 = .ok (.arraylength, 1) := by decide +kernel
theorem dL_cell_3 : decode cL_cell 3 = .ok (.if_icmp .ge 9, 3) := by decide +kernel
theorem dL_cell_6 : decode cL_cell 6 = .ok (.aload_n 0, 1) := by decide +kernel
theorem dL_cell_7 : decode cL_cell 7 = .ok (.iload_n 1, 1) := by decide +kernel
theorem dL_cell_8 : decode cL_cell 8 = .ok (.iaload, 1) := by decide +kernel
theorem dL_cell_9 : decode cL_cell 9 = .ok (.goto 11, 3) := by decide +kernel
theorem dL_cell_12 : decode cL_cell 12 = .ok (.ldc 7, 2) := by decide +kernel
theorem dL_cell_14 : decode cL_cell 14 = .ok (.iload_n 1, 1) := by decide +kernel
theorem dL_cell_15 : decode cL_cell 15 = .ok (.sipush 1571, 3) := by decide +kernel
theorem dL_cell_18 : decode cL_cell 18 = .ok (.iadd, 1) := by decide +kernel
theorem dL_cell_19 : decode cL_cell 19 = .ok (.imul, 1) := by decide +kernel
theorem dL_cell_20 : decode cL_cell 20 = .ok (.ireturn, 1) := by decide +kernel
theorem dL_up_0 : decode cL_up 0 = .ok (.iload_n 0, 1) := by decide +kernel
theorem dL_up_1 : decode cL_up 1 = .ok (.ldc 8, 2) := by decide +kernel
theorem dL_up_3 : decode cL_up 3 = .ok (.iand, 1) := by decide +kernel
theorem dL_up_4 : decode cL_up 4 = .ok (.iload_n 1, 1) := by decide +kernel
theorem dL_up_5 : decode cL_up 5 = .ok (.irem, 1) := by decide +kernel
theorem dL_up_6 : decode cL_up 6 = .ok (.ireturn, 1) := by decide +kernel
theorem dL_size_0 : decode cL_size 0 = .ok (.iload_n 0, 1) := by decide +kernel
theorem dL_size_1 : decode cL_size 1 = .ok (.ifCond .ge 8, 3) := by decide +kernel
theorem dL_size_4 : decode cL_size 4 = .ok (.iload_n 0, 1) := by decide +kernel
theorem dL_size_5 : decode cL_size 5 = .ok (.ineg, 1) := by decide +kernel
theorem dL_size_6 : decode cL_size 6 = .ok (.goto 4, 3) := by decide +kernel
theorem dL_size_9 : decode cL_size 9 = .ok (.iload_n 0, 1) := by decide +kernel
theorem dL_size_10 : decode cL_size 10 = .ok (.ireturn, 1) := by decide +kernel
set_option maxRecDepth 100000 in
theorem ggL_sums_X9_state : GoodIn wsL_sums wsX9_state := goodIn_r _ [6, 7, 8, 9, 10, 11, 12, 13, 14, 15, 16, 5, 17, 18, 19, 20, 21, 22, 23, 24, 25, 26, 27, 28, 29, 30, 31, 32, 33, 34, 35, 36, 37, 38, 39, 40, 41, 42, 43, 44, 45, 46, 47, 48, 49, 50, 51, 52, 53, 54, 55, 56, 57, 58, 59, 60, 61, 62, 63, 64, 65, 66, 67, 68, 159, 160, 161, 162, 163, 164, 165, 166, 167, 168, 169, 170, 171, 172, 173, 174, 175, 176, 177, 178, 179, 180, 181, 182, 183, 184, 185, 186, 187, 188, 189, 190, 191, 192, 193, 194, 195, 196, 197, 198, 199, 200, 201, 202, 203, 204, 205, 206, 207] rfl (by decide +kernel)
set_option maxRecDepth 100000 in
theorem gL_sums_X9_state : GoodIn wsL_sums (wsV RL 73 RX9 yX9_state wsX9_state) := goodIn_app (goodIn_of _ (by decide +kernel)) ggL_sums_X9_state
set_option maxRecDepth 100000 in
theorem ggL_sums_X9_check : GoodIn wsL_sums wsX9_check := goodIn_r _ [72, 9, 59, 60, 57, 73, 74, 15, 16, 5, 17, 18, 19, 20, 159, 160, 161, 162, 163, 164, 165, 166, 167, 168, 169, 170, 171, 196, 197, 198, 199, 194, 195] rfl (by decide +kernel)
set_option maxRecDepth 100000 in
theorem gL_sums_X9_check : GoodIn wsL_sums (wsV RL 134 RX9 yX9_check wsX9_check) := goodIn_app (goodIn_of _ (by decide +kernel)) ggL_sums_X9_check
set_option maxRecDepth 100000 in
theorem ggL_sums_X9_compass : GoodIn wsL_sums wsX9_compass := goodIn_r _ [78, 9, 10, 79, 80, 55, 81, 82, 56, 57, 59, 60, 26, 83, 84, 85, 86, 87, 88, 89, 44, 90, 91, 92, 93, 94, 95, 46, 96, 97, 98, 19, 5, 20, 99, 100, 101, 102, 103, 104, 105, 106, 107, 108, 109, 110, 111, 112, 113, 114, 115, 116, 117, 118, 119, 120, 121, 122, 123, 124, 125, 126, 127, 128, 129, 130, 131, 132, 133, 134, 135, 136, 137, 138, 139, 140, 141, 142, 143, 144, 145, 146, 147, 148, 149, 150, 151, 152, 153, 154, 159, 160, 161, 162, 163, 164, 165, 166, 167, 168, 169, 170, 171, 172, 173, 174, 175, 176, 177, 178, 188, 189, 190, 191, 192, 193, 194, 195, 196, 197, 198, 199, 179, 180, 181, 182, 183] rfl (by decide +kernel)
set_option maxRecDepth 100000 in
theorem gL_sums_X9_compass : GoodIn wsL_sums (wsV RL 76 RX9 yX9_compass wsX9_compass) := goodIn_app (goodIn_of _ (by decide +kernel)) ggL_sums_X9_compass
set_option maxRecDepth 100000 in
theorem ggL_sums_L_size : GoodIn wsL_sums wsL_size := goodIn_r _ [158] rfl (by decide +kernel)
set_option maxRecDepth 100000 in
theorem gL_sums_L_size : GoodIn wsL_sums (va_wsS RL 98 yL_size wsL_size) := goodIn_app (goodIn_of _ (by decide +kernel)) ggL_sums_L_size
theorem dL_sums_0 : decode cL_sums 0 = .ok (.iconst 0, 1) := by decide +kernel
theorem dL_sums_1 : decode cL_sums 1 = .ok (.istore_n 1, 1) := by decide +kernel
theorem dL_sums_2 : decode cL_sums 2 = .ok (.iconst 0, 1) := by decide +kernel
theorem dL_sums_3 : decode cL_sums 3 = .ok (.istore_n 2, 1) := by decide +kernel
theorem dL_sums_4 : decode cL_sums 4 = .ok (.iconst 0, 1) := by decide +kernel
theorem dL_sums_5 : decode cL_sums 5 = .ok (.istore_n 3, 1) := by decide +kernel
theorem dL_sums_6 : decode cL_sums 6 = .ok (.iload_n 3, 1) := by decide +kernel
theorem dL_sums_7 : decode cL_sums 7 = .ok (.aload_n 0, 1) := by decide +kernel
theorem dL_sums_8 : decode cL_sums 8 = .ok (.bipush 15, 2) := by decide +kernel
theorem dL_sums_10 : decode cL_sums 10 = .ok (.invokevirtual 73, 3) := by decide +kernel
theorem dL_sums_13 : decode cL_sums 13 = .ok (.if_icmp .ge 17, 3) := by decide +kernel
theorem dL_sums_16 : decode cL_sums 16 = .ok (.iload_n 1, 1) := by decide +kernel
theorem dL_sums_17 : decode cL_sums 17 = .ok (.aload_n 0, 1) := by decide +kernel
theorem dL_sums_18 : decode cL_sums 18 = .ok (.iload_n 3, 1) := by decide +kernel
theorem dL_sums_19 : decode cL_sums 19 = .ok (.invokevirtual 134, 3) := by decide +kernel
theorem dL_sums_22 : decode cL_sums 22 = .ok (.iadd, 1) := by decide +kernel
theorem dL_sums_23 : decode cL_sums 23 = .ok (.istore_n 1, 1) := by decide +kernel
theorem dL_sums_24 : decode cL_sums 24 = .ok (.iinc 3 1, 3) := by decide +kernel
theorem dL_sums_27 : decode cL_sums 27 = .ok (.goto (-21), 3) := by decide +kernel
theorem dL_sums_30 : decode cL_sums 30 = .ok (.bipush 8, 2) := by decide +kernel
theorem dL_sums_32 : decode cL_sums 32 = .ok (.istore_n 3, 1) := by decide +kernel
theorem dL_sums_33 : decode cL_sums 33 = .ok (.iload_n 3, 1) := by decide +kernel
theorem dL_sums_34 : decode cL_sums 34 = .ok (.bipush 13, 2) := by decide +kernel
theorem dL_sums_36 : decode cL_sums 36 = .ok (.if_icmp .ge 17, 3) := by decide +kernel
theorem dL_sums_39 : decode cL_sums 39 = .ok (.iload_n 2, 1) := by decide +kernel
theorem dL_sums_40 : decode cL_sums 40 = .ok (.aload_n 0, 1) := by decide +kernel
theorem dL_sums_41 : decode cL_sums 41 = .ok (.iload_n 3, 1) := by decide +kernel
theorem dL_sums_42 : decode cL_sums 42 = .ok (.invokevirtual 73, 3) := by decide +kernel
theorem dL_sums_45 : decode cL_sums 45 = .ok (.iadd, 1) := by decide +kernel
theorem dL_sums_46 : decode cL_sums 46 = .ok (.istore_n 2, 1) := by decide +kernel
theorem dL_sums_47 : decode cL_sums 47 = .ok (.iinc 3 1, 3) := by decide +kernel
theorem dL_sums_50 : decode cL_sums 50 = .ok (.goto (-17), 3) := by decide +kernel
theorem dL_sums_53 : decode cL_sums 53 = .ok (.aload_n 0, 1) := by decide +kernel
theorem dL_sums_54 : decode cL_sums 54 = .ok (.bipush 7, 2) := by decide +kernel
theorem dL_sums_56 : decode cL_sums 56 = .ok (.invokevirtual 76, 3) := by decide +kernel
theorem dL_sums_59 : decode cL_sums 59 = .ok (.iload_n 1, 1) := by decide +kernel
theorem dL_sums_60 : decode cL_sums 60 = .ok (.if_icmp .ne 60, 3) := by decide +kernel
theorem dL_sums_63 : decode cL_sums 63 = .ok (.iload_n 2, 1) := by decide +kernel
theorem dL_sums_64 : decode cL_sums 64 = .ok (.aload_n 0, 1) := by decide +kernel
theorem dL_sums_65 : decode cL_sums 65 = .ok (.iconst 0, 1) := by decide +kernel
theorem dL_sums_66 : decode cL_sums 66 = .ok (.invokevirtual 73, 3) := by decide +kernel
theorem dL_sums_69 : decode cL_sums 69 = .ok (.if_icmp .ne 51, 3) := by decide +kernel
theorem dL_sums_72 : decode cL_sums 72 = .ok (.aload_n 0, 1) := by decide +kernel
theorem dL_sums_73 : decode cL_sums 73 = .ok (.bipush 13, 2) := by decide +kernel
theorem dL_sums_75 : decode cL_sums 75 = .ok (.invokevirtual 73, 3) := by decide +kernel
theorem dL_sums_78 : decode cL_sums 78 = .ok (.aload_n 0, 1) := by decide +kernel
theorem dL_sums_79 : decode cL_sums 79 = .ok (.bipush 14, 2) := by decide +kernel
theorem dL_sums_81 : decode cL_sums 81 = .ok (.invokevirtual 73, 3) := by decide +kernel
theorem dL_sums_84 : decode cL_sums 84 = .ok (.if_icmp .gt 36, 3) := by decide +kernel
theorem dL_sums_87 : decode cL_sums 87 = .ok (.aload_n 0, 1) := by decide +kernel
theorem dL_sums_88 : decode cL_sums 88 = .ok (.bipush 15, 2) := by decide +kernel
theorem dL_sums_90 : decode cL_sums 90 = .ok (.invokevirtual 73, 3) := by decide +kernel
theorem dL_sums_93 : decode cL_sums 93 = .ok (.aload_n 0, 1) := by decide +kernel
theorem dL_sums_94 : decode cL_sums 94 = .ok (.bipush 16, 2) := by decide +kernel
theorem dL_sums_96 : decode cL_sums 96 = .ok (.invokevirtual 73, 3) := by decide +kernel
theorem dL_sums_99 : decode cL_sums 99 = .ok (.if_icmp .gt 21, 3) := by decide +kernel
theorem dL_sums_102 : decode cL_sums 102 = .ok (.aload_n 0, 1) := by decide +kernel
theorem dL_sums_103 : decode cL_sums 103 = .ok (.bipush 8, 2) := by decide +kernel
theorem dL_sums_105 : decode cL_sums 105 = .ok (.invokevirtual 76, 3) := by decide +kernel
theorem dL_sums_108 : decode cL_sums 108 = .ok (.invokestatic 98, 3) := by decide +kernel
theorem dL_sums_111 : decode cL_sums 111 = .ok (.ldc 150, 2) := by decide +kernel
theorem dL_sums_113 : decode cL_sums 113 = .ok (.if_icmp .gt 7, 3) := by decide +kernel
theorem dL_sums_116 : decode cL_sums 116 = .ok (.iconst 1, 1) := by decide +kernel
theorem dL_sums_117 : decode cL_sums 117 = .ok (.goto 4, 3) := by decide +kernel
theorem dL_sums_120 : decode cL_sums 120 = .ok (.iconst 0, 1) := by decide +kernel
theorem dL_sums_121 : decode cL_sums 121 = .ok (.ireturn, 1) := by decide +kernel
