theorem dX10_init_0 : decode cX10_init 0 = .ok (.aload_n 0, 1) := by decide +kernel
theorem dX10_init_1 : decode cX10_init 1 = .ok (.invokespecial 1, 3) := by decide +kernel
theorem dX10_init_4 : decode cX10_init 4 = .ok (.aload_n 0, 1) := by decide +kernel
theorem dX10_init_5 : decode cX10_init 5 = .ok (.bipush 85, 2) := by decide +kernel
theorem dX10_init_7 : decode cX10_init 7 = .ok (.newarray .int, 2) := by decide +kernel
theorem dX10_init_9 : decode cX10_init 9 = .ok (.putfield 7, 3) := by decide +kernel
theorem dX10_init_12 : decode cX10_init 12 = .ok (.aload_n 0, 1) := by decide +kernel
theorem dX10_init_13 : decode cX10_init 13 = .ok (.bipush 9, 2) := by decide +kernel
theorem dX10_init_15 : decode cX10_init 15 = .ok (.newarray .long, 2) := by decide +kernel
theorem dX10_init_17 : decode cX10_init 17 = .ok (.putfield 13, 3) := by decide +kernel
theorem dX10_init_20 : decode cX10_init 20 = .ok (.aload_n 0, 1) := by decide +kernel
theorem dX10_init_21 : decode cX10_init 21 = .ok (.bipush 85, 2) := by decide +kernel
theorem dX10_init_23 : decode cX10_init 23 = .ok (.newarray .int, 2) := by decide +kernel
theorem dX10_init_25 : decode cX10_init 25 = .ok (.putfield 17, 3) := by decide +kernel
theorem dX10_init_28 : decode cX10_init 28 = .ok (.aload_n 0, 1) := by decide +kernel
theorem dX10_init_29 : decode cX10_init 29 = .ok (.bipush 9, 2) := by decide +kernel
theorem dX10_init_31 : decode cX10_init 31 = .ok (.newarray .long, 2) := by decide +kernel
theorem dX10_init_33 : decode cX10_init 33 = .ok (.putfield 20, 3) := by decide +kernel
theorem dX10_init_36 : decode cX10_init 36 = .ok (.aload_n 0, 1) := by decide +kernel
theorem dX10_init_37 : decode cX10_init 37 = .ok (.sipush 510, 3) := by decide +kernel
theorem dX10_init_40 : decode cX10_init 40 = .ok (.newarray .int, 2) := by decide +kernel
theorem dX10_init_42 : decode cX10_init 42 = .ok (.putfield 23, 3) := by decide +kernel
theorem dX10_init_45 : decode cX10_init 45 = .ok (.aload_n 0, 1) := by decide +kernel
theorem dX10_init_46 : decode cX10_init 46 = .ok (.bipush 54, 2) := by decide +kernel
theorem dX10_init_48 : decode cX10_init 48 = .ok (.newarray .long, 2) := by decide +kernel
theorem dX10_init_50 : decode cX10_init 50 = .ok (.putfield 26, 3) := by decide +kernel
theorem dX10_init_53 : decode cX10_init 53 = .ok (.aload_n 0, 1) := by decide +kernel
theorem dX10_init_54 : decode cX10_init 54 = .ok (.sipush 170, 3) := by decide +kernel
theorem dX10_init_57 : decode cX10_init 57 = .ok (.newarray .int, 2) := by decide +kernel
theorem dX10_init_59 : decode cX10_init 59 = .ok (.putfield 29, 3) := by decide +kernel
theorem dX10_init_62 : decode cX10_init 62 = .ok (.aload_n 0, 1) := by decide +kernel
theorem dX10_init_63 : decode cX10_init 63 = .ok (.bipush 18, 2) := by decide +kernel
theorem dX10_init_65 : decode cX10_init 65 = .ok (.newarray .long, 2) := by decide +kernel
theorem dX10_init_67 : decode cX10_init 67 = .ok (.putfield 32, 3) := by decide +kernel
theorem dX10_init_70 : decode cX10_init 70 = .ok (.aload_n 0, 1) := by decide +kernel
theorem dX10_init_71 : decode cX10_init 71 = .ok (.iconst 2, 1) := by decide +kernel
theorem dX10_init_72 : decode cX10_init 72 = .ok (.newarray .boolean, 2) := by decide +kernel
theorem dX10_init_74 : decode cX10_init 74 = .ok (.putfield 35, 3) := by decide +kernel
theorem dX10_init_77 : decode cX10_init 77 = .ok (.aload_n 0, 1) := by decide +kernel
theorem dX10_init_78 : decode cX10_init 78 = .ok (.bipush 80, 2) := by decide +kernel
theorem dX10_init_80 : decode cX10_init 80 = .ok (.newarray .int, 2) := by decide +kernel
theorem dX10_init_82 : decode cX10_init 82 = .ok (.putfield 39, 3) := by decide +kernel
theorem dX10_init_85 : decode cX10_init 85 = .ok (.aload_n 0, 1) := by decide +kernel
theorem dX10_init_86 : decode cX10_init 86 = .ok (.bipush 60, 2) := by decide +kernel
theorem dX10_init_88 : decode cX10_init 88 = .ok (.newarray .int, 2) := by decide +kernel
theorem dX10_init_90 : decode cX10_init 90 = .ok (.putfield 42, 3) := by decide +kernel
theorem dX10_init_93 : decode cX10_init 93 = .ok (.aload_n 0, 1) := by decide +kernel
theorem dX10_init_94 : decode cX10_init 94 = .ok (.getfield 7, 3) := by decide +kernel
theorem dX10_init_97 : decode cX10_init 97 = .ok (.bipush 8, 2) := by decide +kernel
theorem dX10_init_99 : decode cX10_init 99 = .ok (.iconst 2, 1) := by decide +kernel
theorem dX10_init_100 : decode cX10_init 100 = .ok (.iastore, 1) := by decide +kernel
theorem dX10_init_101 : decode cX10_init 101 = .ok (.aload_n 0, 1) := by decide +kernel
theorem dX10_init_102 : decode cX10_init 102 = .ok (.getfield 7, 3) := by decide +kernel
theorem dX10_init_105 : decode cX10_init 105 = .ok (.bipush 9, 2) := by decide +kernel
theorem dX10_init_107 : decode cX10_init 107 = .ok (.bipush (-6), 2) := by decide +kernel
theorem dX10_init_109 : decode cX10_init 109 = .ok (.iastore, 1) := by decide +kernel
theorem dX10_init_110 : decode cX10_init 110 = .ok (.aload_n 0, 1) := by decide +kernel
theorem dX10_init_111 : decode cX10_init 111 = .ok (.getfield 7, 3) := by decide +kernel
theorem dX10_init_114 : decode cX10_init 114 = .ok (.bipush 20, 2) := by decide +kernel
theorem dX10_init_116 : decode cX10_init 116 = .ok (.bipush 20, 2) := by decide +kernel
theorem dX10_init_118 : decode cX10_init 118 = .ok (.iastore, 1) := by decide +kernel
theorem dX10_init_119 : decode cX10_init 119 = .ok (.aload_n 0, 1) := by decide +kernel
theorem dX10_init_120 : decode cX10_init 120 = .ok (.getfield 7, 3) := by decide +kernel
theorem dX10_init_123 : decode cX10_init 123 = .ok (.bipush 21, 2) := by decide +kernel
theorem dX10_init_125 : decode cX10_init 125 = .ok (.sipush 250, 3) := by decide +kernel
theorem dX10_init_128 : decode cX10_init 128 = .ok (.iastore, 1) := by decide +kernel
theorem dX10_init_129 : decode cX10_init 129 = .ok (.aload_n 0, 1) := by decide +kernel
theorem dX10_init_130 : decode cX10_init 130 = .ok (.getfield 7, 3) := by decide +kernel
theorem dX10_init_133 : decode cX10_init 133 = .ok (.bipush 22, 2) := by decide +kernel
theorem dX10_init_135 : decode cX10_init 135 = .ok (.sipush 15000, 3) := by decide +kernel
theorem dX10_init_138 : decode cX10_init 138 = .ok (.iastore, 1) := by decide +kernel
theorem dX10_init_139 : decode cX10_init 139 = .ok (.aload_n 0, 1) := by decide +kernel
theorem dX10_init_140 : decode cX10_init 140 = .ok (.getfield 7, 3) := by decide +kernel
theorem dX10_init_143 : decode cX10_init 143 = .ok (.bipush 23, 2) := by decide +kernel
theorem dX10_init_145 : decode cX10_init 145 = .ok (.sipush 5000, 3) := by decide +kernel
theorem dX10_init_148 : decode cX10_init 148 = .ok (.iastore, 1) := by decide +kernel
theorem dX10_init_149 : decode cX10_init 149 = .ok (.aload_n 0, 1) := by decide +kernel
theorem dX10_init_150 : decode cX10_init 150 = .ok (.getfield 7, 3) := by decide +kernel
theorem dX10_init_153 : decode cX10_init 153 = .ok (.bipush 24, 2) := by decide +kernel
theorem dX10_init_155 : decode cX10_init 155 = .ok (.sipush 500, 3) := by decide +kernel
theorem dX10_init_158 : decode cX10_init 158 = .ok (.iastore, 1) := by decide +kernel
theorem dX10_init_159 : decode cX10_init 159 = .ok (.aload_n 0, 1) := by decide +kernel
theorem dX10_init_160 : decode cX10_init 160 = .ok (.getfield 7, 3) := by decide +kernel
theorem dX10_init_163 : decode cX10_init 163 = .ok (.bipush 25, 2) := by decide +kernel
theorem dX10_init_165 : decode cX10_init 165 = .ok (.sipush 3000, 3) := by decide +kernel
theorem dX10_init_168 : decode cX10_init 168 = .ok (.iastore, 1) := by decide +kernel
theorem dX10_init_169 : decode cX10_init 169 = .ok (.aload_n 0, 1) := by decide +kernel
theorem dX10_init_170 : decode cX10_init 170 = .ok (.getfield 7, 3) := by decide +kernel
theorem dX10_init_173 : decode cX10_init 173 = .ok (.bipush 26, 2) := by decide +kernel
theorem dX10_init_175 : decode cX10_init 175 = .ok (.bipush 20, 2) := by decide +kernel
theorem dX10_init_177 : decode cX10_init 177 = .ok (.iastore, 1) := by decide +kernel
theorem dX10_init_178 : decode cX10_init 178 = .ok (.aload_n 0, 1) := by decide +kernel
theorem dX10_init_179 : decode cX10_init 179 = .ok (.getfield 7, 3) := by decide +kernel
theorem dX10_init_182 : decode cX10_init 182 = .ok (.bipush 27, 2) := by decide +kernel
theorem dX10_init_184 : decode cX10_init 184 = .ok (.iconst 1, 1) := by decide +kernel
theorem dX10_init_185 : decode cX10_init 185 = .ok (.iastore, 1) := by decide +kernel
theorem dX10_init_186 : decode cX10_init 186 = .ok (.aload_n 0, 1) := by decide +kernel
theorem dX10_init_187 : decode cX10_init 187 = .ok (.getfield 7, 3) := by decide +kernel
theorem dX10_init_190 : decode cX10_init 190 = .ok (.bipush 28, 2) := by decide +kernel
theorem dX10_init_192 : decode cX10_init 192 = .ok (.bipush 10, 2) := by decide +kernel
theorem dX10_init_194 : decode cX10_init 194 = .ok (.iastore, 1) := by decide +kernel
theorem dX10_init_195 : decode cX10_init 195 = .ok (.return_, 1) := by decide +kernel
theorem dX10_in_0 : decode cX10_in 0 = .ok (.iload_n 0, 1) := by decide +kernel
theorem dX10_in_1 : decode cX10_in 1 = .ok (.iload_n 1, 1) := by decide +kernel
theorem dX10_in_2 : decode cX10_in 2 = .ok (.if_icmp .lt 12, 3) := by decide +kernel
theorem dX10_in_5 : decode cX10_in 5 = .ok (.iload_n 0, 1) := by decide +kernel
theorem dX10_in_6 : decode cX10_in 6 = .ok (.iload_n 2, 1) := by decide +kernel
theorem dX10_in_7 : decode cX10_in 7 = .ok (.if_icmp .gt 7, 3) := by decide +kernel
theorem dX10_in_10 : decode cX10_in 10 = .ok (.iconst 1, 1) := by decide +kernel
theorem dX10_in_11 : decode cX10_in 11 = .ok (.goto 4, 3) := by decide +kernel
theorem dX10_in_14 : decode cX10_in 14 = .ok (.iconst 0, 1) := by decide +kernel
theorem dX10_in_15 : decode cX10_in 15 = .ok (.ireturn, 1) := by decide +kernel
theorem dX10_setting_0 : decode cX10_setting 0 = .ok (.aload_n 0, 1) := by decide +kernel
theorem dX10_setting_1 : decode cX10_setting 1 = .ok (.getfield 7, 3) := by decide +kernel
theorem dX10_setting_4 : decode cX10_setting 4 = .ok (.bipush 20, 2) := by decide +kernel
theorem dX10_setting_6 : decode cX10_setting 6 = .ok (.iload_n 1, 1) := by decide +kernel
theorem dX10_setting_7 : decode cX10_setting 7 = .ok (.iadd, 1) := by decide +kernel
theorem dX10_setting_8 : decode cX10_setting 8 = .ok (.iaload, 1) := by decide +kernel
theorem dX10_setting_9 : decode cX10_setting 9 = .ok (.ireturn, 1) := by decide +kernel
theorem dX10_sizeOf_0 : decode cX10_sizeOf 0 = .ok (.iload_n 0, 1) := by decide +kernel
theorem dX10_sizeOf_1 : decode cX10_sizeOf 1 = .ok (.ifCond .ge 8, 3) := by decide +kernel
theorem dX10_sizeOf_4 : decode cX10_sizeOf 4 = .ok (.iload_n 0, 1) := by decide +kernel
theorem dX10_sizeOf_5 : decode cX10_sizeOf 5 = .ok (.ineg, 1) := by decide +kernel
theorem dX10_sizeOf_6 : decode cX10_sizeOf 6 = .ok (.goto 4, 3) := by decide +kernel
theorem dX10_sizeOf_9 : decode cX10_sizeOf 9 = .ok (.iload_n 0, 1) := by decide +kernel
theorem dX10_sizeOf_10 : decode cX10_sizeOf 10 = .ok (.ireturn, 1) := by decide +kernel
theorem dX10_limited_0 : decode cX10_limited 0 = .ok (.lload_n 0, 1) := by decide +kernel
theorem dX10_limited_1 : decode cX10_limited 1 = .ok (.iload_n 2, 1) := by decide +kernel
theorem dX10_limited_2 : decode cX10_limited 2 = .ok (.i2l, 1) := by decide +kernel
theorem dX10_limited_3 : decode cX10_limited 3 = .ok (.lcmp, 1) := by decide +kernel
theorem dX10_limited_4 : decode cX10_limited 4 = .ok (.ifCond .le 8, 3) := by decide +kernel
theorem dX10_limited_7 : decode cX10_limited 7 = .ok (.iload_n 2, 1) := by decide +kernel
theorem dX10_limited_8 : decode cX10_limited 8 = .ok (.i2l, 1) := by decide +kernel
theorem dX10_limited_9 : decode cX10_limited 9 = .ok (.goto 18, 3) := by decide +kernel
theorem dX10_limited_12 : decode cX10_limited 12 = .ok (.lload_n 0, 1) := by decide +kernel
theorem dX10_limited_13 : decode cX10_limited 13 = .ok (.iload_n 2, 1) := by decide +kernel
theorem dX10_limited_14 : decode cX10_limited 14 = .ok (.ineg, 1) := by decide +kernel
theorem dX10_limited_15 : decode cX10_limited 15 = .ok (.i2l, 1) := by decide +kernel
theorem dX10_limited_16 : decode cX10_limited 16 = .ok (.lcmp, 1) := by decide +kernel
theorem dX10_limited_17 : decode cX10_limited 17 = .ok (.ifCond .ge 9, 3) := by decide +kernel
theorem dX10_limited_20 : decode cX10_limited 20 = .ok (.iload_n 2, 1) := by decide +kernel
theorem dX10_limited_21 : decode cX10_limited 21 = .ok (.ineg, 1) := by decide +kernel
theorem dX10_limited_22 : decode cX10_limited 22 = .ok (.i2l, 1) := by decide +kernel
theorem dX10_limited_23 : decode cX10_limited 23 = .ok (.goto 4, 3) := by decide +kernel
theorem dX10_limited_26 : decode cX10_limited 26 = .ok (.lload_n 0, 1) := by decide +kernel
theorem dX10_limited_27 : decode cX10_limited 27 = .ok (.l2i, 1) := by decide +kernel
theorem dX10_limited_28 : decode cX10_limited 28 = .ok (.ireturn, 1) := by decide +kernel
theorem dX10_keep_0 : decode cX10_keep 0 = .ok (.aload_n 0, 1) := by decide +kernel
theorem dX10_keep_1 : decode cX10_keep 1 = .ok (.getfield 45, 3) := by decide +kernel
theorem dX10_keep_4 : decode cX10_keep 4 = .ok (.bipush 6, 2) := by decide +kernel
theorem dX10_keep_6 : decode cX10_keep 6 = .ok (.if_icmp .ne 72, 3) := by decide +kernel
theorem dX10_keep_9 : decode cX10_keep 9 = .ok (.iconst 0, 1) := by decide +kernel
theorem dX10_keep_10 : decode cX10_keep 10 = .ok (.istore_n 1, 1) := by decide +kernel
theorem dX10_keep_11 : decode cX10_keep 11 = .ok (.iload_n 1, 1) := by decide +kernel
theorem dX10_keep_12 : decode cX10_keep 12 = .ok (.sipush 425, 3) := by decide +kernel
theorem dX10_keep_15 : decode cX10_keep 15 = .ok (.if_icmp .ge 24, 3) := by decide +kernel
theorem dX10_keep_18 : decode cX10_keep 18 = .ok (.aload_n 0, 1) := by decide +kernel
theorem dX10_keep_19 : decode cX10_keep 19 = .ok (.getfield 23, 3) := by decide +kernel
theorem dX10_keep_22 : decode cX10_keep 22 = .ok (.iload_n 1, 1) := by decide +kernel
theorem dX10_keep_23 : decode cX10_keep 23 = .ok (.aload_n 0, 1) := by decide +kernel
theorem dX10_keep_24 : decode cX10_keep 24 = .ok (.getfield 23, 3) := by decide +kernel
theorem dX10_keep_27 : decode cX10_keep 27 = .ok (.iload_n 1, 1) := by decide +kernel
theorem dX10_keep_28 : decode cX10_keep 28 = .ok (.bipush 85, 2) := by decide +kernel
theorem dX10_keep_30 : decode cX10_keep 30 = .ok (.iadd, 1) := by decide +kernel
theorem dX10_keep_31 : decode cX10_keep 31 = .ok (.iaload, 1) := by decide +kernel
theorem dX10_keep_32 : decode cX10_keep 32 = .ok (.iastore, 1) := by decide +kernel
theorem dX10_keep_33 : decode cX10_keep 33 = .ok (.iinc 1 1, 3) := by decide +kernel
theorem dX10_keep_36 : decode cX10_keep 36 = .ok (.goto (-25), 3) := by decide +kernel
theorem dX10_keep_39 : decode cX10_keep 39 = .ok (.iconst 0, 1) := by decide +kernel
theorem dX10_keep_40 : decode cX10_keep 40 = .ok (.istore_n 1, 1) := by decide +kernel
theorem dX10_keep_41 : decode cX10_keep 41 = .ok (.iload_n 1, 1) := by decide +kernel
theorem dX10_keep_42 : decode cX10_keep 42 = .ok (.bipush 45, 2) := by decide +kernel
theorem dX10_keep_44 : decode cX10_keep 44 = .ok (.if_icmp .ge 24, 3) := by decide +kernel
theorem dX10_keep_47 : decode cX10_keep 47 = .ok (.aload_n 0, 1) := by decide +kernel
theorem dX10_keep_48 : decode cX10_keep 48 = .ok (.getfield 26, 3) := by decide +kernel
theorem dX10_keep_51 : decode cX10_keep 51 = .ok (.iload_n 1, 1) := by decide +kernel
theorem dX10_keep_52 : decode cX10_keep 52 = .ok (.aload_n 0, 1) := by decide +kernel
theorem dX10_keep_53 : decode cX10_keep 53 = .ok (.getfield 26, 3) := by decide +kernel
theorem dX10_keep_56 : decode cX10_keep 56 = .ok (.iload_n 1, 1) := by decide +kernel
theorem dX10_keep_57 : decode cX10_keep 57 = .ok (.bipush 9, 2) := by decide +kernel
theorem dX10_keep_59 : decode cX10_keep 59 = .ok (.iadd, 1) := by decide +kernel
theorem dX10_keep_60 : decode cX10_keep 60 = .ok (.laload, 1) := by decide +kernel
theorem dX10_keep_61 : decode cX10_keep 61 = .ok (.lastore, 1) := by decide +kernel
theorem dX10_keep_62 : decode cX10_keep 62 = .ok (.iinc 1 1, 3) := by decide +kernel
theorem dX10_keep_65 : decode cX10_keep 65 = .ok (.goto (-24), 3) := by decide +kernel
theorem dX10_keep_68 : decode cX10_keep 68 = .ok (.aload_n 0, 1) := by decide +kernel
theorem dX10_keep_69 : decode cX10_keep 69 = .ok (.dup, 1) := by decide +kernel
theorem dX10_keep_70 : decode cX10_keep 70 = .ok (.getfield 45, 3) := by decide +kernel
theorem dX10_keep_73 : decode cX10_keep 73 = .ok (.iconst 1, 1) := by decide +kernel
theorem dX10_keep_74 : decode cX10_keep 74 = .ok (.isub, 1) := by decide +kernel
theorem dX10_keep_75 : decode cX10_keep 75 = .ok (.putfield 45, 3) := by decide +kernel
theorem dX10_keep_78 : decode cX10_keep 78 = .ok (.iconst 0, 1) := by decide +kernel
theorem dX10_keep_79 : decode cX10_keep 79 = .ok (.istore_n 1, 1) := by decide +kernel
theorem dX10_keep_80 : decode cX10_keep 80 = .ok (.iload_n 1, 1) := by decide +kernel
theorem dX10_keep_81 : decode cX10_keep 81 = .ok (.bipush 85, 2) := by decide +kernel
theorem dX10_keep_83 : decode cX10_keep 83 = .ok (.if_icmp .ge 29, 3) := by decide +kernel
theorem dX10_keep_86 : decode cX10_keep 86 = .ok (.aload_n 0, 1) := by decide +kernel
theorem dX10_keep_87 : decode cX10_keep 87 = .ok (.getfield 23, 3) := by decide +kernel
theorem dX10_keep_90 : decode cX10_keep 90 = .ok (.bipush 85, 2) := by decide +kernel
theorem dX10_keep_92 : decode cX10_keep 92 = .ok (.aload_n 0, 1) := by decide +kernel
theorem dX10_keep_93 : decode cX10_keep 93 = .ok (.getfield 45, 3) := by decide +kernel
theorem dX10_keep_96 : decode cX10_keep 96 = .ok (.imul, 1) := by decide +kernel
theorem dX10_keep_97 : decode cX10_keep 97 = .ok (.iload_n 1, 1) := by decide +kernel
theorem dX10_keep_98 : decode cX10_keep 98 = .ok (.iadd, 1) := by decide +kernel
theorem dX10_keep_99 : decode cX10_keep 99 = .ok (.aload_n 0, 1) := by decide +kernel
theorem dX10_keep_100 : decode cX10_keep 100 = .ok (.getfield 7, 3) := by decide +kernel
theorem dX10_keep_103 : decode cX10_keep 103 = .ok (.iload_n 1, 1) := by decide +kernel
theorem dX10_keep_104 : decode cX10_keep 104 = .ok (.iaload, 1) := by decide +kernel
theorem dX10_keep_105 : decode cX10_keep 105 = .ok (.iastore, 1) := by decide +kernel
theorem dX10_keep_106 : decode cX10_keep 106 = .ok (.iinc 1 1, 3) := by decide +kernel
theorem dX10_keep_109 : decode cX10_keep 109 = .ok (.goto (-29), 3) := by decide +kernel
theorem dX10_keep_112 : decode cX10_keep 112 = .ok (.iconst 0, 1) := by decide +kernel
theorem dX10_keep_113 : decode cX10_keep 113 = .ok (.istore_n 1, 1) := by decide +kernel
theorem dX10_keep_114 : decode cX10_keep 114 = .ok (.iload_n 1, 1) := by decide +kernel
theorem dX10_keep_115 : decode cX10_keep 115 = .ok (.bipush 9, 2) := by decide +kernel
theorem dX10_keep_117 : decode cX10_keep 117 = .ok (.if_icmp .ge 29, 3) := by decide +kernel
theorem dX10_keep_120 : decode cX10_keep 120 = .ok (.aload_n 0, 1) := by decide +kernel
theorem dX10_keep_121 : decode cX10_keep 121 = .ok (.getfield 26, 3) := by decide +kernel
theorem dX10_keep_124 : decode cX10_keep 124 = .ok (.bipush 9, 2) := by decide +kernel
theorem dX10_keep_126 : decode cX10_keep 126 = .ok (.aload_n 0, 1) := by decide +kernel
theorem dX10_keep_127 : decode cX10_keep 127 = .ok (.getfield 45, 3) := by decide +kernel
theorem dX10_keep_130 : decode cX10_keep 130 = .ok (.imul, 1) := by decide +kernel
theorem dX10_keep_131 : decode cX10_keep 131 = .ok (.iload_n 1, 1) := by decide +kernel
theorem dX10_keep_132 : decode cX10_keep 132 = .ok (.iadd, 1) := by decide +kernel
theorem dX10_keep_133 : decode cX10_keep 133 = .ok (.aload_n 0, 1) := by decide +kernel
theorem dX10_keep_134 : decode cX10_keep 134 = .ok (.getfield 13, 3) := by decide +kernel
theorem dX10_keep_137 : decode cX10_keep 137 = .ok (.iload_n 1, 1) := by decide +kernel
theorem dX10_keep_138 : decode cX10_keep 138 = .ok (.laload, 1) := by decide +kernel
theorem dX10_keep_139 : decode cX10_keep 139 = .ok (.lastore, 1) := by decide +kernel
theorem dX10_keep_140 : decode cX10_keep 140 = .ok (.iinc 1 1, 3) := by decide +kernel
theorem dX10_keep_143 : decode cX10_keep 143 = .ok (.goto (-29), 3) := by decide +kernel
theorem dX10_keep_146 : decode cX10_keep 146 = .ok (.aload_n 0, 1) := by decide +kernel
theorem dX10_keep_147 : decode cX10_keep 147 = .ok (.dup, 1) := by decide +kernel
theorem dX10_keep_148 : decode cX10_keep 148 = .ok (.getfield 45, 3) := by decide +kernel
theorem dX10_keep_151 : decode cX10_keep 151 = .ok (.iconst 1, 1) := by decide +kernel
theorem dX10_keep_152 : decode cX10_keep 152 = .ok (.iadd, 1) := by decide +kernel
theorem dX10_keep_153 : decode cX10_keep 153 = .ok (.putfield 45, 3) := by decide +kernel
theorem dX10_keep_156 : decode cX10_keep 156 = .ok (.return_, 1) := by decide +kernel
theorem dX10_halfSine_0 : decode cX10_halfSine 0 = .ok (.iload_n 0, 1) := by decide +kernel
theorem dX10_halfSine_1 : decode cX10_halfSine 1 = .ok (.i2l, 1) := by decide +kernel
theorem dX10_halfSine_2 : decode cX10_halfSine 2 = .ok (.sipush 18000, 3) := by decide +kernel
theorem dX10_halfSine_5 : decode cX10_halfSine 5 = .ok (.iload_n 0, 1) := by decide +kernel
theorem dX10_halfSine_6 : decode cX10_halfSine 6 = .ok (.isub, 1) := by decide +kernel
theorem dX10_halfSine_7 : decode cX10_halfSine 7 = .ok (.i2l, 1) := by decide +kernel
theorem dX10_halfSine_8 : decode cX10_halfSine 8 = .ok (.lmul, 1) := by decide +kernel
theorem dX10_halfSine_9 : decode cX10_halfSine 9 = .ok (.lstore_n 1, 1) := by decide +kernel
theorem dX10_halfSine_10 : decode cX10_halfSine 10 = .ok (.ldc2_w 49, 3) := by decide +kernel
theorem dX10_halfSine_13 : decode cX10_halfSine 13 = .ok (.lload_n 1, 1) := by decide +kernel
theorem dX10_halfSine_14 : decode cX10_halfSine 14 = .ok (.lmul, 1) := by decide +kernel
theorem dX10_halfSine_15 : decode cX10_halfSine 15 = .ok (.ldc2_w 51, 3) := by decide +kernel
theorem dX10_halfSine_18 : decode cX10_halfSine 18 = .ok (.lload_n 1, 1) := by decide +kernel
theorem dX10_halfSine_19 : decode cX10_halfSine 19 = .ok (.lsub, 1) := by decide +kernel
theorem dX10_halfSine_20 : decode cX10_halfSine 20 = .ok (.ldiv, 1) := by decide +kernel
theorem dX10_halfSine_21 : decode cX10_halfSine 21 = .ok (.l2i, 1) := by decide +kernel
theorem dX10_halfSine_22 : decode cX10_halfSine 22 = .ok (.ireturn, 1) := by decide +kernel
set_option maxRecDepth 20000 in
theorem ggX10_sine_X10_halfSine : GoodIn wsX10_sine wsX10_halfSine := goodIn_r _ [4, 5, 6] (by decide +kernel) (by decide +kernel)
set_option maxRecDepth 20000 in
theorem gX10_sine_X10_halfSine : GoodIn wsX10_sine (va_wsS RX10 53 yX10_halfSine wsX10_halfSine) := goodIn_app (goodIn_of _ (by decide +kernel)) ggX10_sine_X10_halfSine
theorem dX10_sine_0 : decode cX10_sine 0 = .ok (.iload_n 0, 1) := by decide +kernel
theorem dX10_sine_1 : decode cX10_sine 1 = .ok (.sipush 18000, 3) := by decide +kernel
theorem dX10_sine_4 : decode cX10_sine 4 = .ok (.if_icmp .gt 10, 3) := by decide +kernel
theorem dX10_sine_7 : decode cX10_sine 7 = .ok (.iload_n 0, 1) := by decide +kernel
theorem dX10_sine_8 : decode cX10_sine 8 = .ok (.invokestatic 53, 3) := by decide +kernel
theorem dX10_sine_11 : decode cX10_sine 11 = .ok (.goto 12, 3) := by decide +kernel
theorem dX10_sine_14 : decode cX10_sine 14 = .ok (.iload_n 0, 1) := by decide +kernel
theorem dX10_sine_15 : decode cX10_sine 15 = .ok (.sipush 18000, 3) := by decide +kernel
theorem dX10_sine_18 : decode cX10_sine 18 = .ok (.isub, 1) := by decide +kernel
theorem dX10_sine_19 : decode cX10_sine 19 = .ok (.invokestatic 53, 3) := by decide +kernel
theorem dX10_sine_22 : decode cX10_sine 22 = .ok (.ineg, 1) := by decide +kernel
theorem dX10_sine_23 : decode cX10_sine 23 = .ok (.ireturn, 1) := by decide +kernel
set_option maxRecDepth 20000 in
theorem ggX10_cosine_X10_sine : GoodIn wsX10_cosine wsX10_sine := goodIn_r _ [5, 6, 7, 4, 8, 9, 10] (by decide +kernel) (by decide +kernel)
set_option maxRecDepth 20000 in
theorem gX10_cosine_X10_sine : GoodIn wsX10_cosine (va_wsS RX10 58 yX10_sine wsX10_sine) := goodIn_app (goodIn_of _ (by decide +kernel)) ggX10_cosine_X10_sine
theorem dX10_cosine_0 : decode cX10_cosine 0 = .ok (.iload_n 0, 1) := by decide +kernel
theorem dX10_cosine_1 : decode cX10_cosine 1 = .ok (.sipush 9000, 3) := by decide +kernel
theorem dX10_cosine_4 : decode cX10_cosine 4 = .ok (.iadd, 1) := by decide +kernel
theorem dX10_cosine_5 : decode cX10_cosine 5 = .ok (.ldc 57, 2) := by decide +kernel
theorem dX10_cosine_7 : decode cX10_cosine 7 = .ok (.irem, 1) := by decide +kernel
theorem dX10_cosine_8 : decode cX10_cosine 8 = .ok (.invokestatic 58, 3) := by decide +kernel
theorem dX10_cosine_11 : decode cX10_cosine 11 = .ok (.ireturn, 1) := by decide +kernel
set_option maxRecDepth 20000 in
theorem ggX10_courseOf_X10_sizeOf : GoodIn wsX10_courseOf wsX10_sizeOf := goodIn_r _ [4] (by decide +kernel) (by decide +kernel)
set_option maxRecDepth 20000 in
theorem gX10_courseOf_X10_sizeOf : GoodIn wsX10_courseOf (va_wsS RX10 61 yX10_sizeOf wsX10_sizeOf) := goodIn_app (goodIn_of _ (by decide +kernel)) ggX10_courseOf_X10_sizeOf
theorem dX10_courseOf_0 : decode cX10_courseOf 0 = .ok (.iload_n 0, 1) := by decide +kernel
theorem dX10_courseOf_1 : decode cX10_courseOf 1 = .ok (.invokestatic 61, 3) := by decide +kernel
theorem dX10_courseOf_4 : decode cX10_courseOf 4 = .ok (.sipush 10000, 3) := by decide +kernel
theorem dX10_courseOf_7 : decode cX10_courseOf 7 = .ok (.idiv, 1) := by decide +kernel
theorem dX10_courseOf_8 : decode cX10_courseOf 8 = .ok (.ireturn, 1) := by decide +kernel
set_option maxRecDepth 20000 in
theorem ggX10_sineOf_X10_courseOf : GoodIn wsX10_sineOf wsX10_courseOf := goodIn_r _ [4, 5, 6, 3, 7] (by decide +kernel) (by decide +kernel)
set_option maxRecDepth 20000 in
theorem gX10_sineOf_X10_courseOf : GoodIn wsX10_sineOf (va_wsS RX10 64 yX10_courseOf wsX10_courseOf) := goodIn_app (goodIn_of _ (by decide +kernel)) ggX10_sineOf_X10_courseOf
set_option maxRecDepth 20000 in
theorem ggX10_sineOf_X10_sine : GoodIn wsX10_sineOf wsX10_sine := goodIn_r _ [10, 11, 12, 3, 13, 14, 15] (by decide +kernel) (by decide +kernel)
set_option maxRecDepth 20000 in
theorem gX10_sineOf_X10_sine : GoodIn wsX10_sineOf (va_wsS RX10 58 yX10_sine wsX10_sine) := goodIn_app (goodIn_of _ (by decide +kernel)) ggX10_sineOf_X10_sine
theorem dX10_sineOf_0 : decode cX10_sineOf 0 = .ok (.iload_n 0, 1) := by decide +kernel
theorem dX10_sineOf_1 : decode cX10_sineOf 1 = .ok (.invokestatic 64, 3) := by decide +kernel
theorem dX10_sineOf_4 : decode cX10_sineOf 4 = .ok (.invokestatic 58, 3) := by decide +kernel
theorem dX10_sineOf_7 : decode cX10_sineOf 7 = .ok (.istore_n 1, 1) := by decide +kernel
theorem dX10_sineOf_8 : decode cX10_sineOf 8 = .ok (.iload_n 0, 1) := by decide +kernel
theorem dX10_sineOf_9 : decode cX10_sineOf 9 = .ok (.ifCond .ge 9, 3) := by decide +kernel
theorem dX10_sineOf_12 : decode cX10_sineOf 12 = .ok (.iload_n 1, 1) := by decide +kernel
theorem dX10_sineOf_13 : decode cX10_sineOf 13 = .ok (.ineg, 1) := by decide +kernel
theorem dX10_sineOf_14 : decode cX10_sineOf 14 = .ok (.i2l, 1) := by decide +kernel
theorem dX10_sineOf_15 : decode cX10_sineOf 15 = .ok (.goto 5, 3) := by decide +kernel
theorem dX10_sineOf_18 : decode cX10_sineOf 18 = .ok (.iload_n 1, 1) := by decide +kernel
theorem dX10_sineOf_19 : decode cX10_sineOf 19 = .ok (.i2l, 1) := by decide +kernel
theorem dX10_sineOf_20 : decode cX10_sineOf 20 = .ok (.lreturn, 1) := by decide +kernel
set_option maxRecDepth 20000 in
theorem ggX10_cosineOf_X10_courseOf : GoodIn wsX10_cosineOf wsX10_courseOf := goodIn_r _ [4, 5, 6, 3, 7] (by decide +kernel) (by decide +kernel)
set_option maxRecDepth 20000 in
theorem gX10_cosineOf_X10_courseOf : GoodIn wsX10_cosineOf (va_wsS RX10 64 yX10_courseOf wsX10_courseOf) := goodIn_app (goodIn_of _ (by decide +kernel)) ggX10_cosineOf_X10_courseOf
set_option maxRecDepth 20000 in
theorem ggX10_cosineOf_X10_cosine : GoodIn wsX10_cosineOf wsX10_cosine := goodIn_r _ [10, 11, 12, 13, 3, 14, 15, 16, 17, 18, 19] (by decide +kernel) (by decide +kernel)
set_option maxRecDepth 20000 in
theorem gX10_cosineOf_X10_cosine : GoodIn wsX10_cosineOf (va_wsS RX10 67 yX10_cosine wsX10_cosine) := goodIn_app (goodIn_of _ (by decide +kernel)) ggX10_cosineOf_X10_cosine
theorem dX10_cosineOf_0 : decode cX10_cosineOf 0 = .ok (.iload_n 0, 1) := by decide +kernel
theorem dX10_cosineOf_1 : decode cX10_cosineOf 1 = .ok (.invokestatic 64, 3) := by decide +kernel
theorem dX10_cosineOf_4 : decode cX10_cosineOf 4 = .ok (.invokestatic 67, 3) := by decide +kernel
theorem dX10_cosineOf_7 : decode cX10_cosineOf 7 = .ok (.i2l, 1) := by decide +kernel
theorem dX10_cosineOf_8 : decode cX10_cosineOf 8 = .ok (.lreturn, 1) := by decide +kernel
set_option maxRecDepth 20000 in
theorem ggX10_restBy_X10_setting : GoodIn wsX10_restBy wsX10_setting := goodIn_r _ [6, 7, 32, 33, 34, 35, 36, 37, 38, 39, 40, 41, 42, 43, 44, 45, 46, 47] (by decide +kernel) (by decide +kernel)
set_option maxRecDepth 20000 in
theorem gX10_restBy_X10_setting : GoodIn wsX10_restBy (wsV RX10 70 RX10 yX10_setting wsX10_setting) := goodIn_app (goodIn_of _ (by decide +kernel)) ggX10_restBy_X10_setting
set_option maxRecDepth 20000 in
theorem ggX10_restBy_X10_sineOf : GoodIn wsX10_restBy wsX10_sineOf := goodIn_r _ [10, 11, 12, 5, 13, 14, 15, 16, 17, 18, 19, 20, 21, 22, 23, 24] (by decide +kernel) (by decide +kernel)
set_option maxRecDepth 20000 in
theorem gX10_restBy_X10_sineOf : GoodIn wsX10_restBy (va_wsS RX10 73 yX10_sineOf wsX10_sineOf) := goodIn_app (goodIn_of _ (by decide +kernel)) ggX10_restBy_X10_sineOf
set_option maxRecDepth 20000 in
theorem ggX10_restBy_X10_cosineOf : GoodIn wsX10_restBy wsX10_cosineOf := goodIn_r _ [27, 11, 12, 5, 13, 14, 15, 16, 28, 29, 30, 31, 17, 18, 19, 20, 21, 22, 23, 24] (by decide +kernel) (by decide +kernel)
set_option maxRecDepth 20000 in
theorem gX10_restBy_X10_cosineOf : GoodIn wsX10_restBy (va_wsS RX10 77 yX10_cosineOf wsX10_cosineOf) := goodIn_app (goodIn_of _ (by decide +kernel)) ggX10_restBy_X10_cosineOf
set_option maxRecDepth 20000 in
theorem ggX10_restBy_X10_cosine : GoodIn wsX10_restBy wsX10_cosine := goodIn_r _ [30, 31, 17, 18, 5, 19, 20, 21, 22, 23, 24] (by decide +kernel) (by decide +kernel)
set_option maxRecDepth 20000 in
theorem gX10_restBy_X10_cosine : GoodIn wsX10_restBy (va_wsS RX10 67 yX10_cosine wsX10_cosine) := goodIn_app (goodIn_of _ (by decide +kernel)) ggX10_restBy_X10_cosine
theorem dX10_restBy_0 : decode cX10_restBy 0 = .ok (.aload_n 0, 1) := by decide +kernel
theorem dX10_restBy_1 : decode cX10_restBy 1 = .ok (.iconst 2, 1) := by decide +kernel
theorem dX10_restBy_2 : decode cX10_restBy 2 = .ok (.invokevirtual 70, 3) := by decide +kernel
theorem dX10_restBy_5 : decode cX10_restBy 5 = .ok (.i2l, 1) := by decide +kernel
theorem dX10_restBy_6 : decode cX10_restBy 6 = .ok (.iload_n 1, 1) := by decide +kernel
theorem dX10_restBy_7 : decode cX10_restBy 7 = .ok (.invokestatic 73, 3) := by decide +kernel
theorem dX10_restBy_10 : decode cX10_restBy 10 = .ok (.lmul, 1) := by decide +kernel
theorem dX10_restBy_11 : decode cX10_restBy 11 = .ok (.iload_n 1, 1) := by decide +kernel
theorem dX10_restBy_12 : decode cX10_restBy 12 = .ok (.invokestatic 77, 3) := by decide +kernel
theorem dX10_restBy_15 : decode cX10_restBy 15 = .ok (.ldiv, 1) := by decide +kernel
theorem dX10_restBy_16 : decode cX10_restBy 16 = .ok (.lstore 4, 2) := by decide +kernel
theorem dX10_restBy_18 : decode cX10_restBy 18 = .ok (.ldc2_w 80, 3) := by decide +kernel
theorem dX10_restBy_21 : decode cX10_restBy 21 = .ok (.iload_n 2, 1) := by decide +kernel
theorem dX10_restBy_22 : decode cX10_restBy 22 = .ok (.i2l, 1) := by decide +kernel
theorem dX10_restBy_23 : decode cX10_restBy 23 = .ok (.lmul, 1) := by decide +kernel
theorem dX10_restBy_24 : decode cX10_restBy 24 = .ok (.iload_n 3, 1) := by decide +kernel
theorem dX10_restBy_25 : decode cX10_restBy 25 = .ok (.invokestatic 67, 3) := by decide +kernel
theorem dX10_restBy_28 : decode cX10_restBy 28 = .ok (.i2l, 1) := by decide +kernel
theorem dX10_restBy_29 : decode cX10_restBy 29 = .ok (.lmul, 1) := by decide +kernel
theorem dX10_restBy_30 : decode cX10_restBy 30 = .ok (.iload_n 1, 1) := by decide +kernel
theorem dX10_restBy_31 : decode cX10_restBy 31 = .ok (.invokestatic 77, 3) := by decide +kernel
theorem dX10_restBy_34 : decode cX10_restBy 34 = .ok (.ldiv, 1) := by decide +kernel
theorem dX10_restBy_35 : decode cX10_restBy 35 = .ok (.lstore 6, 2) := by decide +kernel
theorem dX10_restBy_37 : decode cX10_restBy 37 = .ok (.lload 4, 2) := by decide +kernel
theorem dX10_restBy_39 : decode cX10_restBy 39 = .ok (.lload 6, 2) := by decide +kernel
theorem dX10_restBy_41 : decode cX10_restBy 41 = .ok (.lsub, 1) := by decide +kernel
theorem dX10_restBy_42 : decode cX10_restBy 42 = .ok (.l2i, 1) := by decide +kernel
theorem dX10_restBy_43 : decode cX10_restBy 43 = .ok (.ireturn, 1) := by decide +kernel
theorem dX10_course_0 : decode cX10_course 0 = .ok (.aload_n 0, 1) := by decide +kernel
theorem dX10_course_1 : decode cX10_course 1 = .ok (.getfield 7, 3) := by decide +kernel
theorem dX10_course_4 : decode cX10_course 4 = .ok (.iconst 3, 1) := by decide +kernel
theorem dX10_course_5 : decode cX10_course 5 = .ok (.iaload, 1) := by decide +kernel
theorem dX10_course_6 : decode cX10_course 6 = .ok (.ifCond .le 13, 3) := by decide +kernel
theorem dX10_course_9 : decode cX10_course 9 = .ok (.aload_n 0, 1) := by decide +kernel
theorem dX10_course_10 : decode cX10_course 10 = .ok (.getfield 7, 3) := by decide +kernel
theorem dX10_course_13 : decode cX10_course 13 = .ok (.bipush 34, 2) := by decide +kernel
theorem dX10_course_15 : decode cX10_course 15 = .ok (.iaload, 1) := by decide +kernel
theorem dX10_course_16 : decode cX10_course 16 = .ok (.goto 9, 3) := by decide +kernel
theorem dX10_course_19 : decode cX10_course 19 = .ok (.aload_n 0, 1) := by decide +kernel
theorem dX10_course_20 : decode cX10_course 20 = .ok (.getfield 7, 3) := by decide +kernel
theorem dX10_course_23 : decode cX10_course 23 = .ok (.iconst 1, 1) := by decide +kernel
theorem dX10_course_24 : decode cX10_course 24 = .ok (.iaload, 1) := by decide +kernel
theorem dX10_course_25 : decode cX10_course 25 = .ok (.ireturn, 1) := by decide +kernel
theorem dX10_speed_0 : decode cX10_speed 0 = .ok (.aload_n 0, 1) := by decide +kernel
theorem dX10_speed_1 : decode cX10_speed 1 = .ok (.getfield 7, 3) := by decide +kernel
theorem dX10_speed_4 : decode cX10_speed 4 = .ok (.iconst 3, 1) := by decide +kernel
theorem dX10_speed_5 : decode cX10_speed 5 = .ok (.iaload, 1) := by decide +kernel
theorem dX10_speed_6 : decode cX10_speed 6 = .ok (.ifCond .le 13, 3) := by decide +kernel
theorem dX10_speed_9 : decode cX10_speed 9 = .ok (.aload_n 0, 1) := by decide +kernel
theorem dX10_speed_10 : decode cX10_speed 10 = .ok (.getfield 7, 3) := by decide +kernel
theorem dX10_speed_13 : decode cX10_speed 13 = .ok (.bipush 35, 2) := by decide +kernel
theorem dX10_speed_15 : decode cX10_speed 15 = .ok (.iaload, 1) := by decide +kernel
theorem dX10_speed_16 : decode cX10_speed 16 = .ok (.goto 9, 3) := by decide +kernel
theorem dX10_speed_19 : decode cX10_speed 19 = .ok (.aload_n 0, 1) := by decide +kernel
theorem dX10_speed_20 : decode cX10_speed 20 = .ok (.getfield 7, 3) := by decide +kernel
theorem dX10_speed_23 : decode cX10_speed 23 = .ok (.iconst 2, 1) := by decide +kernel
theorem dX10_speed_24 : decode cX10_speed 24 = .ok (.iaload, 1) := by decide +kernel
theorem dX10_speed_25 : decode cX10_speed 25 = .ok (.ireturn, 1) := by decide +kernel
set_option maxRecDepth 20000 in
theorem ggX10_rest_X10_speed : GoodIn wsX10_rest wsX10_speed := goodIn_r _ [7, 1, 45, 46, 47, 48, 49, 50, 51, 52, 53, 54, 55, 56, 57, 58, 59, 60] (by decide +kernel) (by decide +kernel)
set_option maxRecDepth 20000 in
theorem gX10_rest_X10_speed : GoodIn wsX10_rest (wsV RX10 82 RX10 yX10_speed wsX10_speed) := goodIn_app (goodIn_of _ (by decide +kernel)) ggX10_rest_X10_speed
set_option maxRecDepth 20000 in
theorem ggX10_rest_X10_course : GoodIn wsX10_rest wsX10_course := goodIn_r _ [11, 1, 45, 46, 47, 48, 49, 50, 51, 52, 53, 54, 55, 56, 57, 58, 59, 60] (by decide +kernel) (by decide +kernel)
set_option maxRecDepth 20000 in
theorem gX10_rest_X10_course : GoodIn wsX10_rest (wsV RX10 86 RX10 yX10_course wsX10_course) := goodIn_app (goodIn_of _ (by decide +kernel)) ggX10_rest_X10_course
set_option maxRecDepth 20000 in
theorem ggX10_rest_X10_restBy : GoodIn wsX10_rest wsX10_restBy := goodIn_r _ [15, 16, 17, 18, 19, 6, 20, 1, 21, 22, 23, 24, 25, 26, 27, 28, 29, 30, 31, 32, 33, 34, 35, 36, 37, 38, 39, 40, 41, 42, 43, 44, 45, 46, 47, 48, 49, 50, 51, 52, 53, 54, 55, 56, 57, 58, 59, 60] (by decide +kernel) (by decide +kernel)
set_option maxRecDepth 20000 in
theorem gX10_rest_X10_restBy : GoodIn wsX10_rest (wsV RX10 89 RX10 yX10_restBy wsX10_restBy) := goodIn_app (goodIn_of _ (by decide +kernel)) ggX10_rest_X10_restBy
theorem dX10_rest_0 : decode cX10_rest 0 = .ok (.aload_n 0, 1) := by decide +kernel
theorem dX10_rest_1 : decode cX10_rest 1 = .ok (.aload_n 0, 1) := by decide +kernel
theorem dX10_rest_2 : decode cX10_rest 2 = .ok (.getfield 7, 3) := by decide +kernel
theorem dX10_rest_5 : decode cX10_rest 5 = .ok (.iconst 0, 1) := by decide +kernel
theorem dX10_rest_6 : decode cX10_rest 6 = .ok (.iaload, 1) := by decide +kernel
theorem dX10_rest_7 : decode cX10_rest 7 = .ok (.aload_n 0, 1) := by decide +kernel
theorem dX10_rest_8 : decode cX10_rest 8 = .ok (.invokevirtual 82, 3) := by decide +kernel
theorem dX10_rest_11 : decode cX10_rest 11 = .ok (.aload_n 0, 1) := by decide +kernel
theorem dX10_rest_12 : decode cX10_rest 12 = .ok (.invokevirtual 86, 3) := by decide +kernel
theorem dX10_rest_15 : decode cX10_rest 15 = .ok (.invokevirtual 89, 3) := by decide +kernel
theorem dX10_rest_18 : decode cX10_rest 18 = .ok (.aload_n 0, 1) := by decide +kernel
theorem dX10_rest_19 : decode cX10_rest 19 = .ok (.ldc 93, 2) := by decide +kernel
theorem dX10_rest_21 : decode cX10_rest 21 = .ok (.aload_n 0, 1) := by decide +kernel
theorem dX10_rest_22 : decode cX10_rest 22 = .ok (.getfield 7, 3) := by decide +kernel
theorem dX10_rest_25 : decode cX10_rest 25 = .ok (.bipush 6, 2) := by decide +kernel
theorem dX10_rest_27 : decode cX10_rest 27 = .ok (.iaload, 1) := by decide +kernel
theorem dX10_rest_28 : decode cX10_rest 28 = .ok (.imul, 1) := by decide +kernel
theorem dX10_rest_29 : decode cX10_rest 29 = .ok (.aload_n 0, 1) := by decide +kernel
theorem dX10_rest_30 : decode cX10_rest 30 = .ok (.getfield 7, 3) := by decide +kernel
theorem dX10_rest_33 : decode cX10_rest 33 = .ok (.bipush 7, 2) := by decide +kernel
theorem dX10_rest_35 : decode cX10_rest 35 = .ok (.iaload, 1) := by decide +kernel
theorem dX10_rest_36 : decode cX10_rest 36 = .ok (.aload_n 0, 1) := by decide +kernel
theorem dX10_rest_37 : decode cX10_rest 37 = .ok (.invokevirtual 86, 3) := by decide +kernel
theorem dX10_rest_40 : decode cX10_rest 40 = .ok (.invokevirtual 89, 3) := by decide +kernel
theorem dX10_rest_43 : decode cX10_rest 43 = .ok (.isub, 1) := by decide +kernel
theorem dX10_rest_44 : decode cX10_rest 44 = .ok (.ireturn, 1) := by decide +kernel
set_option maxRecDepth 20000 in
theorem ggX10_takes_X10_in : GoodIn wsX10_takes wsX10_in := goodIn_r _ [7] (by decide +kernel) (by decide +kernel)
set_option maxRecDepth 20000 in
theorem gX10_takes_X10_in : GoodIn wsX10_takes (va_wsS RX10 94 yX10_in wsX10_in) := goodIn_app (goodIn_of _ (by decide +kernel)) ggX10_takes_X10_in
theorem dX10_takes_0 : decode cX10_takes 0 = .ok (.iload_n 0, 1) := by decide +kernel
theorem dX10_takes_1 : decode cX10_takes 1 = .ok (.tableswitch 115 0 7 #[47, 55, 64, 73, 81, 90, 98, 107], 47) := by decide +kernel
theorem dX10_takes_48 : decode cX10_takes 48 = .ok (.iload_n 1, 1) := by decide +kernel
theorem dX10_takes_49 : decode cX10_takes 49 = .ok (.iconst 1, 1) := by decide +kernel
theorem dX10_takes_50 : decode cX10_takes 50 = .ok (.bipush 100, 2) := by decide +kernel
theorem dX10_takes_52 : decode cX10_takes 52 = .ok (.invokestatic 94, 3) := by decide +kernel
theorem dX10_takes_55 : decode cX10_takes 55 = .ok (.ireturn, 1) := by decide +kernel
theorem dX10_takes_56 : decode cX10_takes 56 = .ok (.iload_n 1, 1) := by decide +kernel
theorem dX10_takes_57 : decode cX10_takes 57 = .ok (.iconst 1, 1) := by decide +kernel
theorem dX10_takes_58 : decode cX10_takes 58 = .ok (.sipush 1000, 3) := by decide +kernel
theorem dX10_takes_61 : decode cX10_takes 61 = .ok (.invokestatic 94, 3) := by decide +kernel
theorem dX10_takes_64 : decode cX10_takes 64 = .ok (.ireturn, 1) := by decide +kernel
theorem dX10_takes_65 : decode cX10_takes 65 = .ok (.iload_n 1, 1) := by decide +kernel
theorem dX10_takes_66 : decode cX10_takes 66 = .ok (.iconst 0, 1) := by decide +kernel
theorem dX10_takes_67 : decode cX10_takes 67 = .ok (.sipush 30000, 3) := by decide +kernel
theorem dX10_takes_70 : decode cX10_takes 70 = .ok (.invokestatic 94, 3) := by decide +kernel
theorem dX10_takes_73 : decode cX10_takes 73 = .ok (.ireturn, 1) := by decide +kernel
theorem dX10_takes_74 : decode cX10_takes 74 = .ok (.iload_n 1, 1) := by decide +kernel
theorem dX10_takes_75 : decode cX10_takes 75 = .ok (.iconst 0, 1) := by decide +kernel
theorem dX10_takes_76 : decode cX10_takes 76 = .ok (.ldc 98, 2) := by decide +kernel
theorem dX10_takes_78 : decode cX10_takes 78 = .ok (.invokestatic 94, 3) := by decide +kernel
theorem dX10_takes_81 : decode cX10_takes 81 = .ok (.ireturn, 1) := by decide +kernel
theorem dX10_takes_82 : decode cX10_takes 82 = .ok (.iload_n 1, 1) := by decide +kernel
theorem dX10_takes_83 : decode cX10_takes 83 = .ok (.iconst 0, 1) := by decide +kernel
theorem dX10_takes_84 : decode cX10_takes 84 = .ok (.sipush 20000, 3) := by decide +kernel
theorem dX10_takes_87 : decode cX10_takes 87 = .ok (.invokestatic 94, 3) := by decide +kernel
theorem dX10_takes_90 : decode cX10_takes 90 = .ok (.ireturn, 1) := by decide +kernel
theorem dX10_takes_91 : decode cX10_takes 91 = .ok (.iload_n 1, 1) := by decide +kernel
theorem dX10_takes_92 : decode cX10_takes 92 = .ok (.iconst 0, 1) := by decide +kernel
theorem dX10_takes_93 : decode cX10_takes 93 = .ok (.ldc 99, 2) := by decide +kernel
theorem dX10_takes_95 : decode cX10_takes 95 = .ok (.invokestatic 94, 3) := by decide +kernel
theorem dX10_takes_98 : decode cX10_takes 98 = .ok (.ireturn, 1) := by decide +kernel
theorem dX10_takes_99 : decode cX10_takes 99 = .ok (.iload_n 1, 1) := by decide +kernel
theorem dX10_takes_100 : decode cX10_takes 100 = .ok (.iconst 0, 1) := by decide +kernel
theorem dX10_takes_101 : decode cX10_takes 101 = .ok (.sipush 500, 3) := by decide +kernel
theorem dX10_takes_104 : decode cX10_takes 104 = .ok (.invokestatic 94, 3) := by decide +kernel
theorem dX10_takes_107 : decode cX10_takes 107 = .ok (.ireturn, 1) := by decide +kernel
theorem dX10_takes_108 : decode cX10_takes 108 = .ok (.iload_n 1, 1) := by decide +kernel
theorem dX10_takes_109 : decode cX10_takes 109 = .ok (.iconst 0, 1) := by decide +kernel
theorem dX10_takes_110 : decode cX10_takes 110 = .ok (.ldc 100, 2) := by decide +kernel
theorem dX10_takes_112 : decode cX10_takes 112 = .ok (.invokestatic 94, 3) := by decide +kernel
theorem dX10_takes_115 : decode cX10_takes 115 = .ok (.ireturn, 1) := by decide +kernel
theorem dX10_takes_116 : decode cX10_takes 116 = .ok (.iload_n 0, 1) := by decide +kernel
theorem dX10_takes_117 : decode cX10_takes 117 = .ok (.bipush 8, 2) := by decide +kernel
theorem dX10_takes_119 : decode cX10_takes 119 = .ok (.if_icmp .ne 17, 3) := by decide +kernel
theorem dX10_takes_122 : decode cX10_takes 122 = .ok (.iload_n 1, 1) := by decide +kernel
theorem dX10_takes_123 : decode cX10_takes 123 = .ok (.iconst 0, 1) := by decide +kernel
theorem dX10_takes_124 : decode cX10_takes 124 = .ok (.bipush 60, 2) := by decide +kernel
theorem dX10_takes_126 : decode cX10_takes 126 = .ok (.invokestatic 94, 3) := by decide +kernel
theorem dX10_takes_129 : decode cX10_takes 129 = .ok (.ifCond .eq 7, 3) := by decide +kernel
theorem dX10_takes_132 : decode cX10_takes 132 = .ok (.iconst 1, 1) := by decide +kernel
theorem dX10_takes_133 : decode cX10_takes 133 = .ok (.goto 4, 3) := by decide +kernel
theorem dX10_takes_136 : decode cX10_takes 136 = .ok (.iconst 0, 1) := by decide +kernel
theorem dX10_takes_137 : decode cX10_takes 137 = .ok (.ireturn, 1) := by decide +kernel
set_option maxRecDepth 20000 in
theorem ggX10_set_X10_takes : GoodIn wsX10_set wsX10_takes := goodIn_r _ [5, 6, 7, 8, 9, 10, 4, 11] (by decide +kernel) (by decide +kernel)
set_option maxRecDepth 20000 in
theorem gX10_set_X10_takes : GoodIn wsX10_set (va_wsS RX10 101 yX10_takes wsX10_takes) := goodIn_app (goodIn_of _ (by decide +kernel)) ggX10_set_X10_takes
set_option maxRecDepth 20000 in
theorem ggX10_set_X10_keep : GoodIn wsX10_set wsX10_keep := goodIn_r _ [15, 16, 17, 18, 1, 19, 24, 25, 26, 27, 28, 29, 30, 31, 32, 33, 34, 35, 36, 37, 38, 39] (by decide +kernel) (by decide +kernel)
set_option maxRecDepth 20000 in
theorem gX10_set_X10_keep : GoodIn wsX10_set (wsV RX10 105 RX10 yX10_keep wsX10_keep) := goodIn_app (goodIn_of _ (by decide +kernel)) ggX10_set_X10_keep
set_option maxRecDepth 20000 in
theorem ggX10_set_X10_setting : GoodIn wsX10_set wsX10_setting := goodIn_r _ [23, 1, 24, 25, 26, 27, 28, 29, 30, 31, 32, 33, 34, 35, 36, 37, 38, 39] (by decide +kernel) (by decide +kernel)
set_option maxRecDepth 20000 in
theorem gX10_set_X10_setting : GoodIn wsX10_set (wsV RX10 70 RX10 yX10_setting wsX10_setting) := goodIn_app (goodIn_of _ (by decide +kernel)) ggX10_set_X10_setting
theorem dX10_set_0 : decode cX10_set 0 = .ok (.iload_n 1, 1) := by decide +kernel
theorem dX10_set_1 : decode cX10_set 1 = .ok (.iload_n 2, 1) := by decide +kernel
theorem dX10_set_2 : decode cX10_set 2 = .ok (.invokestatic 101, 3) := by decide +kernel
theorem dX10_set_5 : decode cX10_set 5 = .ok (.ifCond .ne 6, 3) := by decide +kernel
theorem dX10_set_8 : decode cX10_set 8 = .ok (.bipush (-2), 2) := by decide +kernel
theorem dX10_set_10 : decode cX10_set 10 = .ok (.ireturn, 1) := by decide +kernel
theorem dX10_set_11 : decode cX10_set 11 = .ok (.aload_n 0, 1) := by decide +kernel
theorem dX10_set_12 : decode cX10_set 12 = .ok (.invokevirtual 105, 3) := by decide +kernel
theorem dX10_set_15 : decode cX10_set 15 = .ok (.aload_n 0, 1) := by decide +kernel
theorem dX10_set_16 : decode cX10_set 16 = .ok (.iload_n 1, 1) := by decide +kernel
theorem dX10_set_17 : decode cX10_set 17 = .ok (.invokevirtual 70, 3) := by decide +kernel
theorem dX10_set_20 : decode cX10_set 20 = .ok (.istore_n 3, 1) := by decide +kernel
theorem dX10_set_21 : decode cX10_set 21 = .ok (.aload_n 0, 1) := by decide +kernel
theorem dX10_set_22 : decode cX10_set 22 = .ok (.getfield 7, 3) := by decide +kernel
theorem dX10_set_25 : decode cX10_set 25 = .ok (.bipush 20, 2) := by decide +kernel
theorem dX10_set_27 : decode cX10_set 27 = .ok (.iload_n 1, 1) := by decide +kernel
theorem dX10_set_28 : decode cX10_set 28 = .ok (.iadd, 1) := by decide +kernel
theorem dX10_set_29 : decode cX10_set 29 = .ok (.iload_n 2, 1) := by decide +kernel
theorem dX10_set_30 : decode cX10_set 30 = .ok (.iastore, 1) := by decide +kernel
theorem dX10_set_31 : decode cX10_set 31 = .ok (.iload_n 3, 1) := by decide +kernel
theorem dX10_set_32 : decode cX10_set 32 = .ok (.ireturn, 1) := by decide +kernel
set_option maxRecDepth 20000 in
theorem ggX10_start_X10_in : GoodIn wsX10_start wsX10_in := goodIn_r _ [10] (by decide +kernel) (by decide +kernel)
set_option maxRecDepth 20000 in
theorem gX10_start_X10_in : GoodIn wsX10_start (va_wsS RX10 94 yX10_in wsX10_in) := goodIn_app (goodIn_of _ (by decide +kernel)) ggX10_start_X10_in
set_option maxRecDepth 20000 in
theorem ggX10_start_X10_keep : GoodIn wsX10_start wsX10_keep := goodIn_r _ [14, 15, 16, 17, 6, 18, 19, 20, 21, 22, 23, 24, 25, 26, 27, 28, 29, 30, 31, 32, 33, 34] (by decide +kernel) (by decide +kernel)
set_option maxRecDepth 20000 in
theorem gX10_start_X10_keep : GoodIn wsX10_start (wsV RX10 105 RX10 yX10_keep wsX10_keep) := goodIn_app (goodIn_of _ (by decide +kernel)) ggX10_start_X10_keep
theorem dX10_start_0 : decode cX10_start 0 = .ok (.iload_n 1, 1) := by decide +kernel
theorem dX10_start_1 : decode cX10_start 1 = .ok (.ldc 108, 2) := by decide +kernel
theorem dX10_start_3 : decode cX10_start 3 = .ok (.ldc 109, 2) := by decide +kernel
theorem dX10_start_5 : decode cX10_start 5 = .ok (.invokestatic 94, 3) := by decide +kernel
theorem dX10_start_8 : decode cX10_start 8 = .ok (.ifCond .eq 14, 3) := by decide +kernel
theorem dX10_start_11 : decode cX10_start 11 = .ok (.iload_n 2, 1) := by decide +kernel
theorem dX10_start_12 : decode cX10_start 12 = .ok (.ldc 110, 2) := by decide +kernel
theorem dX10_start_14 : decode cX10_start 14 = .ok (.ldc 98, 2) := by decide +kernel
theorem dX10_start_16 : decode cX10_start 16 = .ok (.invokestatic 94, 3) := by decide +kernel
theorem dX10_start_19 : decode cX10_start 19 = .ok (.ifCond .ne 6, 3) := by decide +kernel
theorem dX10_start_22 : decode cX10_start 22 = .ok (.ldc 111, 2) := by decide +kernel
theorem dX10_start_24 : decode cX10_start 24 = .ok (.ireturn, 1) := by decide +kernel
theorem dX10_start_25 : decode cX10_start 25 = .ok (.aload_n 0, 1) := by decide +kernel
theorem dX10_start_26 : decode cX10_start 26 = .ok (.invokevirtual 105, 3) := by decide +kernel
theorem dX10_start_29 : decode cX10_start 29 = .ok (.aload_n 0, 1) := by decide +kernel
theorem dX10_start_30 : decode cX10_start 30 = .ok (.getfield 7, 3) := by decide +kernel
theorem dX10_start_33 : decode cX10_start 33 = .ok (.iconst 4, 1) := by decide +kernel
theorem dX10_start_34 : decode cX10_start 34 = .ok (.iaload, 1) := by decide +kernel
theorem dX10_start_35 : decode cX10_start 35 = .ok (.istore_n 3, 1) := by decide +kernel
theorem dX10_start_36 : decode cX10_start 36 = .ok (.aload_n 0, 1) := by decide +kernel
theorem dX10_start_37 : decode cX10_start 37 = .ok (.getfield 7, 3) := by decide +kernel
theorem dX10_start_40 : decode cX10_start 40 = .ok (.iconst 4, 1) := by decide +kernel
theorem dX10_start_41 : decode cX10_start 41 = .ok (.iload_n 1, 1) := by decide +kernel
theorem dX10_start_42 : decode cX10_start 42 = .ok (.iastore, 1) := by decide +kernel
theorem dX10_start_43 : decode cX10_start 43 = .ok (.aload_n 0, 1) := by decide +kernel
theorem dX10_start_44 : decode cX10_start 44 = .ok (.getfield 7, 3) := by decide +kernel
theorem dX10_start_47 : decode cX10_start 47 = .ok (.iconst 5, 1) := by decide +kernel
theorem dX10_start_48 : decode cX10_start 48 = .ok (.iload_n 2, 1) := by decide +kernel
theorem dX10_start_49 : decode cX10_start 49 = .ok (.iastore, 1) := by decide +kernel
theorem dX10_start_50 : decode cX10_start 50 = .ok (.iload_n 3, 1) := by decide +kernel
theorem dX10_start_51 : decode cX10_start 51 = .ok (.ireturn, 1) := by decide +kernel
set_option maxRecDepth 20000 in
theorem ggX10_isDegrees_X10_in : GoodIn wsX10_isDegrees wsX10_in := goodIn_r _ [4] (by decide +kernel) (by decide +kernel)
set_option maxRecDepth 20000 in
theorem gX10_isDegrees_X10_in : GoodIn wsX10_isDegrees (va_wsS RX10 94 yX10_in wsX10_in) := goodIn_app (goodIn_of _ (by decide +kernel)) ggX10_isDegrees_X10_in
theorem dX10_isDegrees_0 : decode cX10_isDegrees 0 = .ok (.iload_n 0, 1) := by decide +kernel
theorem dX10_isDegrees_1 : decode cX10_isDegrees 1 = .ok (.bipush (-70), 2) := by decide +kernel
theorem dX10_isDegrees_3 : decode cX10_isDegrees 3 = .ok (.bipush 70, 2) := by decide +kernel
theorem dX10_isDegrees_5 : decode cX10_isDegrees 5 = .ok (.invokestatic 94, 3) := by decide +kernel
theorem dX10_isDegrees_8 : decode cX10_isDegrees 8 = .ok (.ireturn, 1) := by decide +kernel
set_option maxRecDepth 20000 in
theorem ggX10_isCourse_X10_in : GoodIn wsX10_isCourse wsX10_in := goodIn_r _ [5] (by decide +kernel) (by decide +kernel)
set_option maxRecDepth 20000 in
theorem gX10_isCourse_X10_in : GoodIn wsX10_isCourse (va_wsS RX10 94 yX10_in wsX10_in) := goodIn_app (goodIn_of _ (by decide +kernel)) ggX10_isCourse_X10_in
theorem dX10_isCourse_0 : decode cX10_isCourse 0 = .ok (.iload_n 0, 1) := by decide +kernel
theorem dX10_isCourse_1 : decode cX10_isCourse 1 = .ok (.iconst 0, 1) := by decide +kernel
theorem dX10_isCourse_2 : decode cX10_isCourse 2 = .ok (.ldc 112, 2) := by decide +kernel
theorem dX10_isCourse_4 : decode cX10_isCourse 4 = .ok (.invokestatic 94, 3) := by decide +kernel
theorem dX10_isCourse_7 : decode cX10_isCourse 7 = .ok (.ireturn, 1) := by decide +kernel
set_option maxRecDepth 20000 in
theorem ggX10_isSpeed_X10_in : GoodIn wsX10_isSpeed wsX10_in := goodIn_r _ [4] (by decide +kernel) (by decide +kernel)
set_option maxRecDepth 20000 in
theorem gX10_isSpeed_X10_in : GoodIn wsX10_isSpeed (va_wsS RX10 94 yX10_in wsX10_in) := goodIn_app (goodIn_of _ (by decide +kernel)) ggX10_isSpeed_X10_in
theorem dX10_isSpeed_0 : decode cX10_isSpeed 0 = .ok (.iload_n 0, 1) := by decide +kernel
theorem dX10_isSpeed_1 : decode cX10_isSpeed 1 = .ok (.iconst 0, 1) := by decide +kernel
theorem dX10_isSpeed_2 : decode cX10_isSpeed 2 = .ok (.sipush 400, 3) := by decide +kernel
theorem dX10_isSpeed_5 : decode cX10_isSpeed 5 = .ok (.invokestatic 94, 3) := by decide +kernel
theorem dX10_isSpeed_8 : decode cX10_isSpeed 8 = .ok (.ireturn, 1) := by decide +kernel
set_option maxRecDepth 20000 in
theorem ggX10_place_X10_isDegrees : GoodIn wsX10_place wsX10_isDegrees := goodIn_r _ [6, 7, 8, 5, 9] (by decide +kernel) (by decide +kernel)
set_option maxRecDepth 20000 in
theorem gX10_place_X10_isDegrees : GoodIn wsX10_place (va_wsS RX10 113 yX10_isDegrees wsX10_isDegrees) := goodIn_app (goodIn_of _ (by decide +kernel)) ggX10_place_X10_isDegrees
set_option maxRecDepth 20000 in
theorem ggX10_place_X10_keep : GoodIn wsX10_place wsX10_keep := goodIn_r _ [13, 14, 15, 16, 1, 17, 18, 19, 20, 21, 22, 23, 24, 25, 26, 27, 28, 29, 30, 31, 32, 33] (by decide +kernel) (by decide +kernel)
set_option maxRecDepth 20000 in
theorem gX10_place_X10_keep : GoodIn wsX10_place (wsV RX10 105 RX10 yX10_keep wsX10_keep) := goodIn_app (goodIn_of _ (by decide +kernel)) ggX10_place_X10_keep
theorem dX10_place_0 : decode cX10_place 0 = .ok (.iload_n 1, 1) := by decide +kernel
theorem dX10_place_1 : decode cX10_place 1 = .ok (.invokestatic 113, 3) := by decide +kernel
theorem dX10_place_4 : decode cX10_place 4 = .ok (.ifCond .ne 6, 3) := by decide +kernel
theorem dX10_place_7 : decode cX10_place 7 = .ok (.bipush (-2), 2) := by decide +kernel
theorem dX10_place_9 : decode cX10_place 9 = .ok (.ireturn, 1) := by decide +kernel
theorem dX10_place_10 : decode cX10_place 10 = .ok (.aload_n 0, 1) := by decide +kernel
theorem dX10_place_11 : decode cX10_place 11 = .ok (.getfield 7, 3) := by decide +kernel
theorem dX10_place_14 : decode cX10_place 14 = .ok (.iconst 3, 1) := by decide +kernel
theorem dX10_place_15 : decode cX10_place 15 = .ok (.iaload, 1) := by decide +kernel
theorem dX10_place_16 : decode cX10_place 16 = .ok (.ifCond .le 6, 3) := by decide +kernel
theorem dX10_place_19 : decode cX10_place 19 = .ok (.bipush (-5), 2) := by decide +kernel
theorem dX10_place_21 : decode cX10_place 21 = .ok (.ireturn, 1) := by decide +kernel
theorem dX10_place_22 : decode cX10_place 22 = .ok (.aload_n 0, 1) := by decide +kernel
theorem dX10_place_23 : decode cX10_place 23 = .ok (.invokevirtual 105, 3) := by decide +kernel
theorem dX10_place_26 : decode cX10_place 26 = .ok (.aload_n 0, 1) := by decide +kernel
theorem dX10_place_27 : decode cX10_place 27 = .ok (.getfield 7, 3) := by decide +kernel
theorem dX10_place_30 : decode cX10_place 30 = .ok (.iconst 0, 1) := by decide +kernel
theorem dX10_place_31 : decode cX10_place 31 = .ok (.ldc 93, 2) := by decide +kernel
theorem dX10_place_33 : decode cX10_place 33 = .ok (.iload_n 1, 1) := by decide +kernel
theorem dX10_place_34 : decode cX10_place 34 = .ok (.imul, 1) := by decide +kernel
theorem dX10_place_35 : decode cX10_place 35 = .ok (.iastore, 1) := by decide +kernel
theorem dX10_place_36 : decode cX10_place 36 = .ok (.aload_n 0, 1) := by decide +kernel
theorem dX10_place_37 : decode cX10_place 37 = .ok (.getfield 7, 3) := by decide +kernel
theorem dX10_place_40 : decode cX10_place 40 = .ok (.iconst 3, 1) := by decide +kernel
theorem dX10_place_41 : decode cX10_place 41 = .ok (.iaload, 1) := by decide +kernel
theorem dX10_place_42 : decode cX10_place 42 = .ok (.ireturn, 1) := by decide +kernel
set_option maxRecDepth 20000 in
theorem ggX10_line_X10_isCourse : GoodIn wsX10_line wsX10_isCourse := goodIn_r _ [5, 6, 7, 8, 4, 9] (by decide +kernel) (by decide +kernel)
set_option maxRecDepth 20000 in
theorem gX10_line_X10_isCourse : GoodIn wsX10_line (va_wsS RX10 117 yX10_isCourse wsX10_isCourse) := goodIn_app (goodIn_of _ (by decide +kernel)) ggX10_line_X10_isCourse
set_option maxRecDepth 20000 in
theorem ggX10_line_X10_keep : GoodIn wsX10_line wsX10_keep := goodIn_r _ [13, 14, 15, 16, 1, 17, 18, 19, 20, 21, 22, 23, 24, 25, 26, 27, 28, 29, 30, 31, 32, 33] (by decide +kernel) (by decide +kernel)
set_option maxRecDepth 20000 in
theorem gX10_line_X10_keep : GoodIn wsX10_line (wsV RX10 105 RX10 yX10_keep wsX10_keep) := goodIn_app (goodIn_of _ (by decide +kernel)) ggX10_line_X10_keep
theorem dX10_line_0 : decode cX10_line 0 = .ok (.iload_n 1, 1) := by decide +kernel
theorem dX10_line_1 : decode cX10_line 1 = .ok (.invokestatic 117, 3) := by decide +kernel
theorem dX10_line_4 : decode cX10_line 4 = .ok (.ifCond .ne 6, 3) := by decide +kernel
theorem dX10_line_7 : decode cX10_line 7 = .ok (.bipush (-2), 2) := by decide +kernel
theorem dX10_line_9 : decode cX10_line 9 = .ok (.ireturn, 1) := by decide +kernel
theorem dX10_line_10 : decode cX10_line 10 = .ok (.aload_n 0, 1) := by decide +kernel
theorem dX10_line_11 : decode cX10_line 11 = .ok (.getfield 7, 3) := by decide +kernel
theorem dX10_line_14 : decode cX10_line 14 = .ok (.bipush 19, 2) := by decide +kernel
theorem dX10_line_16 : decode cX10_line 16 = .ok (.iaload, 1) := by decide +kernel
theorem dX10_line_17 : decode cX10_line 17 = .ok (.bipush 6, 2) := by decide +kernel
theorem dX10_line_19 : decode cX10_line 19 = .ok (.if_icmp .ne 6, 3) := by decide +kernel
theorem dX10_line_22 : decode cX10_line 22 = .ok (.bipush (-4), 2) := by decide +kernel
theorem dX10_line_24 : decode cX10_line 24 = .ok (.ireturn, 1) := by decide +kernel
theorem dX10_line_25 : decode cX10_line 25 = .ok (.aload_n 0, 1) := by decide +kernel
theorem dX10_line_26 : decode cX10_line 26 = .ok (.invokevirtual 105, 3) := by decide +kernel
theorem dX10_line_29 : decode cX10_line 29 = .ok (.aload_n 0, 1) := by decide +kernel
theorem dX10_line_30 : decode cX10_line 30 = .ok (.getfield 7, 3) := by decide +kernel
theorem dX10_line_33 : decode cX10_line 33 = .ok (.bipush 79, 2) := by decide +kernel
theorem dX10_line_35 : decode cX10_line 35 = .ok (.aload_n 0, 1) := by decide +kernel
theorem dX10_line_36 : decode cX10_line 36 = .ok (.getfield 7, 3) := by decide +kernel
theorem dX10_line_39 : decode cX10_line 39 = .ok (.bipush 19, 2) := by decide +kernel
theorem dX10_line_41 : decode cX10_line 41 = .ok (.iaload, 1) := by decide +kernel
theorem dX10_line_42 : decode cX10_line 42 = .ok (.iadd, 1) := by decide +kernel
theorem dX10_line_43 : decode cX10_line 43 = .ok (.iload_n 1, 1) := by decide +kernel
theorem dX10_line_44 : decode cX10_line 44 = .ok (.iastore, 1) := by decide +kernel
theorem dX10_line_45 : decode cX10_line 45 = .ok (.aload_n 0, 1) := by decide +kernel
theorem dX10_line_46 : decode cX10_line 46 = .ok (.getfield 7, 3) := by decide +kernel
theorem dX10_line_49 : decode cX10_line 49 = .ok (.bipush 19, 2) := by decide +kernel
theorem dX10_line_51 : decode cX10_line 51 = .ok (.dup2, 1) := by decide +kernel
theorem dX10_line_52 : decode cX10_line 52 = .ok (.iaload, 1) := by decide +kernel
theorem dX10_line_53 : decode cX10_line 53 = .ok (.iconst 1, 1) := by decide +kernel
theorem dX10_line_54 : decode cX10_line 54 = .ok (.iadd, 1) := by decide +kernel
theorem dX10_line_55 : decode cX10_line 55 = .ok (.iastore, 1) := by decide +kernel
theorem dX10_line_56 : decode cX10_line 56 = .ok (.aload_n 0, 1) := by decide +kernel
theorem dX10_line_57 : decode cX10_line 57 = .ok (.getfield 7, 3) := by decide +kernel
theorem dX10_line_60 : decode cX10_line 60 = .ok (.bipush 19, 2) := by decide +kernel
theorem dX10_line_62 : decode cX10_line 62 = .ok (.iaload, 1) := by decide +kernel
theorem dX10_line_63 : decode cX10_line 63 = .ok (.iconst 1, 1) := by decide +kernel
theorem dX10_line_64 : decode cX10_line 64 = .ok (.isub, 1) := by decide +kernel
theorem dX10_line_65 : decode cX10_line 65 = .ok (.ireturn, 1) := by decide +kernel
set_option maxRecDepth 20000 in
theorem ggX10_steer_X10_isCourse : GoodIn wsX10_steer wsX10_isCourse := goodIn_r _ [5, 6, 7, 8, 4, 9] (by decide +kernel) (by decide +kernel)
set_option maxRecDepth 20000 in
theorem gX10_steer_X10_isCourse : GoodIn wsX10_steer (va_wsS RX10 117 yX10_isCourse wsX10_isCourse) := goodIn_app (goodIn_of _ (by decide +kernel)) ggX10_steer_X10_isCourse
set_option maxRecDepth 20000 in
theorem ggX10_steer_X10_isSpeed : GoodIn wsX10_steer wsX10_isSpeed := goodIn_r _ [12, 7, 8, 4, 9] (by decide +kernel) (by decide +kernel)
set_option maxRecDepth 20000 in
theorem gX10_steer_X10_isSpeed : GoodIn wsX10_steer (va_wsS RX10 120 yX10_isSpeed wsX10_isSpeed) := goodIn_app (goodIn_of _ (by decide +kernel)) ggX10_steer_X10_isSpeed
set_option maxRecDepth 20000 in
theorem ggX10_steer_X10_keep : GoodIn wsX10_steer wsX10_keep := goodIn_r _ [16, 17, 18, 19, 1, 20, 21, 22, 23, 24, 25, 26, 27, 28, 29, 30, 31, 32, 33, 34, 35, 36] (by decide +kernel) (by decide +kernel)
set_option maxRecDepth 20000 in
theorem gX10_steer_X10_keep : GoodIn wsX10_steer (wsV RX10 105 RX10 yX10_keep wsX10_keep) := goodIn_app (goodIn_of _ (by decide +kernel)) ggX10_steer_X10_keep
theorem dX10_steer_0 : decode cX10_steer 0 = .ok (.iload_n 1, 1) := by decide +kernel
theorem dX10_steer_1 : decode cX10_steer 1 = .ok (.invokestatic 117, 3) := by decide +kernel
theorem dX10_steer_4 : decode cX10_steer 4 = .ok (.ifCond .eq 10, 3) := by decide +kernel
theorem dX10_steer_7 : decode cX10_steer 7 = .ok (.iload_n 2, 1) := by decide +kernel
theorem dX10_steer_8 : decode cX10_steer 8 = .ok (.invokestatic 120, 3) := by decide +kernel
theorem dX10_steer_11 : decode cX10_steer 11 = .ok (.ifCond .ne 6, 3) := by decide +kernel
theorem dX10_steer_14 : decode cX10_steer 14 = .ok (.bipush (-2), 2) := by decide +kernel
theorem dX10_steer_16 : decode cX10_steer 16 = .ok (.ireturn, 1) := by decide +kernel
theorem dX10_steer_17 : decode cX10_steer 17 = .ok (.aload_n 0, 1) := by decide +kernel
theorem dX10_steer_18 : decode cX10_steer 18 = .ok (.invokevirtual 105, 3) := by decide +kernel
theorem dX10_steer_21 : decode cX10_steer 21 = .ok (.aload_n 0, 1) := by decide +kernel
theorem dX10_steer_22 : decode cX10_steer 22 = .ok (.getfield 7, 3) := by decide +kernel
theorem dX10_steer_25 : decode cX10_steer 25 = .ok (.iconst 3, 1) := by decide +kernel
theorem dX10_steer_26 : decode cX10_steer 26 = .ok (.iaload, 1) := by decide +kernel
theorem dX10_steer_27 : decode cX10_steer 27 = .ok (.istore_n 3, 1) := by decide +kernel
theorem dX10_steer_28 : decode cX10_steer 28 = .ok (.aload_n 0, 1) := by decide +kernel
theorem dX10_steer_29 : decode cX10_steer 29 = .ok (.getfield 7, 3) := by decide +kernel
theorem dX10_steer_32 : decode cX10_steer 32 = .ok (.iconst 3, 1) := by decide +kernel
theorem dX10_steer_33 : decode cX10_steer 33 = .ok (.iconst 0, 1) := by decide +kernel
theorem dX10_steer_34 : decode cX10_steer 34 = .ok (.iastore, 1) := by decide +kernel
theorem dX10_steer_35 : decode cX10_steer 35 = .ok (.aload_n 0, 1) := by decide +kernel
theorem dX10_steer_36 : decode cX10_steer 36 = .ok (.getfield 7, 3) := by decide +kernel
theorem dX10_steer_39 : decode cX10_steer 39 = .ok (.iconst 1, 1) := by decide +kernel
theorem dX10_steer_40 : decode cX10_steer 40 = .ok (.iload_n 1, 1) := by decide +kernel
theorem dX10_steer_41 : decode cX10_steer 41 = .ok (.iastore, 1) := by decide +kernel
theorem dX10_steer_42 : decode cX10_steer 42 = .ok (.aload_n 0, 1) := by decide +kernel
theorem dX10_steer_43 : decode cX10_steer 43 = .ok (.getfield 7, 3) := by decide +kernel
theorem dX10_steer_46 : decode cX10_steer 46 = .ok (.iconst 2, 1) := by decide +kernel
theorem dX10_steer_47 : decode cX10_steer 47 = .ok (.iload_n 2, 1) := by decide +kernel
theorem dX10_steer_48 : decode cX10_steer 48 = .ok (.iastore, 1) := by decide +kernel
theorem dX10_steer_49 : decode cX10_steer 49 = .ok (.iload_n 3, 1) := by decide +kernel
theorem dX10_steer_50 : decode cX10_steer 50 = .ok (.ireturn, 1) := by decide +kernel
theorem dX10_addLeg_0 : decode cX10_addLeg 0 = .ok (.bipush 34, 2) := by decide +kernel
theorem dX10_addLeg_2 : decode cX10_addLeg 2 = .ok (.iconst 3, 1) := by decide +kernel
theorem dX10_addLeg_3 : decode cX10_addLeg 3 = .ok (.aload_n 0, 1) := by decide +kernel
theorem dX10_addLeg_4 : decode cX10_addLeg 4 = .ok (.getfield 7, 3) := by decide +kernel
theorem dX10_addLeg_7 : decode cX10_addLeg 7 = .ok (.iconst 3, 1) := by decide +kernel
theorem dX10_addLeg_8 : decode cX10_addLeg 8 = .ok (.iaload, 1) := by decide +kernel
theorem dX10_addLeg_9 : decode cX10_addLeg 9 = .ok (.imul, 1) := by decide +kernel
theorem dX10_addLeg_10 : decode cX10_addLeg 10 = .ok (.iadd, 1) := by decide +kernel
theorem dX10_addLeg_11 : decode cX10_addLeg 11 = .ok (.istore 4, 2) := by decide +kernel
theorem dX10_addLeg_13 : decode cX10_addLeg 13 = .ok (.aload_n 0, 1) := by decide +kernel
theorem dX10_addLeg_14 : decode cX10_addLeg 14 = .ok (.getfield 7, 3) := by decide +kernel
theorem dX10_addLeg_17 : decode cX10_addLeg 17 = .ok (.iload 4, 2) := by decide +kernel
theorem dX10_addLeg_19 : decode cX10_addLeg 19 = .ok (.iload_n 1, 1) := by decide +kernel
theorem dX10_addLeg_20 : decode cX10_addLeg 20 = .ok (.iastore, 1) := by decide +kernel
theorem dX10_addLeg_21 : decode cX10_addLeg 21 = .ok (.aload_n 0, 1) := by decide +kernel
theorem dX10_addLeg_22 : decode cX10_addLeg 22 = .ok (.getfield 7, 3) := by decide +kernel
theorem dX10_addLeg_25 : decode cX10_addLeg 25 = .ok (.iload 4, 2) := by decide +kernel
theorem dX10_addLeg_27 : decode cX10_addLeg 27 = .ok (.iconst 1, 1) := by decide +kernel
theorem dX10_addLeg_28 : decode cX10_addLeg 28 = .ok (.iadd, 1) := by decide +kernel
theorem dX10_addLeg_29 : decode cX10_addLeg 29 = .ok (.iload_n 2, 1) := by decide +kernel
theorem dX10_addLeg_30 : decode cX10_addLeg 30 = .ok (.iastore, 1) := by decide +kernel
theorem dX10_addLeg_31 : decode cX10_addLeg 31 = .ok (.aload_n 0, 1) := by decide +kernel
theorem dX10_addLeg_32 : decode cX10_addLeg 32 = .ok (.getfield 7, 3) := by decide +kernel
theorem dX10_addLeg_35 : decode cX10_addLeg 35 = .ok (.iload 4, 2) := by decide +kernel
theorem dX10_addLeg_37 : decode cX10_addLeg 37 = .ok (.iconst 2, 1) := by decide +kernel
theorem dX10_addLeg_38 : decode cX10_addLeg 38 = .ok (.iadd, 1) := by decide +kernel
theorem dX10_addLeg_39 : decode cX10_addLeg 39 = .ok (.iload_n 3, 1) := by decide +kernel
theorem dX10_addLeg_40 : decode cX10_addLeg 40 = .ok (.iastore, 1) := by decide +kernel
theorem dX10_addLeg_41 : decode cX10_addLeg 41 = .ok (.aload_n 0, 1) := by decide +kernel
theorem dX10_addLeg_42 : decode cX10_addLeg 42 = .ok (.getfield 7, 3) := by decide +kernel
theorem dX10_addLeg_45 : decode cX10_addLeg 45 = .ok (.iconst 3, 1) := by decide +kernel
theorem dX10_addLeg_46 : decode cX10_addLeg 46 = .ok (.dup2, 1) := by decide +kernel
theorem dX10_addLeg_47 : decode cX10_addLeg 47 = .ok (.iaload, 1) := by decide +kernel
theorem dX10_addLeg_48 : decode cX10_addLeg 48 = .ok (.iconst 1, 1) := by decide +kernel
theorem dX10_addLeg_49 : decode cX10_addLeg 49 = .ok (.iadd, 1) := by decide +kernel
theorem dX10_addLeg_50 : decode cX10_addLeg 50 = .ok (.iastore, 1) := by decide +kernel
theorem dX10_addLeg_51 : decode cX10_addLeg 51 = .ok (.return_, 1) := by decide +kernel
set_option maxRecDepth 20000 in
theorem ggX10_leg_X10_isCourse : GoodIn wsX10_leg wsX10_isCourse := goodIn_r _ [5, 6, 7, 8, 4, 9] (by decide +kernel) (by decide +kernel)
set_option maxRecDepth 20000 in
theorem gX10_leg_X10_isCourse : GoodIn wsX10_leg (va_wsS RX10 117 yX10_isCourse wsX10_isCourse) := goodIn_app (goodIn_of _ (by decide +kernel)) ggX10_leg_X10_isCourse
set_option maxRecDepth 20000 in
theorem ggX10_leg_X10_isSpeed : GoodIn wsX10_leg wsX10_isSpeed := goodIn_r _ [12, 7, 8, 4, 9] (by decide +kernel) (by decide +kernel)
set_option maxRecDepth 20000 in
theorem gX10_leg_X10_isSpeed : GoodIn wsX10_leg (va_wsS RX10 120 yX10_isSpeed wsX10_isSpeed) := goodIn_app (goodIn_of _ (by decide +kernel)) ggX10_leg_X10_isSpeed
set_option maxRecDepth 20000 in
theorem ggX10_leg_X10_in : GoodIn wsX10_leg wsX10_in := goodIn_r _ [9] (by decide +kernel) (by decide +kernel)
set_option maxRecDepth 20000 in
theorem gX10_leg_X10_in : GoodIn wsX10_leg (va_wsS RX10 94 yX10_in wsX10_in) := goodIn_app (goodIn_of _ (by decide +kernel)) ggX10_leg_X10_in
set_option maxRecDepth 20000 in
theorem ggX10_leg_X10_keep : GoodIn wsX10_leg wsX10_keep := goodIn_r _ [16, 17, 18, 19, 1, 20, 25, 26, 27, 28, 29, 30, 31, 32, 33, 34, 35, 36, 37, 38, 39, 40] (by decide +kernel) (by decide +kernel)
set_option maxRecDepth 20000 in
theorem gX10_leg_X10_keep : GoodIn wsX10_leg (wsV RX10 105 RX10 yX10_keep wsX10_keep) := goodIn_app (goodIn_of _ (by decide +kernel)) ggX10_leg_X10_keep
set_option maxRecDepth 20000 in
theorem ggX10_leg_X10_addLeg : GoodIn wsX10_leg wsX10_addLeg := goodIn_r _ [24, 1, 25, 26, 27, 28, 29, 30, 31, 32, 33, 34, 35, 36, 37, 38, 39, 40] (by decide +kernel) (by decide +kernel)
set_option maxRecDepth 20000 in
theorem gX10_leg_X10_addLeg : GoodIn wsX10_leg (wsV RX10 123 RX10 yX10_addLeg wsX10_addLeg) := goodIn_app (goodIn_of _ (by decide +kernel)) ggX10_leg_X10_addLeg
theorem dX10_leg_0 : decode cX10_leg 0 = .ok (.iload_n 1, 1) := by decide +kernel
theorem dX10_leg_1 : decode cX10_leg 1 = .ok (.invokestatic 117, 3) := by decide +kernel
theorem dX10_leg_4 : decode cX10_leg 4 = .ok (.ifCond .eq 21, 3) := by decide +kernel
theorem dX10_leg_7 : decode cX10_leg 7 = .ok (.iload_n 2, 1) := by decide +kernel
theorem dX10_leg_8 : decode cX10_leg 8 = .ok (.invokestatic 120, 3) := by decide +kernel
theorem dX10_leg_11 : decode cX10_leg 11 = .ok (.ifCond .eq 14, 3) := by decide +kernel
theorem dX10_leg_14 : decode cX10_leg 14 = .ok (.iload_n 3, 1) := by decide +kernel
theorem dX10_leg_15 : decode cX10_leg 15 = .ok (.iconst 1, 1) := by decide +kernel
theorem dX10_leg_16 : decode cX10_leg 16 = .ok (.sipush 600, 3) := by decide +kernel
theorem dX10_leg_19 : decode cX10_leg 19 = .ok (.invokestatic 94, 3) := by decide +kernel
theorem dX10_leg_22 : decode cX10_leg 22 = .ok (.ifCond .ne 6, 3) := by decide +kernel
theorem dX10_leg_25 : decode cX10_leg 25 = .ok (.bipush (-2), 2) := by decide +kernel
theorem dX10_leg_27 : decode cX10_leg 27 = .ok (.ireturn, 1) := by decide +kernel
theorem dX10_leg_28 : decode cX10_leg 28 = .ok (.aload_n 0, 1) := by decide +kernel
theorem dX10_leg_29 : decode cX10_leg 29 = .ok (.getfield 7, 3) := by decide +kernel
theorem dX10_leg_32 : decode cX10_leg 32 = .ok (.iconst 3, 1) := by decide +kernel
theorem dX10_leg_33 : decode cX10_leg 33 = .ok (.iaload, 1) := by decide +kernel
theorem dX10_leg_34 : decode cX10_leg 34 = .ok (.bipush 8, 2) := by decide +kernel
theorem dX10_leg_36 : decode cX10_leg 36 = .ok (.if_icmp .ne 6, 3) := by decide +kernel
theorem dX10_leg_39 : decode cX10_leg 39 = .ok (.bipush (-4), 2) := by decide +kernel
theorem dX10_leg_41 : decode cX10_leg 41 = .ok (.ireturn, 1) := by decide +kernel
theorem dX10_leg_42 : decode cX10_leg 42 = .ok (.aload_n 0, 1) := by decide +kernel
theorem dX10_leg_43 : decode cX10_leg 43 = .ok (.invokevirtual 105, 3) := by decide +kernel
theorem dX10_leg_46 : decode cX10_leg 46 = .ok (.aload_n 0, 1) := by decide +kernel
theorem dX10_leg_47 : decode cX10_leg 47 = .ok (.iload_n 1, 1) := by decide +kernel
theorem dX10_leg_48 : decode cX10_leg 48 = .ok (.iload_n 2, 1) := by decide +kernel
theorem dX10_leg_49 : decode cX10_leg 49 = .ok (.iload_n 3, 1) := by decide +kernel
theorem dX10_leg_50 : decode cX10_leg 50 = .ok (.invokevirtual 123, 3) := by decide +kernel
theorem dX10_leg_53 : decode cX10_leg 53 = .ok (.aload_n 0, 1) := by decide +kernel
theorem dX10_leg_54 : decode cX10_leg 54 = .ok (.getfield 7, 3) := by decide +kernel
theorem dX10_leg_57 : decode cX10_leg 57 = .ok (.iconst 3, 1) := by decide +kernel
theorem dX10_leg_58 : decode cX10_leg 58 = .ok (.iaload, 1) := by decide +kernel
theorem dX10_leg_59 : decode cX10_leg 59 = .ok (.ireturn, 1) := by decide +kernel
set_option maxRecDepth 20000 in
theorem ggX10_swing_X10_setting : GoodIn wsX10_swing wsX10_setting := goodIn_r _ [11, 1, 57, 58, 59, 60, 61, 62, 63, 64, 65, 66, 67, 68, 69, 70, 71, 72] (by decide +kernel) (by decide +kernel)
set_option maxRecDepth 20000 in
theorem gX10_swing_X10_setting : GoodIn wsX10_swing (wsV RX10 70 RX10 yX10_setting wsX10_setting) := goodIn_app (goodIn_of _ (by decide +kernel)) ggX10_swing_X10_setting
set_option maxRecDepth 20000 in
theorem ggX10_swing_X10_rest : GoodIn wsX10_swing wsX10_rest := goodIn_r _ [15, 1, 16, 17, 18, 19, 10, 20, 21, 22, 23, 24, 25, 26, 27, 28, 29, 7, 8, 9, 11, 30, 31, 32, 33, 34, 35, 36, 37, 38, 39, 40, 41, 42, 43, 44, 45, 46, 47, 48, 49, 50, 51, 52, 53, 57, 58, 59, 60, 61, 62, 63, 64, 65, 66, 67, 68, 69, 70, 71, 72] (by decide +kernel) (by decide +kernel)
set_option maxRecDepth 20000 in
theorem gX10_swing_X10_rest : GoodIn wsX10_swing (wsV RX10 129 RX10 yX10_rest wsX10_rest) := goodIn_app (goodIn_of _ (by decide +kernel)) ggX10_swing_X10_rest
set_option maxRecDepth 20000 in
theorem ggX10_swing_X10_cosineOf : GoodIn wsX10_swing wsX10_cosineOf := goodIn_r _ [49, 33, 34, 10, 35, 36, 37, 38, 50, 51, 52, 53, 39, 40, 41, 42, 43, 44, 45, 46] (by decide +kernel) (by decide +kernel)
set_option maxRecDepth 20000 in
theorem gX10_swing_X10_cosineOf : GoodIn wsX10_swing (va_wsS RX10 77 yX10_cosineOf wsX10_cosineOf) := goodIn_app (goodIn_of _ (by decide +kernel)) ggX10_swing_X10_cosineOf
set_option maxRecDepth 20000 in
theorem ggX10_swing_X10_limited : GoodIn wsX10_swing wsX10_limited := goodIn_r _ [56] (by decide +kernel) (by decide +kernel)
set_option maxRecDepth 20000 in
theorem gX10_swing_X10_limited : GoodIn wsX10_swing (va_wsS RX10 136 yX10_limited wsX10_limited) := goodIn_app (goodIn_of _ (by decide +kernel)) ggX10_swing_X10_limited
theorem dX10_swing_0 : decode cX10_swing 0 = .ok (.aload_n 0, 1) := by decide +kernel
theorem dX10_swing_1 : decode cX10_swing 1 = .ok (.getfield 7, 3) := by decide +kernel
theorem dX10_swing_4 : decode cX10_swing 4 = .ok (.bipush 8, 2) := by decide +kernel
theorem dX10_swing_6 : decode cX10_swing 6 = .ok (.iaload, 1) := by decide +kernel
theorem dX10_swing_7 : decode cX10_swing 7 = .ok (.i2l, 1) := by decide +kernel
theorem dX10_swing_8 : decode cX10_swing 8 = .ok (.lstore_n 1, 1) := by decide +kernel
theorem dX10_swing_9 : decode cX10_swing 9 = .ok (.lload_n 1, 1) := by decide +kernel
theorem dX10_swing_10 : decode cX10_swing 10 = .ok (.lconst 0, 1) := by decide +kernel
theorem dX10_swing_11 : decode cX10_swing 11 = .ok (.lcmp, 1) := by decide +kernel
theorem dX10_swing_12 : decode cX10_swing 12 = .ok (.ifCond .ne 7, 3) := by decide +kernel
theorem dX10_swing_15 : decode cX10_swing 15 = .ok (.lconst 0, 1) := by decide +kernel
theorem dX10_swing_16 : decode cX10_swing 16 = .ok (.goto 16, 3) := by decide +kernel
theorem dX10_swing_19 : decode cX10_swing 19 = .ok (.ldc2_w 127, 3) := by decide +kernel
theorem dX10_swing_22 : decode cX10_swing 22 = .ok (.aload_n 0, 1) := by decide +kernel
theorem dX10_swing_23 : decode cX10_swing 23 = .ok (.getfield 7, 3) := by decide +kernel
theorem dX10_swing_26 : decode cX10_swing 26 = .ok (.bipush 8, 2) := by decide +kernel
theorem dX10_swing_28 : decode cX10_swing 28 = .ok (.iaload, 1) := by decide +kernel
theorem dX10_swing_29 : decode cX10_swing 29 = .ok (.iconst 1, 1) := by decide +kernel
theorem dX10_swing_30 : decode cX10_swing 30 = .ok (.isub, 1) := by decide +kernel
theorem dX10_swing_31 : decode cX10_swing 31 = .ok (.lshl, 1) := by decide +kernel
theorem dX10_swing_32 : decode cX10_swing 32 = .ok (.lstore_n 3, 1) := by decide +kernel
theorem dX10_swing_33 : decode cX10_swing 33 = .ok (.aload_n 0, 1) := by decide +kernel
theorem dX10_swing_34 : decode cX10_swing 34 = .ok (.iconst 0, 1) := by decide +kernel
theorem dX10_swing_35 : decode cX10_swing 35 = .ok (.invokevirtual 70, 3) := by decide +kernel
theorem dX10_swing_38 : decode cX10_swing 38 = .ok (.i2l, 1) := by decide +kernel
theorem dX10_swing_39 : decode cX10_swing 39 = .ok (.aload_n 0, 1) := by decide +kernel
theorem dX10_swing_40 : decode cX10_swing 40 = .ok (.getfield 7, 3) := by decide +kernel
theorem dX10_swing_43 : decode cX10_swing 43 = .ok (.iconst 4, 1) := by decide +kernel
theorem dX10_swing_44 : decode cX10_swing 44 = .ok (.iaload, 1) := by decide +kernel
theorem dX10_swing_45 : decode cX10_swing 45 = .ok (.aload_n 0, 1) := by decide +kernel
theorem dX10_swing_46 : decode cX10_swing 46 = .ok (.invokevirtual 129, 3) := by decide +kernel
theorem dX10_swing_49 : decode cX10_swing 49 = .ok (.isub, 1) := by decide +kernel
theorem dX10_swing_50 : decode cX10_swing 50 = .ok (.i2l, 1) := by decide +kernel
theorem dX10_swing_51 : decode cX10_swing 51 = .ok (.lmul, 1) := by decide +kernel
theorem dX10_swing_52 : decode cX10_swing 52 = .ok (.ldc2_w 132, 3) := by decide +kernel
theorem dX10_swing_55 : decode cX10_swing 55 = .ok (.ldiv, 1) := by decide +kernel
theorem dX10_swing_56 : decode cX10_swing 56 = .ok (.lstore 5, 2) := by decide +kernel
theorem dX10_swing_58 : decode cX10_swing 58 = .ok (.aload_n 0, 1) := by decide +kernel
theorem dX10_swing_59 : decode cX10_swing 59 = .ok (.getfield 7, 3) := by decide +kernel
theorem dX10_swing_62 : decode cX10_swing 62 = .ok (.iconst 5, 1) := by decide +kernel
theorem dX10_swing_63 : decode cX10_swing 63 = .ok (.iaload, 1) := by decide +kernel
theorem dX10_swing_64 : decode cX10_swing 64 = .ok (.i2l, 1) := by decide +kernel
theorem dX10_swing_65 : decode cX10_swing 65 = .ok (.lload 5, 2) := by decide +kernel
theorem dX10_swing_67 : decode cX10_swing 67 = .ok (.aload_n 0, 1) := by decide +kernel
theorem dX10_swing_68 : decode cX10_swing 68 = .ok (.getfield 7, 3) := by decide +kernel
theorem dX10_swing_71 : decode cX10_swing 71 = .ok (.iconst 0, 1) := by decide +kernel
theorem dX10_swing_72 : decode cX10_swing 72 = .ok (.iaload, 1) := by decide +kernel
theorem dX10_swing_73 : decode cX10_swing 73 = .ok (.invokestatic 77, 3) := by decide +kernel
theorem dX10_swing_76 : decode cX10_swing 76 = .ok (.lmul, 1) := by decide +kernel
theorem dX10_swing_77 : decode cX10_swing 77 = .ok (.ldc2_w 134, 3) := by decide +kernel
theorem dX10_swing_80 : decode cX10_swing 80 = .ok (.ldiv, 1) := by decide +kernel
theorem dX10_swing_81 : decode cX10_swing 81 = .ok (.lsub, 1) := by decide +kernel
theorem dX10_swing_82 : decode cX10_swing 82 = .ok (.lstore 7, 2) := by decide +kernel
theorem dX10_swing_84 : decode cX10_swing 84 = .ok (.lload 7, 2) := by decide +kernel
theorem dX10_swing_86 : decode cX10_swing 86 = .ok (.lload 7, 2) := by decide +kernel
theorem dX10_swing_88 : decode cX10_swing 88 = .ok (.lload_n 3, 1) := by decide +kernel
theorem dX10_swing_89 : decode cX10_swing 89 = .ok (.lmul, 1) := by decide +kernel
theorem dX10_swing_90 : decode cX10_swing 90 = .ok (.ldc2_w 132, 3) := by decide +kernel
theorem dX10_swing_93 : decode cX10_swing 93 = .ok (.ldiv, 1) := by decide +kernel
theorem dX10_swing_94 : decode cX10_swing 94 = .ok (.lsub, 1) := by decide +kernel
theorem dX10_swing_95 : decode cX10_swing 95 = .ok (.lstore 7, 2) := by decide +kernel
theorem dX10_swing_97 : decode cX10_swing 97 = .ok (.aload_n 0, 1) := by decide +kernel
theorem dX10_swing_98 : decode cX10_swing 98 = .ok (.getfield 7, 3) := by decide +kernel
theorem dX10_swing_101 : decode cX10_swing 101 = .ok (.iconst 5, 1) := by decide +kernel
theorem dX10_swing_102 : decode cX10_swing 102 = .ok (.lload 7, 2) := by decide +kernel
theorem dX10_swing_104 : decode cX10_swing 104 = .ok (.ldc 109, 2) := by decide +kernel
theorem dX10_swing_106 : decode cX10_swing 106 = .ok (.invokestatic 136, 3) := by decide +kernel
theorem dX10_swing_109 : decode cX10_swing 109 = .ok (.iastore, 1) := by decide +kernel
theorem dX10_swing_110 : decode cX10_swing 110 = .ok (.aload_n 0, 1) := by decide +kernel
theorem dX10_swing_111 : decode cX10_swing 111 = .ok (.getfield 7, 3) := by decide +kernel
theorem dX10_swing_114 : decode cX10_swing 114 = .ok (.iconst 4, 1) := by decide +kernel
theorem dX10_swing_115 : decode cX10_swing 115 = .ok (.aload_n 0, 1) := by decide +kernel
theorem dX10_swing_116 : decode cX10_swing 116 = .ok (.getfield 7, 3) := by decide +kernel
theorem dX10_swing_119 : decode cX10_swing 119 = .ok (.iconst 4, 1) := by decide +kernel
theorem dX10_swing_120 : decode cX10_swing 120 = .ok (.iaload, 1) := by decide +kernel
theorem dX10_swing_121 : decode cX10_swing 121 = .ok (.i2l, 1) := by decide +kernel
theorem dX10_swing_122 : decode cX10_swing 122 = .ok (.aload_n 0, 1) := by decide +kernel
theorem dX10_swing_123 : decode cX10_swing 123 = .ok (.iconst 1, 1) := by decide +kernel
theorem dX10_swing_124 : decode cX10_swing 124 = .ok (.invokevirtual 70, 3) := by decide +kernel
theorem dX10_swing_127 : decode cX10_swing 127 = .ok (.i2l, 1) := by decide +kernel
theorem dX10_swing_128 : decode cX10_swing 128 = .ok (.aload_n 0, 1) := by decide +kernel
theorem dX10_swing_129 : decode cX10_swing 129 = .ok (.getfield 7, 3) := by decide +kernel
theorem dX10_swing_132 : decode cX10_swing 132 = .ok (.iconst 5, 1) := by decide +kernel
theorem dX10_swing_133 : decode cX10_swing 133 = .ok (.iaload, 1) := by decide +kernel
theorem dX10_swing_134 : decode cX10_swing 134 = .ok (.i2l, 1) := by decide +kernel
theorem dX10_swing_135 : decode cX10_swing 135 = .ok (.lmul, 1) := by decide +kernel
theorem dX10_swing_136 : decode cX10_swing 136 = .ok (.ldc2_w 132, 3) := by decide +kernel
theorem dX10_swing_139 : decode cX10_swing 139 = .ok (.ldiv, 1) := by decide +kernel
theorem dX10_swing_140 : decode cX10_swing 140 = .ok (.ladd, 1) := by decide +kernel
theorem dX10_swing_141 : decode cX10_swing 141 = .ok (.ldc 140, 2) := by decide +kernel
theorem dX10_swing_143 : decode cX10_swing 143 = .ok (.invokestatic 136, 3) := by decide +kernel
theorem dX10_swing_146 : decode cX10_swing 146 = .ok (.iastore, 1) := by decide +kernel
theorem dX10_swing_147 : decode cX10_swing 147 = .ok (.return_, 1) := by decide +kernel
theorem dX10_addTurn_0 : decode cX10_addTurn 0 = .ok (.aload_n 0, 1) := by decide +kernel
theorem dX10_addTurn_1 : decode cX10_addTurn 1 = .ok (.getfield 7, 3) := by decide +kernel
theorem dX10_addTurn_4 : decode cX10_addTurn 4 = .ok (.bipush 13, 2) := by decide +kernel
theorem dX10_addTurn_6 : decode cX10_addTurn 6 = .ok (.iaload, 1) := by decide +kernel
theorem dX10_addTurn_7 : decode cX10_addTurn 7 = .ok (.bipush 8, 2) := by decide +kernel
theorem dX10_addTurn_9 : decode cX10_addTurn 9 = .ok (.if_icmp .ge 13, 3) := by decide +kernel
theorem dX10_addTurn_12 : decode cX10_addTurn 12 = .ok (.aload_n 0, 1) := by decide +kernel
theorem dX10_addTurn_13 : decode cX10_addTurn 13 = .ok (.getfield 7, 3) := by decide +kernel
theorem dX10_addTurn_16 : decode cX10_addTurn 16 = .ok (.bipush 13, 2) := by decide +kernel
theorem dX10_addTurn_18 : decode cX10_addTurn 18 = .ok (.iaload, 1) := by decide +kernel
theorem dX10_addTurn_19 : decode cX10_addTurn 19 = .ok (.goto 5, 3) := by decide +kernel
theorem dX10_addTurn_22 : decode cX10_addTurn 22 = .ok (.bipush 7, 2) := by decide +kernel
theorem dX10_addTurn_24 : decode cX10_addTurn 24 = .ok (.istore_n 2, 1) := by decide +kernel
theorem dX10_addTurn_25 : decode cX10_addTurn 25 = .ok (.iload_n 2, 1) := by decide +kernel
theorem dX10_addTurn_26 : decode cX10_addTurn 26 = .ok (.istore_n 3, 1) := by decide +kernel
theorem dX10_addTurn_27 : decode cX10_addTurn 27 = .ok (.iload_n 3, 1) := by decide +kernel
theorem dX10_addTurn_28 : decode cX10_addTurn 28 = .ok (.ifCond .le 73, 3) := by decide +kernel
theorem dX10_addTurn_31 : decode cX10_addTurn 31 = .ok (.aload_n 0, 1) := by decide +kernel
theorem dX10_addTurn_32 : decode cX10_addTurn 32 = .ok (.getfield 7, 3) := by decide +kernel
theorem dX10_addTurn_35 : decode cX10_addTurn 35 = .ok (.bipush 58, 2) := by decide +kernel
theorem dX10_addTurn_37 : decode cX10_addTurn 37 = .ok (.iconst 2, 1) := by decide +kernel
theorem dX10_addTurn_38 : decode cX10_addTurn 38 = .ok (.iload_n 3, 1) := by decide +kernel
theorem dX10_addTurn_39 : decode cX10_addTurn 39 = .ok (.imul, 1) := by decide +kernel
theorem dX10_addTurn_40 : decode cX10_addTurn 40 = .ok (.iadd, 1) := by decide +kernel
theorem dX10_addTurn_41 : decode cX10_addTurn 41 = .ok (.aload_n 0, 1) := by decide +kernel
theorem dX10_addTurn_42 : decode cX10_addTurn 42 = .ok (.getfield 7, 3) := by decide +kernel
theorem dX10_addTurn_45 : decode cX10_addTurn 45 = .ok (.bipush 58, 2) := by decide +kernel
theorem dX10_addTurn_47 : decode cX10_addTurn 47 = .ok (.iconst 2, 1) := by decide +kernel
theorem dX10_addTurn_48 : decode cX10_addTurn 48 = .ok (.iload_n 3, 1) := by decide +kernel
theorem dX10_addTurn_49 : decode cX10_addTurn 49 = .ok (.imul, 1) := by decide +kernel
theorem dX10_addTurn_50 : decode cX10_addTurn 50 = .ok (.iadd, 1) := by decide +kernel
theorem dX10_addTurn_51 : decode cX10_addTurn 51 = .ok (.iconst 2, 1) := by decide +kernel
theorem dX10_addTurn_52 : decode cX10_addTurn 52 = .ok (.isub, 1) := by decide +kernel
theorem dX10_addTurn_53 : decode cX10_addTurn 53 = .ok (.iaload, 1) := by decide +kernel
theorem dX10_addTurn_54 : decode cX10_addTurn 54 = .ok (.iastore, 1) := by decide +kernel
theorem dX10_addTurn_55 : decode cX10_addTurn 55 = .ok (.aload_n 0, 1) := by decide +kernel
theorem dX10_addTurn_56 : decode cX10_addTurn 56 = .ok (.getfield 7, 3) := by decide +kernel
theorem dX10_addTurn_59 : decode cX10_addTurn 59 = .ok (.bipush 58, 2) := by decide +kernel
theorem dX10_addTurn_61 : decode cX10_addTurn 61 = .ok (.iconst 2, 1) := by decide +kernel
theorem dX10_addTurn_62 : decode cX10_addTurn 62 = .ok (.iload_n 3, 1) := by decide +kernel
theorem dX10_addTurn_63 : decode cX10_addTurn 63 = .ok (.imul, 1) := by decide +kernel
theorem dX10_addTurn_64 : decode cX10_addTurn 64 = .ok (.iadd, 1) := by decide +kernel
theorem dX10_addTurn_65 : decode cX10_addTurn 65 = .ok (.iconst 1, 1) := by decide +kernel
theorem dX10_addTurn_66 : decode cX10_addTurn 66 = .ok (.iadd, 1) := by decide +kernel
theorem dX10_addTurn_67 : decode cX10_addTurn 67 = .ok (.aload_n 0, 1) := by decide +kernel
theorem dX10_addTurn_68 : decode cX10_addTurn 68 = .ok (.getfield 7, 3) := by decide +kernel
theorem dX10_addTurn_71 : decode cX10_addTurn 71 = .ok (.bipush 58, 2) := by decide +kernel
theorem dX10_addTurn_73 : decode cX10_addTurn 73 = .ok (.iconst 2, 1) := by decide +kernel
theorem dX10_addTurn_74 : decode cX10_addTurn 74 = .ok (.iload_n 3, 1) := by decide +kernel
theorem dX10_addTurn_75 : decode cX10_addTurn 75 = .ok (.imul, 1) := by decide +kernel
theorem dX10_addTurn_76 : decode cX10_addTurn 76 = .ok (.iadd, 1) := by decide +kernel
theorem dX10_addTurn_77 : decode cX10_addTurn 77 = .ok (.iconst 1, 1) := by decide +kernel
theorem dX10_addTurn_78 : decode cX10_addTurn 78 = .ok (.isub, 1) := by decide +kernel
theorem dX10_addTurn_79 : decode cX10_addTurn 79 = .ok (.iaload, 1) := by decide +kernel
theorem dX10_addTurn_80 : decode cX10_addTurn 80 = .ok (.iastore, 1) := by decide +kernel
theorem dX10_addTurn_81 : decode cX10_addTurn 81 = .ok (.aload_n 0, 1) := by decide +kernel
theorem dX10_addTurn_82 : decode cX10_addTurn 82 = .ok (.getfield 13, 3) := by decide +kernel
theorem dX10_addTurn_85 : decode cX10_addTurn 85 = .ok (.iconst 1, 1) := by decide +kernel
theorem dX10_addTurn_86 : decode cX10_addTurn 86 = .ok (.iload_n 3, 1) := by decide +kernel
theorem dX10_addTurn_87 : decode cX10_addTurn 87 = .ok (.iadd, 1) := by decide +kernel
theorem dX10_addTurn_88 : decode cX10_addTurn 88 = .ok (.aload_n 0, 1) := by decide +kernel
theorem dX10_addTurn_89 : decode cX10_addTurn 89 = .ok (.getfield 13, 3) := by decide +kernel
theorem dX10_addTurn_92 : decode cX10_addTurn 92 = .ok (.iload_n 3, 1) := by decide +kernel
theorem dX10_addTurn_93 : decode cX10_addTurn 93 = .ok (.laload, 1) := by decide +kernel
theorem dX10_addTurn_94 : decode cX10_addTurn 94 = .ok (.lastore, 1) := by decide +kernel
theorem dX10_addTurn_95 : decode cX10_addTurn 95 = .ok (.iinc 3 (-1), 3) := by decide +kernel
theorem dX10_addTurn_98 : decode cX10_addTurn 98 = .ok (.goto (-71), 3) := by decide +kernel
theorem dX10_addTurn_101 : decode cX10_addTurn 101 = .ok (.aload_n 0, 1) := by decide +kernel
theorem dX10_addTurn_102 : decode cX10_addTurn 102 = .ok (.getfield 7, 3) := by decide +kernel
theorem dX10_addTurn_105 : decode cX10_addTurn 105 = .ok (.bipush 58, 2) := by decide +kernel
theorem dX10_addTurn_107 : decode cX10_addTurn 107 = .ok (.iload_n 1, 1) := by decide +kernel
theorem dX10_addTurn_108 : decode cX10_addTurn 108 = .ok (.iastore, 1) := by decide +kernel
theorem dX10_addTurn_109 : decode cX10_addTurn 109 = .ok (.aload_n 0, 1) := by decide +kernel
theorem dX10_addTurn_110 : decode cX10_addTurn 110 = .ok (.getfield 7, 3) := by decide +kernel
theorem dX10_addTurn_113 : decode cX10_addTurn 113 = .ok (.bipush 59, 2) := by decide +kernel
theorem dX10_addTurn_115 : decode cX10_addTurn 115 = .ok (.aload_n 0, 1) := by decide +kernel
theorem dX10_addTurn_116 : decode cX10_addTurn 116 = .ok (.getfield 7, 3) := by decide +kernel
theorem dX10_addTurn_119 : decode cX10_addTurn 119 = .ok (.bipush 10, 2) := by decide +kernel
theorem dX10_addTurn_121 : decode cX10_addTurn 121 = .ok (.iaload, 1) := by decide +kernel
theorem dX10_addTurn_122 : decode cX10_addTurn 122 = .ok (.iastore, 1) := by decide +kernel
theorem dX10_addTurn_123 : decode cX10_addTurn 123 = .ok (.aload_n 0, 1) := by decide +kernel
theorem dX10_addTurn_124 : decode cX10_addTurn 124 = .ok (.getfield 13, 3) := by decide +kernel
theorem dX10_addTurn_127 : decode cX10_addTurn 127 = .ok (.iconst 1, 1) := by decide +kernel
theorem dX10_addTurn_128 : decode cX10_addTurn 128 = .ok (.aload_n 0, 1) := by decide +kernel
theorem dX10_addTurn_129 : decode cX10_addTurn 129 = .ok (.getfield 13, 3) := by decide +kernel
theorem dX10_addTurn_132 : decode cX10_addTurn 132 = .ok (.iconst 0, 1) := by decide +kernel
theorem dX10_addTurn_133 : decode cX10_addTurn 133 = .ok (.laload, 1) := by decide +kernel
theorem dX10_addTurn_134 : decode cX10_addTurn 134 = .ok (.lastore, 1) := by decide +kernel
theorem dX10_addTurn_135 : decode cX10_addTurn 135 = .ok (.aload_n 0, 1) := by decide +kernel
theorem dX10_addTurn_136 : decode cX10_addTurn 136 = .ok (.getfield 7, 3) := by decide +kernel
theorem dX10_addTurn_139 : decode cX10_addTurn 139 = .ok (.bipush 13, 2) := by decide +kernel
theorem dX10_addTurn_141 : decode cX10_addTurn 141 = .ok (.iload_n 2, 1) := by decide +kernel
theorem dX10_addTurn_142 : decode cX10_addTurn 142 = .ok (.iconst 1, 1) := by decide +kernel
theorem dX10_addTurn_143 : decode cX10_addTurn 143 = .ok (.iadd, 1) := by decide +kernel
theorem dX10_addTurn_144 : decode cX10_addTurn 144 = .ok (.iastore, 1) := by decide +kernel
theorem dX10_addTurn_145 : decode cX10_addTurn 145 = .ok (.aload_n 0, 1) := by decide +kernel
theorem dX10_addTurn_146 : decode cX10_addTurn 146 = .ok (.getfield 7, 3) := by decide +kernel
theorem dX10_addTurn_149 : decode cX10_addTurn 149 = .ok (.bipush 14, 2) := by decide +kernel
theorem dX10_addTurn_151 : decode cX10_addTurn 151 = .ok (.dup2, 1) := by decide +kernel
theorem dX10_addTurn_152 : decode cX10_addTurn 152 = .ok (.iaload, 1) := by decide +kernel
theorem dX10_addTurn_153 : decode cX10_addTurn 153 = .ok (.iconst 1, 1) := by decide +kernel
theorem dX10_addTurn_154 : decode cX10_addTurn 154 = .ok (.iadd, 1) := by decide +kernel
theorem dX10_addTurn_155 : decode cX10_addTurn 155 = .ok (.iastore, 1) := by decide +kernel
theorem dX10_addTurn_156 : decode cX10_addTurn 156 = .ok (.return_, 1) := by decide +kernel
theorem dX10_endLeg_0 : decode cX10_endLeg 0 = .ok (.aload_n 0, 1) := by decide +kernel
theorem dX10_endLeg_1 : decode cX10_endLeg 1 = .ok (.getfield 7, 3) := by decide +kernel
theorem dX10_endLeg_4 : decode cX10_endLeg 4 = .ok (.iconst 3, 1) := by decide +kernel
theorem dX10_endLeg_5 : decode cX10_endLeg 5 = .ok (.dup2, 1) := by decide +kernel
theorem dX10_endLeg_6 : decode cX10_endLeg 6 = .ok (.iaload, 1) := by decide +kernel
theorem dX10_endLeg_7 : decode cX10_endLeg 7 = .ok (.iconst 1, 1) := by decide +kernel
theorem dX10_endLeg_8 : decode cX10_endLeg 8 = .ok (.isub, 1) := by decide +kernel
theorem dX10_endLeg_9 : decode cX10_endLeg 9 = .ok (.iastore, 1) := by decide +kernel
theorem dX10_endLeg_10 : decode cX10_endLeg 10 = .ok (.iconst 0, 1) := by decide +kernel
theorem dX10_endLeg_11 : decode cX10_endLeg 11 = .ok (.istore_n 1, 1) := by decide +kernel
theorem dX10_endLeg_12 : decode cX10_endLeg 12 = .ok (.iload_n 1, 1) := by decide +kernel
theorem dX10_endLeg_13 : decode cX10_endLeg 13 = .ok (.iconst 3, 1) := by decide +kernel
theorem dX10_endLeg_14 : decode cX10_endLeg 14 = .ok (.aload_n 0, 1) := by decide +kernel
theorem dX10_endLeg_15 : decode cX10_endLeg 15 = .ok (.getfield 7, 3) := by decide +kernel
theorem dX10_endLeg_18 : decode cX10_endLeg 18 = .ok (.iconst 3, 1) := by decide +kernel
theorem dX10_endLeg_19 : decode cX10_endLeg 19 = .ok (.iaload, 1) := by decide +kernel
theorem dX10_endLeg_20 : decode cX10_endLeg 20 = .ok (.imul, 1) := by decide +kernel
theorem dX10_endLeg_21 : decode cX10_endLeg 21 = .ok (.if_icmp .ge 29, 3) := by decide +kernel
theorem dX10_endLeg_24 : decode cX10_endLeg 24 = .ok (.aload_n 0, 1) := by decide +kernel
theorem dX10_endLeg_25 : decode cX10_endLeg 25 = .ok (.getfield 7, 3) := by decide +kernel
theorem dX10_endLeg_28 : decode cX10_endLeg 28 = .ok (.bipush 34, 2) := by decide +kernel
theorem dX10_endLeg_30 : decode cX10_endLeg 30 = .ok (.iload_n 1, 1) := by decide +kernel
theorem dX10_endLeg_31 : decode cX10_endLeg 31 = .ok (.iadd, 1) := by decide +kernel
theorem dX10_endLeg_32 : decode cX10_endLeg 32 = .ok (.aload_n 0, 1) := by decide +kernel
theorem dX10_endLeg_33 : decode cX10_endLeg 33 = .ok (.getfield 7, 3) := by decide +kernel
theorem dX10_endLeg_36 : decode cX10_endLeg 36 = .ok (.bipush 34, 2) := by decide +kernel
theorem dX10_endLeg_38 : decode cX10_endLeg 38 = .ok (.iload_n 1, 1) := by decide +kernel
theorem dX10_endLeg_39 : decode cX10_endLeg 39 = .ok (.iadd, 1) := by decide +kernel
theorem dX10_endLeg_40 : decode cX10_endLeg 40 = .ok (.iconst 3, 1) := by decide +kernel
theorem dX10_endLeg_41 : decode cX10_endLeg 41 = .ok (.iadd, 1) := by decide +kernel
theorem dX10_endLeg_42 : decode cX10_endLeg 42 = .ok (.iaload, 1) := by decide +kernel
theorem dX10_endLeg_43 : decode cX10_endLeg 43 = .ok (.iastore, 1) := by decide +kernel
theorem dX10_endLeg_44 : decode cX10_endLeg 44 = .ok (.iinc 1 1, 3) := by decide +kernel
theorem dX10_endLeg_47 : decode cX10_endLeg 47 = .ok (.goto (-35), 3) := by decide +kernel
theorem dX10_endLeg_50 : decode cX10_endLeg 50 = .ok (.aload_n 0, 1) := by decide +kernel
theorem dX10_endLeg_51 : decode cX10_endLeg 51 = .ok (.getfield 7, 3) := by decide +kernel
theorem dX10_endLeg_54 : decode cX10_endLeg 54 = .ok (.iconst 2, 1) := by decide +kernel
theorem dX10_endLeg_55 : decode cX10_endLeg 55 = .ok (.aload_n 0, 1) := by decide +kernel
theorem dX10_endLeg_56 : decode cX10_endLeg 56 = .ok (.getfield 7, 3) := by decide +kernel
theorem dX10_endLeg_59 : decode cX10_endLeg 59 = .ok (.iconst 3, 1) := by decide +kernel
theorem dX10_endLeg_60 : decode cX10_endLeg 60 = .ok (.iaload, 1) := by decide +kernel
theorem dX10_endLeg_61 : decode cX10_endLeg 61 = .ok (.ifCond .ne 7, 3) := by decide +kernel
theorem dX10_endLeg_64 : decode cX10_endLeg 64 = .ok (.iconst 0, 1) := by decide +kernel
theorem dX10_endLeg_65 : decode cX10_endLeg 65 = .ok (.goto 9, 3) := by decide +kernel
theorem dX10_endLeg_68 : decode cX10_endLeg 68 = .ok (.aload_n 0, 1) := by decide +kernel
theorem dX10_endLeg_69 : decode cX10_endLeg 69 = .ok (.getfield 7, 3) := by decide +kernel
theorem dX10_endLeg_72 : decode cX10_endLeg 72 = .ok (.iconst 2, 1) := by decide +kernel
theorem dX10_endLeg_73 : decode cX10_endLeg 73 = .ok (.iaload, 1) := by decide +kernel
theorem dX10_endLeg_74 : decode cX10_endLeg 74 = .ok (.iastore, 1) := by decide +kernel
theorem dX10_endLeg_75 : decode cX10_endLeg 75 = .ok (.return_, 1) := by decide +kernel
set_option maxRecDepth 20000 in
theorem ggX10_makeMinute_X10_course : GoodIn wsX10_makeMinute wsX10_course := goodIn_r _ [10, 1, 72, 73, 74, 75, 76, 77, 78, 79, 80, 81, 82, 83, 84, 85, 86, 87] (by decide +kernel) (by decide +kernel)
set_option maxRecDepth 20000 in
theorem gX10_makeMinute_X10_course : GoodIn wsX10_makeMinute (wsV RX10 86 RX10 yX10_course wsX10_course) := goodIn_app (goodIn_of _ (by decide +kernel)) ggX10_makeMinute_X10_course
set_option maxRecDepth 20000 in
theorem ggX10_makeMinute_X10_speed : GoodIn wsX10_makeMinute wsX10_speed := goodIn_r _ [14, 1, 72, 73, 74, 75, 76, 77, 78, 79, 80, 81, 82, 83, 84, 85, 86, 87] (by decide +kernel) (by decide +kernel)
set_option maxRecDepth 20000 in
theorem gX10_makeMinute_X10_speed : GoodIn wsX10_makeMinute (wsV RX10 82 RX10 yX10_speed wsX10_speed) := goodIn_app (goodIn_of _ (by decide +kernel)) ggX10_makeMinute_X10_speed
set_option maxRecDepth 20000 in
theorem ggX10_makeMinute_X10_swing : GoodIn wsX10_makeMinute wsX10_swing := goodIn_r _ [18, 1, 19, 20, 4, 21, 22, 23, 24, 25, 9, 26, 27, 28, 29, 30, 31, 11, 12, 13, 14, 6, 7, 8, 10, 32, 33, 34, 35, 36, 37, 38, 39, 40, 41, 42, 43, 44, 45, 46, 47, 48, 49, 50, 51, 52, 53, 54, 55, 56, 57, 58, 59, 60, 61, 62, 63, 72, 73, 74, 75, 76, 77, 78, 79, 80, 81, 82, 83, 84, 85, 86, 87] (by decide +kernel) (by decide +kernel)
set_option maxRecDepth 20000 in
theorem gX10_makeMinute_X10_swing : GoodIn wsX10_makeMinute (wsV RX10 141 RX10 yX10_swing wsX10_swing) := goodIn_app (goodIn_of _ (by decide +kernel)) ggX10_makeMinute_X10_swing
set_option maxRecDepth 20000 in
theorem ggX10_makeMinute_X10_addTurn : GoodIn wsX10_makeMinute wsX10_addTurn := goodIn_r _ [67, 1, 2, 72, 73, 74, 75, 76, 77, 78, 79, 80, 81, 82, 83, 84, 85, 86, 87] (by decide +kernel) (by decide +kernel)
set_option maxRecDepth 20000 in
theorem gX10_makeMinute_X10_addTurn : GoodIn wsX10_makeMinute (wsV RX10 144 RX10 yX10_addTurn wsX10_addTurn) := goodIn_app (goodIn_of _ (by decide +kernel)) ggX10_makeMinute_X10_addTurn
set_option maxRecDepth 20000 in
theorem ggX10_makeMinute_X10_cosine : GoodIn wsX10_makeMinute wsX10_cosine := goodIn_r _ [59, 60, 46, 47, 9, 48, 49, 50, 51, 52, 53] (by decide +kernel) (by decide +kernel)
set_option maxRecDepth 20000 in
theorem gX10_makeMinute_X10_cosine : GoodIn wsX10_makeMinute (va_wsS RX10 67 yX10_cosine wsX10_cosine) := goodIn_app (goodIn_of _ (by decide +kernel)) ggX10_makeMinute_X10_cosine
set_option maxRecDepth 20000 in
theorem ggX10_makeMinute_X10_limited : GoodIn wsX10_makeMinute wsX10_limited := goodIn_r _ [63] (by decide +kernel) (by decide +kernel)
set_option maxRecDepth 20000 in
theorem gX10_makeMinute_X10_limited : GoodIn wsX10_makeMinute (va_wsS RX10 136 yX10_limited wsX10_limited) := goodIn_app (goodIn_of _ (by decide +kernel)) ggX10_makeMinute_X10_limited
set_option maxRecDepth 20000 in
theorem ggX10_makeMinute_X10_endLeg : GoodIn wsX10_makeMinute wsX10_endLeg := goodIn_r _ [71, 1, 72, 73, 74, 75, 76, 77, 78, 79, 80, 81, 82, 83, 84, 85, 86, 87] (by decide +kernel) (by decide +kernel)
set_option maxRecDepth 20000 in
theorem gX10_makeMinute_X10_endLeg : GoodIn wsX10_makeMinute (wsV RX10 151 RX10 yX10_endLeg wsX10_endLeg) := goodIn_app (goodIn_of _ (by decide +kernel)) ggX10_makeMinute_X10_endLeg
theorem dX10_makeMinute_0 : decode cX10_makeMinute 0 = .ok (.aload_n 0, 1) := by decide +kernel
theorem dX10_makeMinute_1 : decode cX10_makeMinute 1 = .ok (.getfield 7, 3) := by decide +kernel
theorem dX10_makeMinute_4 : decode cX10_makeMinute 4 = .ok (.iconst 1, 1) := by decide +kernel
theorem dX10_makeMinute_5 : decode cX10_makeMinute 5 = .ok (.aload_n 0, 1) := by decide +kernel
theorem dX10_makeMinute_6 : decode cX10_makeMinute 6 = .ok (.invokevirtual 86, 3) := by decide +kernel
theorem dX10_makeMinute_9 : decode cX10_makeMinute 9 = .ok (.iastore, 1) := by decide +kernel
theorem dX10_makeMinute_10 : decode cX10_makeMinute 10 = .ok (.aload_n 0, 1) := by decide +kernel
theorem dX10_makeMinute_11 : decode cX10_makeMinute 11 = .ok (.getfield 7, 3) := by decide +kernel
theorem dX10_makeMinute_14 : decode cX10_makeMinute 14 = .ok (.iconst 2, 1) := by decide +kernel
theorem dX10_makeMinute_15 : decode cX10_makeMinute 15 = .ok (.aload_n 0, 1) := by decide +kernel
theorem dX10_makeMinute_16 : decode cX10_makeMinute 16 = .ok (.invokevirtual 82, 3) := by decide +kernel
theorem dX10_makeMinute_19 : decode cX10_makeMinute 19 = .ok (.iastore, 1) := by decide +kernel
theorem dX10_makeMinute_20 : decode cX10_makeMinute 20 = .ok (.aload_n 0, 1) := by decide +kernel
theorem dX10_makeMinute_21 : decode cX10_makeMinute 21 = .ok (.getfield 7, 3) := by decide +kernel
theorem dX10_makeMinute_24 : decode cX10_makeMinute 24 = .ok (.iconst 4, 1) := by decide +kernel
theorem dX10_makeMinute_25 : decode cX10_makeMinute 25 = .ok (.iaload, 1) := by decide +kernel
theorem dX10_makeMinute_26 : decode cX10_makeMinute 26 = .ok (.istore_n 1, 1) := by decide +kernel
theorem dX10_makeMinute_27 : decode cX10_makeMinute 27 = .ok (.aload_n 0, 1) := by decide +kernel
theorem dX10_makeMinute_28 : decode cX10_makeMinute 28 = .ok (.invokevirtual 141, 3) := by decide +kernel
theorem dX10_makeMinute_31 : decode cX10_makeMinute 31 = .ok (.aload_n 0, 1) := by decide +kernel
theorem dX10_makeMinute_32 : decode cX10_makeMinute 32 = .ok (.getfield 7, 3) := by decide +kernel
theorem dX10_makeMinute_35 : decode cX10_makeMinute 35 = .ok (.iconst 4, 1) := by decide +kernel
theorem dX10_makeMinute_36 : decode cX10_makeMinute 36 = .ok (.iaload, 1) := by decide +kernel
theorem dX10_makeMinute_37 : decode cX10_makeMinute 37 = .ok (.iload_n 1, 1) := by decide +kernel
theorem dX10_makeMinute_38 : decode cX10_makeMinute 38 = .ok (.if_icmp .eq 44, 3) := by decide +kernel
theorem dX10_makeMinute_41 : decode cX10_makeMinute 41 = .ok (.aload_n 0, 1) := by decide +kernel
theorem dX10_makeMinute_42 : decode cX10_makeMinute 42 = .ok (.getfield 7, 3) := by decide +kernel
theorem dX10_makeMinute_45 : decode cX10_makeMinute 45 = .ok (.iconst 4, 1) := by decide +kernel
theorem dX10_makeMinute_46 : decode cX10_makeMinute 46 = .ok (.iaload, 1) := by decide +kernel
theorem dX10_makeMinute_47 : decode cX10_makeMinute 47 = .ok (.iload_n 1, 1) := by decide +kernel
theorem dX10_makeMinute_48 : decode cX10_makeMinute 48 = .ok (.if_icmp .le 7, 3) := by decide +kernel
theorem dX10_makeMinute_51 : decode cX10_makeMinute 51 = .ok (.iconst 1, 1) := by decide +kernel
theorem dX10_makeMinute_52 : decode cX10_makeMinute 52 = .ok (.goto 4, 3) := by decide +kernel
theorem dX10_makeMinute_55 : decode cX10_makeMinute 55 = .ok (.iconst (-1), 1) := by decide +kernel
theorem dX10_makeMinute_56 : decode cX10_makeMinute 56 = .ok (.istore_n 2, 1) := by decide +kernel
theorem dX10_makeMinute_57 : decode cX10_makeMinute 57 = .ok (.aload_n 0, 1) := by decide +kernel
theorem dX10_makeMinute_58 : decode cX10_makeMinute 58 = .ok (.getfield 7, 3) := by decide +kernel
theorem dX10_makeMinute_61 : decode cX10_makeMinute 61 = .ok (.bipush 12, 2) := by decide +kernel
theorem dX10_makeMinute_63 : decode cX10_makeMinute 63 = .ok (.iaload, 1) := by decide +kernel
theorem dX10_makeMinute_64 : decode cX10_makeMinute 64 = .ok (.iload_n 2, 1) := by decide +kernel
theorem dX10_makeMinute_65 : decode cX10_makeMinute 65 = .ok (.ineg, 1) := by decide +kernel
theorem dX10_makeMinute_66 : decode cX10_makeMinute 66 = .ok (.if_icmp .ne 8, 3) := by decide +kernel
theorem dX10_makeMinute_69 : decode cX10_makeMinute 69 = .ok (.aload_n 0, 1) := by decide +kernel
theorem dX10_makeMinute_70 : decode cX10_makeMinute 70 = .ok (.iload_n 1, 1) := by decide +kernel
theorem dX10_makeMinute_71 : decode cX10_makeMinute 71 = .ok (.invokevirtual 144, 3) := by decide +kernel
theorem dX10_makeMinute_74 : decode cX10_makeMinute 74 = .ok (.aload_n 0, 1) := by decide +kernel
theorem dX10_makeMinute_75 : decode cX10_makeMinute 75 = .ok (.getfield 7, 3) := by decide +kernel
theorem dX10_makeMinute_78 : decode cX10_makeMinute 78 = .ok (.bipush 12, 2) := by decide +kernel
theorem dX10_makeMinute_80 : decode cX10_makeMinute 80 = .ok (.iload_n 2, 1) := by decide +kernel
theorem dX10_makeMinute_81 : decode cX10_makeMinute 81 = .ok (.iastore, 1) := by decide +kernel
theorem dX10_makeMinute_82 : decode cX10_makeMinute 82 = .ok (.aload_n 0, 1) := by decide +kernel
theorem dX10_makeMinute_83 : decode cX10_makeMinute 83 = .ok (.getfield 13, 3) := by decide +kernel
theorem dX10_makeMinute_86 : decode cX10_makeMinute 86 = .ok (.iconst 0, 1) := by decide +kernel
theorem dX10_makeMinute_87 : decode cX10_makeMinute 87 = .ok (.dup2, 1) := by decide +kernel
theorem dX10_makeMinute_88 : decode cX10_makeMinute 88 = .ok (.laload, 1) := by decide +kernel
theorem dX10_makeMinute_89 : decode cX10_makeMinute 89 = .ok (.aload_n 0, 1) := by decide +kernel
theorem dX10_makeMinute_90 : decode cX10_makeMinute 90 = .ok (.getfield 7, 3) := by decide +kernel
theorem dX10_makeMinute_93 : decode cX10_makeMinute 93 = .ok (.iconst 4, 1) := by decide +kernel
theorem dX10_makeMinute_94 : decode cX10_makeMinute 94 = .ok (.iaload, 1) := by decide +kernel
theorem dX10_makeMinute_95 : decode cX10_makeMinute 95 = .ok (.i2l, 1) := by decide +kernel
theorem dX10_makeMinute_96 : decode cX10_makeMinute 96 = .ok (.ladd, 1) := by decide +kernel
theorem dX10_makeMinute_97 : decode cX10_makeMinute 97 = .ok (.lastore, 1) := by decide +kernel
theorem dX10_makeMinute_98 : decode cX10_makeMinute 98 = .ok (.aload_n 0, 1) := by decide +kernel
theorem dX10_makeMinute_99 : decode cX10_makeMinute 99 = .ok (.getfield 7, 3) := by decide +kernel
theorem dX10_makeMinute_102 : decode cX10_makeMinute 102 = .ok (.iconst 2, 1) := by decide +kernel
theorem dX10_makeMinute_103 : decode cX10_makeMinute 103 = .ok (.iaload, 1) := by decide +kernel
theorem dX10_makeMinute_104 : decode cX10_makeMinute 104 = .ok (.i2l, 1) := by decide +kernel
theorem dX10_makeMinute_105 : decode cX10_makeMinute 105 = .ok (.ldc2_w 148, 3) := by decide +kernel
theorem dX10_makeMinute_108 : decode cX10_makeMinute 108 = .ok (.lmul, 1) := by decide +kernel
theorem dX10_makeMinute_109 : decode cX10_makeMinute 109 = .ok (.aload_n 0, 1) := by decide +kernel
theorem dX10_makeMinute_110 : decode cX10_makeMinute 110 = .ok (.getfield 7, 3) := by decide +kernel
theorem dX10_makeMinute_113 : decode cX10_makeMinute 113 = .ok (.iconst 1, 1) := by decide +kernel
theorem dX10_makeMinute_114 : decode cX10_makeMinute 114 = .ok (.iaload, 1) := by decide +kernel
theorem dX10_makeMinute_115 : decode cX10_makeMinute 115 = .ok (.invokestatic 67, 3) := by decide +kernel
theorem dX10_makeMinute_118 : decode cX10_makeMinute 118 = .ok (.i2l, 1) := by decide +kernel
theorem dX10_makeMinute_119 : decode cX10_makeMinute 119 = .ok (.lmul, 1) := by decide +kernel
theorem dX10_makeMinute_120 : decode cX10_makeMinute 120 = .ok (.ldc2_w 134, 3) := by decide +kernel
theorem dX10_makeMinute_123 : decode cX10_makeMinute 123 = .ok (.ldiv, 1) := by decide +kernel
theorem dX10_makeMinute_124 : decode cX10_makeMinute 124 = .ok (.lstore_n 2, 1) := by decide +kernel
theorem dX10_makeMinute_125 : decode cX10_makeMinute 125 = .ok (.aload_n 0, 1) := by decide +kernel
theorem dX10_makeMinute_126 : decode cX10_makeMinute 126 = .ok (.getfield 7, 3) := by decide +kernel
theorem dX10_makeMinute_129 : decode cX10_makeMinute 129 = .ok (.iconst 0, 1) := by decide +kernel
theorem dX10_makeMinute_130 : decode cX10_makeMinute 130 = .ok (.aload_n 0, 1) := by decide +kernel
theorem dX10_makeMinute_131 : decode cX10_makeMinute 131 = .ok (.getfield 7, 3) := by decide +kernel
theorem dX10_makeMinute_134 : decode cX10_makeMinute 134 = .ok (.iconst 0, 1) := by decide +kernel
theorem dX10_makeMinute_135 : decode cX10_makeMinute 135 = .ok (.iaload, 1) := by decide +kernel
theorem dX10_makeMinute_136 : decode cX10_makeMinute 136 = .ok (.i2l, 1) := by decide +kernel
theorem dX10_makeMinute_137 : decode cX10_makeMinute 137 = .ok (.lload_n 2, 1) := by decide +kernel
theorem dX10_makeMinute_138 : decode cX10_makeMinute 138 = .ok (.ladd, 1) := by decide +kernel
theorem dX10_makeMinute_139 : decode cX10_makeMinute 139 = .ok (.ldc 150, 2) := by decide +kernel
theorem dX10_makeMinute_141 : decode cX10_makeMinute 141 = .ok (.invokestatic 136, 3) := by decide +kernel
theorem dX10_makeMinute_144 : decode cX10_makeMinute 144 = .ok (.iastore, 1) := by decide +kernel
theorem dX10_makeMinute_145 : decode cX10_makeMinute 145 = .ok (.aload_n 0, 1) := by decide +kernel
theorem dX10_makeMinute_146 : decode cX10_makeMinute 146 = .ok (.getfield 7, 3) := by decide +kernel
theorem dX10_makeMinute_149 : decode cX10_makeMinute 149 = .ok (.bipush 10, 2) := by decide +kernel
theorem dX10_makeMinute_151 : decode cX10_makeMinute 151 = .ok (.dup2, 1) := by decide +kernel
theorem dX10_makeMinute_152 : decode cX10_makeMinute 152 = .ok (.iaload, 1) := by decide +kernel
theorem dX10_makeMinute_153 : decode cX10_makeMinute 153 = .ok (.iconst 1, 1) := by decide +kernel
theorem dX10_makeMinute_154 : decode cX10_makeMinute 154 = .ok (.iadd, 1) := by decide +kernel
theorem dX10_makeMinute_155 : decode cX10_makeMinute 155 = .ok (.iastore, 1) := by decide +kernel
theorem dX10_makeMinute_156 : decode cX10_makeMinute 156 = .ok (.aload_n 0, 1) := by decide +kernel
theorem dX10_makeMinute_157 : decode cX10_makeMinute 157 = .ok (.getfield 7, 3) := by decide +kernel
theorem dX10_makeMinute_160 : decode cX10_makeMinute 160 = .ok (.bipush 29, 2) := by decide +kernel
theorem dX10_makeMinute_162 : decode cX10_makeMinute 162 = .ok (.aload_n 0, 1) := by decide +kernel
theorem dX10_makeMinute_163 : decode cX10_makeMinute 163 = .ok (.getfield 7, 3) := by decide +kernel
theorem dX10_makeMinute_166 : decode cX10_makeMinute 166 = .ok (.bipush 8, 2) := by decide +kernel
theorem dX10_makeMinute_168 : decode cX10_makeMinute 168 = .ok (.iaload, 1) := by decide +kernel
theorem dX10_makeMinute_169 : decode cX10_makeMinute 169 = .ok (.iadd, 1) := by decide +kernel
theorem dX10_makeMinute_170 : decode cX10_makeMinute 170 = .ok (.dup2, 1) := by decide +kernel
theorem dX10_makeMinute_171 : decode cX10_makeMinute 171 = .ok (.iaload, 1) := by decide +kernel
theorem dX10_makeMinute_172 : decode cX10_makeMinute 172 = .ok (.iconst 1, 1) := by decide +kernel
theorem dX10_makeMinute_173 : decode cX10_makeMinute 173 = .ok (.iadd, 1) := by decide +kernel
theorem dX10_makeMinute_174 : decode cX10_makeMinute 174 = .ok (.iastore, 1) := by decide +kernel
theorem dX10_makeMinute_175 : decode cX10_makeMinute 175 = .ok (.aload_n 0, 1) := by decide +kernel
theorem dX10_makeMinute_176 : decode cX10_makeMinute 176 = .ok (.getfield 7, 3) := by decide +kernel
theorem dX10_makeMinute_179 : decode cX10_makeMinute 179 = .ok (.bipush 11, 2) := by decide +kernel
theorem dX10_makeMinute_181 : decode cX10_makeMinute 181 = .ok (.dup2, 1) := by decide +kernel
theorem dX10_makeMinute_182 : decode cX10_makeMinute 182 = .ok (.iaload, 1) := by decide +kernel
theorem dX10_makeMinute_183 : decode cX10_makeMinute 183 = .ok (.aload_n 0, 1) := by decide +kernel
theorem dX10_makeMinute_184 : decode cX10_makeMinute 184 = .ok (.getfield 7, 3) := by decide +kernel
theorem dX10_makeMinute_187 : decode cX10_makeMinute 187 = .ok (.iconst 2, 1) := by decide +kernel
theorem dX10_makeMinute_188 : decode cX10_makeMinute 188 = .ok (.iaload, 1) := by decide +kernel
theorem dX10_makeMinute_189 : decode cX10_makeMinute 189 = .ok (.iadd, 1) := by decide +kernel
theorem dX10_makeMinute_190 : decode cX10_makeMinute 190 = .ok (.iastore, 1) := by decide +kernel
theorem dX10_makeMinute_191 : decode cX10_makeMinute 191 = .ok (.aload_n 0, 1) := by decide +kernel
theorem dX10_makeMinute_192 : decode cX10_makeMinute 192 = .ok (.getfield 7, 3) := by decide +kernel
theorem dX10_makeMinute_195 : decode cX10_makeMinute 195 = .ok (.iconst 3, 1) := by decide +kernel
theorem dX10_makeMinute_196 : decode cX10_makeMinute 196 = .ok (.iaload, 1) := by decide +kernel
theorem dX10_makeMinute_197 : decode cX10_makeMinute 197 = .ok (.ifCond .le 28, 3) := by decide +kernel
theorem dX10_makeMinute_200 : decode cX10_makeMinute 200 = .ok (.aload_n 0, 1) := by decide +kernel
theorem dX10_makeMinute_201 : decode cX10_makeMinute 201 = .ok (.getfield 7, 3) := by decide +kernel
theorem dX10_makeMinute_204 : decode cX10_makeMinute 204 = .ok (.bipush 36, 2) := by decide +kernel
theorem dX10_makeMinute_206 : decode cX10_makeMinute 206 = .ok (.dup2, 1) := by decide +kernel
theorem dX10_makeMinute_207 : decode cX10_makeMinute 207 = .ok (.iaload, 1) := by decide +kernel
theorem dX10_makeMinute_208 : decode cX10_makeMinute 208 = .ok (.iconst 1, 1) := by decide +kernel
theorem dX10_makeMinute_209 : decode cX10_makeMinute 209 = .ok (.isub, 1) := by decide +kernel
theorem dX10_makeMinute_210 : decode cX10_makeMinute 210 = .ok (.iastore, 1) := by decide +kernel
theorem dX10_makeMinute_211 : decode cX10_makeMinute 211 = .ok (.aload_n 0, 1) := by decide +kernel
theorem dX10_makeMinute_212 : decode cX10_makeMinute 212 = .ok (.getfield 7, 3) := by decide +kernel
theorem dX10_makeMinute_215 : decode cX10_makeMinute 215 = .ok (.bipush 36, 2) := by decide +kernel
theorem dX10_makeMinute_217 : decode cX10_makeMinute 217 = .ok (.iaload, 1) := by decide +kernel
theorem dX10_makeMinute_218 : decode cX10_makeMinute 218 = .ok (.ifCond .ne 7, 3) := by decide +kernel
theorem dX10_makeMinute_221 : decode cX10_makeMinute 221 = .ok (.aload_n 0, 1) := by decide +kernel
theorem dX10_makeMinute_222 : decode cX10_makeMinute 222 = .ok (.invokevirtual 151, 3) := by decide +kernel
theorem dX10_makeMinute_225 : decode cX10_makeMinute 225 = .ok (.return_, 1) := by decide +kernel
set_option maxRecDepth 20000 in
theorem ggX10_pass_X10_in : GoodIn wsX10_pass wsX10_in := goodIn_r _ [6] (by decide +kernel) (by decide +kernel)
set_option maxRecDepth 20000 in
theorem gX10_pass_X10_in : GoodIn wsX10_pass (va_wsS RX10 94 yX10_in wsX10_in) := goodIn_app (goodIn_of _ (by decide +kernel)) ggX10_pass_X10_in
set_option maxRecDepth 20000 in
theorem ggX10_pass_X10_keep : GoodIn wsX10_pass wsX10_keep := goodIn_r _ [10, 11, 12, 13, 1, 14, 87, 88, 89, 90, 91, 92, 93, 94, 95, 96, 97, 98, 99, 100, 101, 102] (by decide +kernel) (by decide +kernel)
set_option maxRecDepth 20000 in
theorem gX10_pass_X10_keep : GoodIn wsX10_pass (wsV RX10 105 RX10 yX10_keep wsX10_keep) := goodIn_app (goodIn_of _ (by decide +kernel)) ggX10_pass_X10_keep
set_option maxRecDepth 20000 in
theorem ggX10_pass_X10_makeMinute : GoodIn wsX10_pass wsX10_makeMinute := goodIn_r _ [18, 1, 14, 19, 20, 21, 22, 23, 24, 5, 25, 26, 27, 28, 29, 30, 31, 32, 33, 34, 35, 36, 37, 38, 39, 40, 41, 42, 43, 44, 45, 46, 47, 48, 49, 50, 51, 52, 53, 54, 55, 56, 57, 58, 59, 60, 61, 62, 63, 64, 65, 66, 67, 68, 69, 70, 71, 72, 73, 74, 75, 76, 77, 78, 79, 80, 81, 82, 83, 84, 85, 86, 87, 88, 89, 90, 91, 92, 93, 94, 95, 96, 97, 98, 99, 100, 101, 102] (by decide +kernel) (by decide +kernel)
set_option maxRecDepth 20000 in
theorem gX10_pass_X10_makeMinute : GoodIn wsX10_pass (wsV RX10 154 RX10 yX10_makeMinute wsX10_makeMinute) := goodIn_app (goodIn_of _ (by decide +kernel)) ggX10_pass_X10_makeMinute
theorem dX10_pass_0 : decode cX10_pass 0 = .ok (.iload_n 1, 1) := by decide +kernel
theorem dX10_pass_1 : decode cX10_pass 1 = .ok (.iconst 1, 1) := by decide +kernel
theorem dX10_pass_2 : decode cX10_pass 2 = .ok (.sipush 600, 3) := by decide +kernel
theorem dX10_pass_5 : decode cX10_pass 5 = .ok (.invokestatic 94, 3) := by decide +kernel
theorem dX10_pass_8 : decode cX10_pass 8 = .ok (.ifCond .ne 6, 3) := by decide +kernel
theorem dX10_pass_11 : decode cX10_pass 11 = .ok (.bipush (-2), 2) := by decide +kernel
theorem dX10_pass_13 : decode cX10_pass 13 = .ok (.ireturn, 1) := by decide +kernel
theorem dX10_pass_14 : decode cX10_pass 14 = .ok (.aload_n 0, 1) := by decide +kernel
theorem dX10_pass_15 : decode cX10_pass 15 = .ok (.getfield 7, 3) := by decide +kernel
theorem dX10_pass_18 : decode cX10_pass 18 = .ok (.bipush 10, 2) := by decide +kernel
theorem dX10_pass_20 : decode cX10_pass 20 = .ok (.iaload, 1) := by decide +kernel
theorem dX10_pass_21 : decode cX10_pass 21 = .ok (.iload_n 1, 1) := by decide +kernel
theorem dX10_pass_22 : decode cX10_pass 22 = .ok (.iadd, 1) := by decide +kernel
theorem dX10_pass_23 : decode cX10_pass 23 = .ok (.ldc 98, 2) := by decide +kernel
theorem dX10_pass_25 : decode cX10_pass 25 = .ok (.if_icmp .le 6, 3) := by decide +kernel
theorem dX10_pass_28 : decode cX10_pass 28 = .ok (.bipush (-5), 2) := by decide +kernel
theorem dX10_pass_30 : decode cX10_pass 30 = .ok (.ireturn, 1) := by decide +kernel
theorem dX10_pass_31 : decode cX10_pass 31 = .ok (.aload_n 0, 1) := by decide +kernel
theorem dX10_pass_32 : decode cX10_pass 32 = .ok (.invokevirtual 105, 3) := by decide +kernel
theorem dX10_pass_35 : decode cX10_pass 35 = .ok (.aload_n 0, 1) := by decide +kernel
theorem dX10_pass_36 : decode cX10_pass 36 = .ok (.getfield 7, 3) := by decide +kernel
theorem dX10_pass_39 : decode cX10_pass 39 = .ok (.bipush 14, 2) := by decide +kernel
theorem dX10_pass_41 : decode cX10_pass 41 = .ok (.iaload, 1) := by decide +kernel
theorem dX10_pass_42 : decode cX10_pass 42 = .ok (.istore_n 2, 1) := by decide +kernel
theorem dX10_pass_43 : decode cX10_pass 43 = .ok (.iconst 0, 1) := by decide +kernel
theorem dX10_pass_44 : decode cX10_pass 44 = .ok (.istore_n 3, 1) := by decide +kernel
theorem dX10_pass_45 : decode cX10_pass 45 = .ok (.iload_n 3, 1) := by decide +kernel
theorem dX10_pass_46 : decode cX10_pass 46 = .ok (.iload_n 1, 1) := by decide +kernel
theorem dX10_pass_47 : decode cX10_pass 47 = .ok (.if_icmp .ge 13, 3) := by decide +kernel
theorem dX10_pass_50 : decode cX10_pass 50 = .ok (.aload_n 0, 1) := by decide +kernel
theorem dX10_pass_51 : decode cX10_pass 51 = .ok (.invokevirtual 154, 3) := by decide +kernel
theorem dX10_pass_54 : decode cX10_pass 54 = .ok (.iinc 3 1, 3) := by decide +kernel
theorem dX10_pass_57 : decode cX10_pass 57 = .ok (.goto (-12), 3) := by decide +kernel
theorem dX10_pass_60 : decode cX10_pass 60 = .ok (.aload_n 0, 1) := by decide +kernel
theorem dX10_pass_61 : decode cX10_pass 61 = .ok (.getfield 7, 3) := by decide +kernel
theorem dX10_pass_64 : decode cX10_pass 64 = .ok (.bipush 14, 2) := by decide +kernel
theorem dX10_pass_66 : decode cX10_pass 66 = .ok (.iaload, 1) := by decide +kernel
theorem dX10_pass_67 : decode cX10_pass 67 = .ok (.iload_n 2, 1) := by decide +kernel
theorem dX10_pass_68 : decode cX10_pass 68 = .ok (.isub, 1) := by decide +kernel
theorem dX10_pass_69 : decode cX10_pass 69 = .ok (.ireturn, 1) := by decide +kernel
set_option maxRecDepth 20000 in
theorem ggX10_damp_X10_in : GoodIn wsX10_damp wsX10_in := goodIn_r _ [5] (by decide +kernel) (by decide +kernel)
set_option maxRecDepth 20000 in
theorem gX10_damp_X10_in : GoodIn wsX10_damp (va_wsS RX10 94 yX10_in wsX10_in) := goodIn_app (goodIn_of _ (by decide +kernel)) ggX10_damp_X10_in
set_option maxRecDepth 20000 in
theorem ggX10_damp_X10_setting : GoodIn wsX10_damp wsX10_setting := goodIn_r _ [9, 1, 18, 19, 20, 21, 22, 23, 24, 25, 26, 27, 28, 29, 30, 31, 32, 33] (by decide +kernel) (by decide +kernel)
set_option maxRecDepth 20000 in
theorem gX10_damp_X10_setting : GoodIn wsX10_damp (wsV RX10 70 RX10 yX10_setting wsX10_setting) := goodIn_app (goodIn_of _ (by decide +kernel)) ggX10_damp_X10_setting
set_option maxRecDepth 20000 in
theorem ggX10_damp_X10_keep : GoodIn wsX10_damp wsX10_keep := goodIn_r _ [13, 14, 15, 16, 1, 17, 18, 19, 20, 21, 22, 23, 24, 25, 26, 27, 28, 29, 30, 31, 32, 33] (by decide +kernel) (by decide +kernel)
set_option maxRecDepth 20000 in
theorem gX10_damp_X10_keep : GoodIn wsX10_damp (wsV RX10 105 RX10 yX10_keep wsX10_keep) := goodIn_app (goodIn_of _ (by decide +kernel)) ggX10_damp_X10_keep
theorem dX10_damp_0 : decode cX10_damp 0 = .ok (.iload_n 1, 1) := by decide +kernel
theorem dX10_damp_1 : decode cX10_damp 1 = .ok (.iconst 0, 1) := by decide +kernel
theorem dX10_damp_2 : decode cX10_damp 2 = .ok (.iconst 4, 1) := by decide +kernel
theorem dX10_damp_3 : decode cX10_damp 3 = .ok (.invokestatic 94, 3) := by decide +kernel
theorem dX10_damp_6 : decode cX10_damp 6 = .ok (.ifCond .ne 6, 3) := by decide +kernel
theorem dX10_damp_9 : decode cX10_damp 9 = .ok (.bipush (-2), 2) := by decide +kernel
theorem dX10_damp_11 : decode cX10_damp 11 = .ok (.ireturn, 1) := by decide +kernel
theorem dX10_damp_12 : decode cX10_damp 12 = .ok (.aload_n 0, 1) := by decide +kernel
theorem dX10_damp_13 : decode cX10_damp 13 = .ok (.getfield 7, 3) := by decide +kernel
theorem dX10_damp_16 : decode cX10_damp 16 = .ok (.bipush 9, 2) := by decide +kernel
theorem dX10_damp_18 : decode cX10_damp 18 = .ok (.iaload, 1) := by decide +kernel
theorem dX10_damp_19 : decode cX10_damp 19 = .ok (.ifCond .lt 30, 3) := by decide +kernel
theorem dX10_damp_22 : decode cX10_damp 22 = .ok (.aload_n 0, 1) := by decide +kernel
theorem dX10_damp_23 : decode cX10_damp 23 = .ok (.getfield 7, 3) := by decide +kernel
theorem dX10_damp_26 : decode cX10_damp 26 = .ok (.bipush 10, 2) := by decide +kernel
theorem dX10_damp_28 : decode cX10_damp 28 = .ok (.iaload, 1) := by decide +kernel
theorem dX10_damp_29 : decode cX10_damp 29 = .ok (.aload_n 0, 1) := by decide +kernel
theorem dX10_damp_30 : decode cX10_damp 30 = .ok (.getfield 7, 3) := by decide +kernel
theorem dX10_damp_33 : decode cX10_damp 33 = .ok (.bipush 9, 2) := by decide +kernel
theorem dX10_damp_35 : decode cX10_damp 35 = .ok (.iaload, 1) := by decide +kernel
theorem dX10_damp_36 : decode cX10_damp 36 = .ok (.isub, 1) := by decide +kernel
theorem dX10_damp_37 : decode cX10_damp 37 = .ok (.aload_n 0, 1) := by decide +kernel
theorem dX10_damp_38 : decode cX10_damp 38 = .ok (.bipush 8, 2) := by decide +kernel
theorem dX10_damp_40 : decode cX10_damp 40 = .ok (.invokevirtual 70, 3) := by decide +kernel
theorem dX10_damp_43 : decode cX10_damp 43 = .ok (.if_icmp .ge 6, 3) := by decide +kernel
theorem dX10_damp_46 : decode cX10_damp 46 = .ok (.bipush (-5), 2) := by decide +kernel
theorem dX10_damp_48 : decode cX10_damp 48 = .ok (.ireturn, 1) := by decide +kernel
theorem dX10_damp_49 : decode cX10_damp 49 = .ok (.aload_n 0, 1) := by decide +kernel
theorem dX10_damp_50 : decode cX10_damp 50 = .ok (.invokevirtual 105, 3) := by decide +kernel
theorem dX10_damp_53 : decode cX10_damp 53 = .ok (.aload_n 0, 1) := by decide +kernel
theorem dX10_damp_54 : decode cX10_damp 54 = .ok (.getfield 7, 3) := by decide +kernel
theorem dX10_damp_57 : decode cX10_damp 57 = .ok (.bipush 8, 2) := by decide +kernel
theorem dX10_damp_59 : decode cX10_damp 59 = .ok (.iaload, 1) := by decide +kernel
theorem dX10_damp_60 : decode cX10_damp 60 = .ok (.istore_n 2, 1) := by decide +kernel
theorem dX10_damp_61 : decode cX10_damp 61 = .ok (.aload_n 0, 1) := by decide +kernel
theorem dX10_damp_62 : decode cX10_damp 62 = .ok (.getfield 7, 3) := by decide +kernel
theorem dX10_damp_65 : decode cX10_damp 65 = .ok (.bipush 8, 2) := by decide +kernel
theorem dX10_damp_67 : decode cX10_damp 67 = .ok (.iload_n 1, 1) := by decide +kernel
theorem dX10_damp_68 : decode cX10_damp 68 = .ok (.iastore, 1) := by decide +kernel
theorem dX10_damp_69 : decode cX10_damp 69 = .ok (.aload_n 0, 1) := by decide +kernel
theorem dX10_damp_70 : decode cX10_damp 70 = .ok (.getfield 7, 3) := by decide +kernel
theorem dX10_damp_73 : decode cX10_damp 73 = .ok (.bipush 9, 2) := by decide +kernel
theorem dX10_damp_75 : decode cX10_damp 75 = .ok (.aload_n 0, 1) := by decide +kernel
theorem dX10_damp_76 : decode cX10_damp 76 = .ok (.getfield 7, 3) := by decide +kernel
theorem dX10_damp_79 : decode cX10_damp 79 = .ok (.bipush 10, 2) := by decide +kernel
theorem dX10_damp_81 : decode cX10_damp 81 = .ok (.iaload, 1) := by decide +kernel
theorem dX10_damp_82 : decode cX10_damp 82 = .ok (.iastore, 1) := by decide +kernel
theorem dX10_damp_83 : decode cX10_damp 83 = .ok (.iload_n 2, 1) := by decide +kernel
theorem dX10_damp_84 : decode cX10_damp 84 = .ok (.ireturn, 1) := by decide +kernel
set_option maxRecDepth 20000 in
theorem ggX10_correct_X10_isDegrees : GoodIn wsX10_correct wsX10_isDegrees := goodIn_r _ [5, 6, 7, 4, 8] (by decide +kernel) (by decide +kernel)
set_option maxRecDepth 20000 in
theorem gX10_correct_X10_isDegrees : GoodIn wsX10_correct (va_wsS RX10 113 yX10_isDegrees wsX10_isDegrees) := goodIn_app (goodIn_of _ (by decide +kernel)) ggX10_correct_X10_isDegrees
set_option maxRecDepth 20000 in
theorem ggX10_correct_X10_isSpeed : GoodIn wsX10_correct wsX10_isSpeed := goodIn_r _ [11, 6, 7, 4, 8] (by decide +kernel) (by decide +kernel)
set_option maxRecDepth 20000 in
theorem gX10_correct_X10_isSpeed : GoodIn wsX10_correct (va_wsS RX10 120 yX10_isSpeed wsX10_isSpeed) := goodIn_app (goodIn_of _ (by decide +kernel)) ggX10_correct_X10_isSpeed
set_option maxRecDepth 20000 in
theorem ggX10_correct_X10_keep : GoodIn wsX10_correct wsX10_keep := goodIn_r _ [15, 16, 17, 18, 1, 19, 66, 67, 68, 69, 70, 71, 72, 73, 74, 75, 76, 77, 78, 79, 80, 81] (by decide +kernel) (by decide +kernel)
set_option maxRecDepth 20000 in
theorem gX10_correct_X10_keep : GoodIn wsX10_correct (wsV RX10 105 RX10 yX10_keep wsX10_keep) := goodIn_app (goodIn_of _ (by decide +kernel)) ggX10_correct_X10_keep
set_option maxRecDepth 20000 in
theorem ggX10_correct_X10_rest : GoodIn wsX10_correct wsX10_rest := goodIn_r _ [23, 1, 24, 25, 26, 27, 4, 28, 29, 30, 31, 32, 33, 34, 35, 36, 37, 38, 39, 40, 41, 42, 43, 44, 45, 46, 47, 48, 49, 50, 51, 52, 53, 54, 55, 56, 57, 58, 59, 60, 61, 62, 63, 64, 65, 66, 67, 68, 69, 70, 71, 72, 73, 74, 75, 76, 77, 78, 79, 80, 81] (by decide +kernel) (by decide +kernel)
set_option maxRecDepth 20000 in
theorem gX10_correct_X10_rest : GoodIn wsX10_correct (wsV RX10 129 RX10 yX10_rest wsX10_rest) := goodIn_app (goodIn_of _ (by decide +kernel)) ggX10_correct_X10_rest
theorem dX10_correct_0 : decode cX10_correct 0 = .ok (.iload_n 1, 1) := by decide +kernel
theorem dX10_correct_1 : decode cX10_correct 1 = .ok (.invokestatic 113, 3) := by decide +kernel
theorem dX10_correct_4 : decode cX10_correct 4 = .ok (.ifCond .eq 10, 3) := by decide +kernel
theorem dX10_correct_7 : decode cX10_correct 7 = .ok (.iload_n 2, 1) := by decide +kernel
theorem dX10_correct_8 : decode cX10_correct 8 = .ok (.invokestatic 120, 3) := by decide +kernel
theorem dX10_correct_11 : decode cX10_correct 11 = .ok (.ifCond .ne 6, 3) := by decide +kernel
theorem dX10_correct_14 : decode cX10_correct 14 = .ok (.bipush (-2), 2) := by decide +kernel
theorem dX10_correct_16 : decode cX10_correct 16 = .ok (.ireturn, 1) := by decide +kernel
theorem dX10_correct_17 : decode cX10_correct 17 = .ok (.aload_n 0, 1) := by decide +kernel
theorem dX10_correct_18 : decode cX10_correct 18 = .ok (.invokevirtual 105, 3) := by decide +kernel
theorem dX10_correct_21 : decode cX10_correct 21 = .ok (.aload_n 0, 1) := by decide +kernel
theorem dX10_correct_22 : decode cX10_correct 22 = .ok (.invokevirtual 129, 3) := by decide +kernel
theorem dX10_correct_25 : decode cX10_correct 25 = .ok (.istore_n 3, 1) := by decide +kernel
theorem dX10_correct_26 : decode cX10_correct 26 = .ok (.aload_n 0, 1) := by decide +kernel
theorem dX10_correct_27 : decode cX10_correct 27 = .ok (.getfield 7, 3) := by decide +kernel
theorem dX10_correct_30 : decode cX10_correct 30 = .ok (.bipush 6, 2) := by decide +kernel
theorem dX10_correct_32 : decode cX10_correct 32 = .ok (.iload_n 1, 1) := by decide +kernel
theorem dX10_correct_33 : decode cX10_correct 33 = .ok (.iastore, 1) := by decide +kernel
theorem dX10_correct_34 : decode cX10_correct 34 = .ok (.aload_n 0, 1) := by decide +kernel
theorem dX10_correct_35 : decode cX10_correct 35 = .ok (.getfield 7, 3) := by decide +kernel
theorem dX10_correct_38 : decode cX10_correct 38 = .ok (.bipush 7, 2) := by decide +kernel
theorem dX10_correct_40 : decode cX10_correct 40 = .ok (.iload_n 2, 1) := by decide +kernel
theorem dX10_correct_41 : decode cX10_correct 41 = .ok (.iastore, 1) := by decide +kernel
theorem dX10_correct_42 : decode cX10_correct 42 = .ok (.aload_n 0, 1) := by decide +kernel
theorem dX10_correct_43 : decode cX10_correct 43 = .ok (.invokevirtual 129, 3) := by decide +kernel
theorem dX10_correct_46 : decode cX10_correct 46 = .ok (.iload_n 3, 1) := by decide +kernel
theorem dX10_correct_47 : decode cX10_correct 47 = .ok (.if_icmp .ne 7, 3) := by decide +kernel
theorem dX10_correct_50 : decode cX10_correct 50 = .ok (.iconst 0, 1) := by decide +kernel
theorem dX10_correct_51 : decode cX10_correct 51 = .ok (.goto 4, 3) := by decide +kernel
theorem dX10_correct_54 : decode cX10_correct 54 = .ok (.iconst 1, 1) := by decide +kernel
theorem dX10_correct_55 : decode cX10_correct 55 = .ok (.ireturn, 1) := by decide +kernel
set_option maxRecDepth 20000 in
theorem ggX10_forgetSwings_X10_keep : GoodIn wsX10_forgetSwings wsX10_keep := goodIn_r _ [6, 7, 8, 9, 1, 10, 11, 12, 13, 14, 15, 16, 17, 18, 19, 20, 21, 22, 23, 24, 25, 26] (by decide +kernel) (by decide +kernel)
set_option maxRecDepth 20000 in
theorem gX10_forgetSwings_X10_keep : GoodIn wsX10_forgetSwings (wsV RX10 105 RX10 yX10_keep wsX10_keep) := goodIn_app (goodIn_of _ (by decide +kernel)) ggX10_forgetSwings_X10_keep
theorem dX10_forgetSwings_0 : decode cX10_forgetSwings 0 = .ok (.aload_n 0, 1) := by decide +kernel
theorem dX10_forgetSwings_1 : decode cX10_forgetSwings 1 = .ok (.invokevirtual 105, 3) := by decide +kernel
theorem dX10_forgetSwings_4 : decode cX10_forgetSwings 4 = .ok (.aload_n 0, 1) := by decide +kernel
theorem dX10_forgetSwings_5 : decode cX10_forgetSwings 5 = .ok (.getfield 7, 3) := by decide +kernel
theorem dX10_forgetSwings_8 : decode cX10_forgetSwings 8 = .ok (.bipush 13, 2) := by decide +kernel
theorem dX10_forgetSwings_10 : decode cX10_forgetSwings 10 = .ok (.iaload, 1) := by decide +kernel
theorem dX10_forgetSwings_11 : decode cX10_forgetSwings 11 = .ok (.istore_n 1, 1) := by decide +kernel
theorem dX10_forgetSwings_12 : decode cX10_forgetSwings 12 = .ok (.aload_n 0, 1) := by decide +kernel
theorem dX10_forgetSwings_13 : decode cX10_forgetSwings 13 = .ok (.getfield 7, 3) := by decide +kernel
theorem dX10_forgetSwings_16 : decode cX10_forgetSwings 16 = .ok (.bipush 13, 2) := by decide +kernel
theorem dX10_forgetSwings_18 : decode cX10_forgetSwings 18 = .ok (.iconst 0, 1) := by decide +kernel
theorem dX10_forgetSwings_19 : decode cX10_forgetSwings 19 = .ok (.iastore, 1) := by decide +kernel
theorem dX10_forgetSwings_20 : decode cX10_forgetSwings 20 = .ok (.aload_n 0, 1) := by decide +kernel
theorem dX10_forgetSwings_21 : decode cX10_forgetSwings 21 = .ok (.getfield 7, 3) := by decide +kernel
theorem dX10_forgetSwings_24 : decode cX10_forgetSwings 24 = .ok (.bipush 12, 2) := by decide +kernel
theorem dX10_forgetSwings_26 : decode cX10_forgetSwings 26 = .ok (.iconst 0, 1) := by decide +kernel
theorem dX10_forgetSwings_27 : decode cX10_forgetSwings 27 = .ok (.iastore, 1) := by decide +kernel
theorem dX10_forgetSwings_28 : decode cX10_forgetSwings 28 = .ok (.iload_n 1, 1) := by decide +kernel
theorem dX10_forgetSwings_29 : decode cX10_forgetSwings 29 = .ok (.ireturn, 1) := by decide +kernel
theorem dX10_addCheck_0 : decode cX10_addCheck 0 = .ok (.aload_n 0, 1) := by decide +kernel
theorem dX10_addCheck_1 : decode cX10_addCheck 1 = .ok (.getfield 7, 3) := by decide +kernel
theorem dX10_addCheck_4 : decode cX10_addCheck 4 = .ok (.bipush 15, 2) := by decide +kernel
theorem dX10_addCheck_6 : decode cX10_addCheck 6 = .ok (.iaload, 1) := by decide +kernel
theorem dX10_addCheck_7 : decode cX10_addCheck 7 = .ok (.iconst 5, 1) := by decide +kernel
theorem dX10_addCheck_8 : decode cX10_addCheck 8 = .ok (.if_icmp .ge 13, 3) := by decide +kernel
theorem dX10_addCheck_11 : decode cX10_addCheck 11 = .ok (.aload_n 0, 1) := by decide +kernel
theorem dX10_addCheck_12 : decode cX10_addCheck 12 = .ok (.getfield 7, 3) := by decide +kernel
theorem dX10_addCheck_15 : decode cX10_addCheck 15 = .ok (.bipush 15, 2) := by decide +kernel
theorem dX10_addCheck_17 : decode cX10_addCheck 17 = .ok (.iaload, 1) := by decide +kernel
theorem dX10_addCheck_18 : decode cX10_addCheck 18 = .ok (.goto 4, 3) := by decide +kernel
theorem dX10_addCheck_21 : decode cX10_addCheck 21 = .ok (.iconst 4, 1) := by decide +kernel
theorem dX10_addCheck_22 : decode cX10_addCheck 22 = .ok (.istore_n 2, 1) := by decide +kernel
theorem dX10_addCheck_23 : decode cX10_addCheck 23 = .ok (.iload_n 2, 1) := by decide +kernel
theorem dX10_addCheck_24 : decode cX10_addCheck 24 = .ok (.istore_n 3, 1) := by decide +kernel
theorem dX10_addCheck_25 : decode cX10_addCheck 25 = .ok (.iload_n 3, 1) := by decide +kernel
theorem dX10_addCheck_26 : decode cX10_addCheck 26 = .ok (.ifCond .le 29, 3) := by decide +kernel
theorem dX10_addCheck_29 : decode cX10_addCheck 29 = .ok (.aload_n 0, 1) := by decide +kernel
theorem dX10_addCheck_30 : decode cX10_addCheck 30 = .ok (.getfield 7, 3) := by decide +kernel
theorem dX10_addCheck_33 : decode cX10_addCheck 33 = .ok (.bipush 74, 2) := by decide +kernel
theorem dX10_addCheck_35 : decode cX10_addCheck 35 = .ok (.iload_n 3, 1) := by decide +kernel
theorem dX10_addCheck_36 : decode cX10_addCheck 36 = .ok (.iadd, 1) := by decide +kernel
theorem dX10_addCheck_37 : decode cX10_addCheck 37 = .ok (.aload_n 0, 1) := by decide +kernel
theorem dX10_addCheck_38 : decode cX10_addCheck 38 = .ok (.getfield 7, 3) := by decide +kernel
theorem dX10_addCheck_41 : decode cX10_addCheck 41 = .ok (.bipush 74, 2) := by decide +kernel
theorem dX10_addCheck_43 : decode cX10_addCheck 43 = .ok (.iload_n 3, 1) := by decide +kernel
theorem dX10_addCheck_44 : decode cX10_addCheck 44 = .ok (.iadd, 1) := by decide +kernel
theorem dX10_addCheck_45 : decode cX10_addCheck 45 = .ok (.iconst 1, 1) := by decide +kernel
theorem dX10_addCheck_46 : decode cX10_addCheck 46 = .ok (.isub, 1) := by decide +kernel
theorem dX10_addCheck_47 : decode cX10_addCheck 47 = .ok (.iaload, 1) := by decide +kernel
theorem dX10_addCheck_48 : decode cX10_addCheck 48 = .ok (.iastore, 1) := by decide +kernel
theorem dX10_addCheck_49 : decode cX10_addCheck 49 = .ok (.iinc 3 (-1), 3) := by decide +kernel
theorem dX10_addCheck_52 : decode cX10_addCheck 52 = .ok (.goto (-27), 3) := by decide +kernel
theorem dX10_addCheck_55 : decode cX10_addCheck 55 = .ok (.aload_n 0, 1) := by decide +kernel
theorem dX10_addCheck_56 : decode cX10_addCheck 56 = .ok (.getfield 7, 3) := by decide +kernel
theorem dX10_addCheck_59 : decode cX10_addCheck 59 = .ok (.bipush 74, 2) := by decide +kernel
theorem dX10_addCheck_61 : decode cX10_addCheck 61 = .ok (.iload_n 1, 1) := by decide +kernel
theorem dX10_addCheck_62 : decode cX10_addCheck 62 = .ok (.iastore, 1) := by decide +kernel
theorem dX10_addCheck_63 : decode cX10_addCheck 63 = .ok (.aload_n 0, 1) := by decide +kernel
theorem dX10_addCheck_64 : decode cX10_addCheck 64 = .ok (.getfield 7, 3) := by decide +kernel
theorem dX10_addCheck_67 : decode cX10_addCheck 67 = .ok (.bipush 15, 2) := by decide +kernel
theorem dX10_addCheck_69 : decode cX10_addCheck 69 = .ok (.iload_n 2, 1) := by decide +kernel
theorem dX10_addCheck_70 : decode cX10_addCheck 70 = .ok (.iconst 1, 1) := by decide +kernel
theorem dX10_addCheck_71 : decode cX10_addCheck 71 = .ok (.iadd, 1) := by decide +kernel
theorem dX10_addCheck_72 : decode cX10_addCheck 72 = .ok (.iastore, 1) := by decide +kernel
theorem dX10_addCheck_73 : decode cX10_addCheck 73 = .ok (.return_, 1) := by decide +kernel
set_option maxRecDepth 20000 in
theorem ggX10_observe_X10_keep : GoodIn wsX10_observe wsX10_keep := goodIn_r _ [9, 10, 11, 12, 1, 13, 22, 23, 24, 25, 26, 27, 28, 29, 30, 31, 32, 33, 34, 35, 36, 37] (by decide +kernel) (by decide +kernel)
set_option maxRecDepth 20000 in
theorem gX10_observe_X10_keep : GoodIn wsX10_observe (wsV RX10 105 RX10 yX10_keep wsX10_keep) := goodIn_app (goodIn_of _ (by decide +kernel)) ggX10_observe_X10_keep
set_option maxRecDepth 20000 in
theorem ggX10_observe_X10_setting : GoodIn wsX10_observe wsX10_setting := goodIn_r _ [17, 1, 22, 23, 24, 25, 26, 27, 28, 29, 30, 31, 32, 33, 34, 35, 36, 37] (by decide +kernel) (by decide +kernel)
set_option maxRecDepth 20000 in
theorem gX10_observe_X10_setting : GoodIn wsX10_observe (wsV RX10 70 RX10 yX10_setting wsX10_setting) := goodIn_app (goodIn_of _ (by decide +kernel)) ggX10_observe_X10_setting
set_option maxRecDepth 20000 in
theorem ggX10_observe_X10_addCheck : GoodIn wsX10_observe wsX10_addCheck := goodIn_r _ [21, 1, 22, 23, 24, 25, 26, 27, 28, 29, 30, 31, 32, 33, 34, 35, 36, 37] (by decide +kernel) (by decide +kernel)
set_option maxRecDepth 20000 in
theorem gX10_observe_X10_addCheck : GoodIn wsX10_observe (wsV RX10 159 RX10 yX10_addCheck wsX10_addCheck) := goodIn_app (goodIn_of _ (by decide +kernel)) ggX10_observe_X10_addCheck
theorem dX10_observe_0 : decode cX10_observe 0 = .ok (.iload_n 1, 1) := by decide +kernel
theorem dX10_observe_1 : decode cX10_observe 1 = .ok (.ifCond .lt 14, 3) := by decide +kernel
theorem dX10_observe_4 : decode cX10_observe 4 = .ok (.iload_n 1, 1) := by decide +kernel
theorem dX10_observe_5 : decode cX10_observe 5 = .ok (.aload_n 0, 1) := by decide +kernel
theorem dX10_observe_6 : decode cX10_observe 6 = .ok (.getfield 7, 3) := by decide +kernel
theorem dX10_observe_9 : decode cX10_observe 9 = .ok (.bipush 19, 2) := by decide +kernel
theorem dX10_observe_11 : decode cX10_observe 11 = .ok (.iaload, 1) := by decide +kernel
theorem dX10_observe_12 : decode cX10_observe 12 = .ok (.if_icmp .lt 5, 3) := by decide +kernel
theorem dX10_observe_15 : decode cX10_observe 15 = .ok (.iconst (-1), 1) := by decide +kernel
theorem dX10_observe_16 : decode cX10_observe 16 = .ok (.ireturn, 1) := by decide +kernel
theorem dX10_observe_17 : decode cX10_observe 17 = .ok (.aload_n 0, 1) := by decide +kernel
theorem dX10_observe_18 : decode cX10_observe 18 = .ok (.invokevirtual 105, 3) := by decide +kernel
theorem dX10_observe_21 : decode cX10_observe 21 = .ok (.bipush 75, 2) := by decide +kernel
theorem dX10_observe_23 : decode cX10_observe 23 = .ok (.aload_n 0, 1) := by decide +kernel
theorem dX10_observe_24 : decode cX10_observe 24 = .ok (.bipush 7, 2) := by decide +kernel
theorem dX10_observe_26 : decode cX10_observe 26 = .ok (.invokevirtual 70, 3) := by decide +kernel
theorem dX10_observe_29 : decode cX10_observe 29 = .ok (.imul, 1) := by decide +kernel
theorem dX10_observe_30 : decode cX10_observe 30 = .ok (.bipush 74, 2) := by decide +kernel
theorem dX10_observe_32 : decode cX10_observe 32 = .ok (.iadd, 1) := by decide +kernel
theorem dX10_observe_33 : decode cX10_observe 33 = .ok (.ldc 157, 2) := by decide +kernel
theorem dX10_observe_35 : decode cX10_observe 35 = .ok (.irem, 1) := by decide +kernel
theorem dX10_observe_36 : decode cX10_observe 36 = .ok (.istore_n 2, 1) := by decide +kernel
theorem dX10_observe_37 : decode cX10_observe 37 = .ok (.aload_n 0, 1) := by decide +kernel
theorem dX10_observe_38 : decode cX10_observe 38 = .ok (.getfield 7, 3) := by decide +kernel
theorem dX10_observe_41 : decode cX10_observe 41 = .ok (.bipush 27, 2) := by decide +kernel
theorem dX10_observe_43 : decode cX10_observe 43 = .ok (.iload_n 2, 1) := by decide +kernel
theorem dX10_observe_44 : decode cX10_observe 44 = .ok (.ldc 158, 2) := by decide +kernel
theorem dX10_observe_46 : decode cX10_observe 46 = .ok (.if_icmp .ne 7, 3) := by decide +kernel
theorem dX10_observe_49 : decode cX10_observe 49 = .ok (.iconst 0, 1) := by decide +kernel
theorem dX10_observe_50 : decode cX10_observe 50 = .ok (.goto 4, 3) := by decide +kernel
theorem dX10_observe_53 : decode cX10_observe 53 = .ok (.iload_n 2, 1) := by decide +kernel
theorem dX10_observe_54 : decode cX10_observe 54 = .ok (.iastore, 1) := by decide +kernel
theorem dX10_observe_55 : decode cX10_observe 55 = .ok (.aload_n 0, 1) := by decide +kernel
theorem dX10_observe_56 : decode cX10_observe 56 = .ok (.getfield 7, 3) := by decide +kernel
theorem dX10_observe_59 : decode cX10_observe 59 = .ok (.iconst 4, 1) := by decide +kernel
theorem dX10_observe_60 : decode cX10_observe 60 = .ok (.iaload, 1) := by decide +kernel
theorem dX10_observe_61 : decode cX10_observe 61 = .ok (.bipush 100, 2) := by decide +kernel
theorem dX10_observe_63 : decode cX10_observe 63 = .ok (.idiv, 1) := by decide +kernel
theorem dX10_observe_64 : decode cX10_observe 64 = .ok (.aload_n 0, 1) := by decide +kernel
theorem dX10_observe_65 : decode cX10_observe 65 = .ok (.bipush 7, 2) := by decide +kernel
theorem dX10_observe_67 : decode cX10_observe 67 = .ok (.invokevirtual 70, 3) := by decide +kernel
theorem dX10_observe_70 : decode cX10_observe 70 = .ok (.iconst 2, 1) := by decide +kernel
theorem dX10_observe_71 : decode cX10_observe 71 = .ok (.aload_n 0, 1) := by decide +kernel
theorem dX10_observe_72 : decode cX10_observe 72 = .ok (.bipush 6, 2) := by decide +kernel
theorem dX10_observe_74 : decode cX10_observe 74 = .ok (.invokevirtual 70, 3) := by decide +kernel
theorem dX10_observe_77 : decode cX10_observe 77 = .ok (.imul, 1) := by decide +kernel
theorem dX10_observe_78 : decode cX10_observe 78 = .ok (.iconst 1, 1) := by decide +kernel
theorem dX10_observe_79 : decode cX10_observe 79 = .ok (.iadd, 1) := by decide +kernel
theorem dX10_observe_80 : decode cX10_observe 80 = .ok (.irem, 1) := by decide +kernel
theorem dX10_observe_81 : decode cX10_observe 81 = .ok (.iadd, 1) := by decide +kernel
theorem dX10_observe_82 : decode cX10_observe 82 = .ok (.aload_n 0, 1) := by decide +kernel
theorem dX10_observe_83 : decode cX10_observe 83 = .ok (.bipush 6, 2) := by decide +kernel
theorem dX10_observe_85 : decode cX10_observe 85 = .ok (.invokevirtual 70, 3) := by decide +kernel
theorem dX10_observe_88 : decode cX10_observe 88 = .ok (.isub, 1) := by decide +kernel
theorem dX10_observe_89 : decode cX10_observe 89 = .ok (.istore_n 3, 1) := by decide +kernel
theorem dX10_observe_90 : decode cX10_observe 90 = .ok (.aload_n 0, 1) := by decide +kernel
theorem dX10_observe_91 : decode cX10_observe 91 = .ok (.iload_n 3, 1) := by decide +kernel
theorem dX10_observe_92 : decode cX10_observe 92 = .ok (.invokevirtual 159, 3) := by decide +kernel
theorem dX10_observe_95 : decode cX10_observe 95 = .ok (.aload_n 0, 1) := by decide +kernel
theorem dX10_observe_96 : decode cX10_observe 96 = .ok (.getfield 7, 3) := by decide +kernel
theorem dX10_observe_99 : decode cX10_observe 99 = .ok (.bipush 16, 2) := by decide +kernel
theorem dX10_observe_101 : decode cX10_observe 101 = .ok (.dup2, 1) := by decide +kernel
theorem dX10_observe_102 : decode cX10_observe 102 = .ok (.iaload, 1) := by decide +kernel
theorem dX10_observe_103 : decode cX10_observe 103 = .ok (.iconst 1, 1) := by decide +kernel
theorem dX10_observe_104 : decode cX10_observe 104 = .ok (.iadd, 1) := by decide +kernel
theorem dX10_observe_105 : decode cX10_observe 105 = .ok (.iastore, 1) := by decide +kernel
theorem dX10_observe_106 : decode cX10_observe 106 = .ok (.aload_n 0, 1) := by decide +kernel
theorem dX10_observe_107 : decode cX10_observe 107 = .ok (.getfield 7, 3) := by decide +kernel
theorem dX10_observe_110 : decode cX10_observe 110 = .ok (.bipush 79, 2) := by decide +kernel
theorem dX10_observe_112 : decode cX10_observe 112 = .ok (.iload_n 1, 1) := by decide +kernel
theorem dX10_observe_113 : decode cX10_observe 113 = .ok (.iadd, 1) := by decide +kernel
theorem dX10_observe_114 : decode cX10_observe 114 = .ok (.iaload, 1) := by decide +kernel
theorem dX10_observe_115 : decode cX10_observe 115 = .ok (.iload_n 3, 1) := by decide +kernel
theorem dX10_observe_116 : decode cX10_observe 116 = .ok (.iadd, 1) := by decide +kernel
theorem dX10_observe_117 : decode cX10_observe 117 = .ok (.ldc 57, 2) := by decide +kernel
theorem dX10_observe_119 : decode cX10_observe 119 = .ok (.irem, 1) := by decide +kernel
theorem dX10_observe_120 : decode cX10_observe 120 = .ok (.ldc 57, 2) := by decide +kernel
theorem dX10_observe_122 : decode cX10_observe 122 = .ok (.iadd, 1) := by decide +kernel
theorem dX10_observe_123 : decode cX10_observe 123 = .ok (.ldc 57, 2) := by decide +kernel
theorem dX10_observe_125 : decode cX10_observe 125 = .ok (.irem, 1) := by decide +kernel
theorem dX10_observe_126 : decode cX10_observe 126 = .ok (.ireturn, 1) := by decide +kernel
set_option maxRecDepth 20000 in
theorem ggX10_guess_X10_in : GoodIn wsX10_guess wsX10_in := goodIn_r _ [7] (by decide +kernel) (by decide +kernel)
set_option maxRecDepth 20000 in
theorem gX10_guess_X10_in : GoodIn wsX10_guess (va_wsS RX10 94 yX10_in wsX10_in) := goodIn_app (goodIn_of _ (by decide +kernel)) ggX10_guess_X10_in
set_option maxRecDepth 20000 in
theorem ggX10_guess_X10_keep : GoodIn wsX10_guess wsX10_keep := goodIn_r _ [11, 12, 13, 14, 3, 15, 62, 63, 64, 65, 66, 67, 68, 69, 70, 71, 72, 73, 74, 75, 76, 77] (by decide +kernel) (by decide +kernel)
set_option maxRecDepth 20000 in
theorem gX10_guess_X10_keep : GoodIn wsX10_guess (wsV RX10 105 RX10 yX10_keep wsX10_keep) := goodIn_app (goodIn_of _ (by decide +kernel)) ggX10_guess_X10_keep
set_option maxRecDepth 20000 in
theorem ggX10_guess_X10_rest : GoodIn wsX10_guess wsX10_rest := goodIn_r _ [19, 3, 20, 21, 22, 23, 6, 24, 25, 26, 27, 28, 29, 30, 31, 32, 33, 34, 35, 36, 37, 38, 39, 40, 41, 42, 43, 44, 45, 46, 47, 48, 49, 50, 51, 52, 53, 54, 55, 56, 57, 58, 59, 60, 61, 62, 63, 64, 65, 66, 67, 68, 69, 70, 71, 72, 73, 74, 75, 76, 77] (by decide +kernel) (by decide +kernel)
set_option maxRecDepth 20000 in
theorem gX10_guess_X10_rest : GoodIn wsX10_guess (wsV RX10 129 RX10 yX10_rest wsX10_rest) := goodIn_app (goodIn_of _ (by decide +kernel)) ggX10_guess_X10_rest
set_option maxRecDepth 20000 in
theorem ggX10_guess_X10_sizeOf : GoodIn wsX10_guess wsX10_sizeOf := goodIn_r _ [46] (by decide +kernel) (by decide +kernel)
set_option maxRecDepth 20000 in
theorem gX10_guess_X10_sizeOf : GoodIn wsX10_guess (va_wsS RX10 61 yX10_sizeOf wsX10_sizeOf) := goodIn_app (goodIn_of _ (by decide +kernel)) ggX10_guess_X10_sizeOf
theorem dX10_guess_0 : decode cX10_guess 0 = .ok (.iload_n 1, 1) := by decide +kernel
theorem dX10_guess_1 : decode cX10_guess 1 = .ok (.ldc 162, 2) := by decide +kernel
theorem dX10_guess_3 : decode cX10_guess 3 = .ok (.ldc 140, 2) := by decide +kernel
theorem dX10_guess_5 : decode cX10_guess 5 = .ok (.invokestatic 94, 3) := by decide +kernel
theorem dX10_guess_8 : decode cX10_guess 8 = .ok (.ifCond .ne 6, 3) := by decide +kernel
theorem dX10_guess_11 : decode cX10_guess 11 = .ok (.bipush (-2), 2) := by decide +kernel
theorem dX10_guess_13 : decode cX10_guess 13 = .ok (.ireturn, 1) := by decide +kernel
theorem dX10_guess_14 : decode cX10_guess 14 = .ok (.aload_n 0, 1) := by decide +kernel
theorem dX10_guess_15 : decode cX10_guess 15 = .ok (.invokevirtual 105, 3) := by decide +kernel
theorem dX10_guess_18 : decode cX10_guess 18 = .ok (.iload_n 1, 1) := by decide +kernel
theorem dX10_guess_19 : decode cX10_guess 19 = .ok (.aload_n 0, 1) := by decide +kernel
theorem dX10_guess_20 : decode cX10_guess 20 = .ok (.invokevirtual 129, 3) := by decide +kernel
theorem dX10_guess_23 : decode cX10_guess 23 = .ok (.isub, 1) := by decide +kernel
theorem dX10_guess_24 : decode cX10_guess 24 = .ok (.invokestatic 61, 3) := by decide +kernel
theorem dX10_guess_27 : decode cX10_guess 27 = .ok (.istore_n 2, 1) := by decide +kernel
theorem dX10_guess_28 : decode cX10_guess 28 = .ok (.aload_n 0, 1) := by decide +kernel
theorem dX10_guess_29 : decode cX10_guess 29 = .ok (.getfield 7, 3) := by decide +kernel
theorem dX10_guess_32 : decode cX10_guess 32 = .ok (.bipush 18, 2) := by decide +kernel
theorem dX10_guess_34 : decode cX10_guess 34 = .ok (.dup2, 1) := by decide +kernel
theorem dX10_guess_35 : decode cX10_guess 35 = .ok (.iaload, 1) := by decide +kernel
theorem dX10_guess_36 : decode cX10_guess 36 = .ok (.iload_n 2, 1) := by decide +kernel
theorem dX10_guess_37 : decode cX10_guess 37 = .ok (.iadd, 1) := by decide +kernel
theorem dX10_guess_38 : decode cX10_guess 38 = .ok (.iastore, 1) := by decide +kernel
theorem dX10_guess_39 : decode cX10_guess 39 = .ok (.aload_n 0, 1) := by decide +kernel
theorem dX10_guess_40 : decode cX10_guess 40 = .ok (.getfield 7, 3) := by decide +kernel
theorem dX10_guess_43 : decode cX10_guess 43 = .ok (.bipush 17, 2) := by decide +kernel
theorem dX10_guess_45 : decode cX10_guess 45 = .ok (.dup2, 1) := by decide +kernel
theorem dX10_guess_46 : decode cX10_guess 46 = .ok (.iaload, 1) := by decide +kernel
theorem dX10_guess_47 : decode cX10_guess 47 = .ok (.iconst 1, 1) := by decide +kernel
theorem dX10_guess_48 : decode cX10_guess 48 = .ok (.iadd, 1) := by decide +kernel
theorem dX10_guess_49 : decode cX10_guess 49 = .ok (.iastore, 1) := by decide +kernel
theorem dX10_guess_50 : decode cX10_guess 50 = .ok (.iload_n 2, 1) := by decide +kernel
theorem dX10_guess_51 : decode cX10_guess 51 = .ok (.ireturn, 1) := by decide +kernel
theorem dX10_turnError_0 : decode cX10_turnError 0 = .ok (.aload_n 0, 1) := by decide +kernel
theorem dX10_turnError_1 : decode cX10_turnError 1 = .ok (.getfield 7, 3) := by decide +kernel
theorem dX10_turnError_4 : decode cX10_turnError 4 = .ok (.bipush 58, 2) := by decide +kernel
theorem dX10_turnError_6 : decode cX10_turnError 6 = .ok (.iconst 2, 1) := by decide +kernel
theorem dX10_turnError_7 : decode cX10_turnError 7 = .ok (.iload_n 1, 1) := by decide +kernel
theorem dX10_turnError_8 : decode cX10_turnError 8 = .ok (.imul, 1) := by decide +kernel
theorem dX10_turnError_9 : decode cX10_turnError 9 = .ok (.iadd, 1) := by decide +kernel
theorem dX10_turnError_10 : decode cX10_turnError 10 = .ok (.iaload, 1) := by decide +kernel
theorem dX10_turnError_11 : decode cX10_turnError 11 = .ok (.ireturn, 1) := by decide +kernel
set_option maxRecDepth 20000 in
theorem ggX10_settled_X10_turnError : GoodIn wsX10_settled wsX10_turnError := goodIn_r _ [5, 6, 7, 8, 9, 10, 11, 12, 13, 14, 15, 16, 17, 18, 19, 20, 21, 22] (by decide +kernel) (by decide +kernel)
set_option maxRecDepth 20000 in
theorem gX10_settled_X10_turnError : GoodIn wsX10_settled (wsV RX10 163 RX10 yX10_turnError wsX10_turnError) := goodIn_app (goodIn_of _ (by decide +kernel)) ggX10_settled_X10_turnError
theorem dX10_settled_0 : decode cX10_settled 0 = .ok (.aload_n 0, 1) := by decide +kernel
theorem dX10_settled_1 : decode cX10_settled 1 = .ok (.iconst 2, 1) := by decide +kernel
theorem dX10_settled_2 : decode cX10_settled 2 = .ok (.invokevirtual 163, 3) := by decide +kernel
theorem dX10_settled_5 : decode cX10_settled 5 = .ok (.iconst 2, 1) := by decide +kernel
theorem dX10_settled_6 : decode cX10_settled 6 = .ok (.aload_n 0, 1) := by decide +kernel
theorem dX10_settled_7 : decode cX10_settled 7 = .ok (.iconst 1, 1) := by decide +kernel
theorem dX10_settled_8 : decode cX10_settled 8 = .ok (.invokevirtual 163, 3) := by decide +kernel
theorem dX10_settled_11 : decode cX10_settled 11 = .ok (.imul, 1) := by decide +kernel
theorem dX10_settled_12 : decode cX10_settled 12 = .ok (.iadd, 1) := by decide +kernel
theorem dX10_settled_13 : decode cX10_settled 13 = .ok (.aload_n 0, 1) := by decide +kernel
theorem dX10_settled_14 : decode cX10_settled 14 = .ok (.iconst 0, 1) := by decide +kernel
theorem dX10_settled_15 : decode cX10_settled 15 = .ok (.invokevirtual 163, 3) := by decide +kernel
theorem dX10_settled_18 : decode cX10_settled 18 = .ok (.iadd, 1) := by decide +kernel
theorem dX10_settled_19 : decode cX10_settled 19 = .ok (.iconst 4, 1) := by decide +kernel
theorem dX10_settled_20 : decode cX10_settled 20 = .ok (.idiv, 1) := by decide +kernel
theorem dX10_settled_21 : decode cX10_settled 21 = .ok (.ireturn, 1) := by decide +kernel
theorem dX10_settledByMean_0 : decode cX10_settledByMean 0 = .ok (.aload_n 0, 1) := by decide +kernel
theorem dX10_settledByMean_1 : decode cX10_settledByMean 1 = .ok (.getfield 13, 3) := by decide +kernel
theorem dX10_settledByMean_4 : decode cX10_settledByMean 4 = .ok (.iconst 1, 1) := by decide +kernel
theorem dX10_settledByMean_5 : decode cX10_settledByMean 5 = .ok (.laload, 1) := by decide +kernel
theorem dX10_settledByMean_6 : decode cX10_settledByMean 6 = .ok (.aload_n 0, 1) := by decide +kernel
theorem dX10_settledByMean_7 : decode cX10_settledByMean 7 = .ok (.getfield 13, 3) := by decide +kernel
theorem dX10_settledByMean_10 : decode cX10_settledByMean 10 = .ok (.iconst 3, 1) := by decide +kernel
theorem dX10_settledByMean_11 : decode cX10_settledByMean 11 = .ok (.laload, 1) := by decide +kernel
theorem dX10_settledByMean_12 : decode cX10_settledByMean 12 = .ok (.lsub, 1) := by decide +kernel
theorem dX10_settledByMean_13 : decode cX10_settledByMean 13 = .ok (.aload_n 0, 1) := by decide +kernel
theorem dX10_settledByMean_14 : decode cX10_settledByMean 14 = .ok (.getfield 7, 3) := by decide +kernel
theorem dX10_settledByMean_17 : decode cX10_settledByMean 17 = .ok (.bipush 59, 2) := by decide +kernel
theorem dX10_settledByMean_19 : decode cX10_settledByMean 19 = .ok (.iaload, 1) := by decide +kernel
theorem dX10_settledByMean_20 : decode cX10_settledByMean 20 = .ok (.aload_n 0, 1) := by decide +kernel
theorem dX10_settledByMean_21 : decode cX10_settledByMean 21 = .ok (.getfield 7, 3) := by decide +kernel
theorem dX10_settledByMean_24 : decode cX10_settledByMean 24 = .ok (.bipush 63, 2) := by decide +kernel
theorem dX10_settledByMean_26 : decode cX10_settledByMean 26 = .ok (.iaload, 1) := by decide +kernel
theorem dX10_settledByMean_27 : decode cX10_settledByMean 27 = .ok (.isub, 1) := by decide +kernel
theorem dX10_settledByMean_28 : decode cX10_settledByMean 28 = .ok (.i2l, 1) := by decide +kernel
theorem dX10_settledByMean_29 : decode cX10_settledByMean 29 = .ok (.ldiv, 1) := by decide +kernel
theorem dX10_settledByMean_30 : decode cX10_settledByMean 30 = .ok (.l2i, 1) := by decide +kernel
theorem dX10_settledByMean_31 : decode cX10_settledByMean 31 = .ok (.ireturn, 1) := by decide +kernel
theorem dX10_checksSum_0 : decode cX10_checksSum 0 = .ok (.iconst 0, 1) := by decide +kernel
theorem dX10_checksSum_1 : decode cX10_checksSum 1 = .ok (.istore_n 2, 1) := by decide +kernel
theorem dX10_checksSum_2 : decode cX10_checksSum 2 = .ok (.iconst 0, 1) := by decide +kernel
theorem dX10_checksSum_3 : decode cX10_checksSum 3 = .ok (.istore_n 3, 1) := by decide +kernel
theorem dX10_checksSum_4 : decode cX10_checksSum 4 = .ok (.iload_n 3, 1) := by decide +kernel
theorem dX10_checksSum_5 : decode cX10_checksSum 5 = .ok (.iload_n 1, 1) := by decide +kernel
theorem dX10_checksSum_6 : decode cX10_checksSum 6 = .ok (.if_icmp .ge 21, 3) := by decide +kernel
theorem dX10_checksSum_9 : decode cX10_checksSum 9 = .ok (.iload_n 2, 1) := by decide +kernel
theorem dX10_checksSum_10 : decode cX10_checksSum 10 = .ok (.aload_n 0, 1) := by decide +kernel
theorem dX10_checksSum_11 : decode cX10_checksSum 11 = .ok (.getfield 7, 3) := by decide +kernel
theorem dX10_checksSum_14 : decode cX10_checksSum 14 = .ok (.bipush 74, 2) := by decide +kernel
theorem dX10_checksSum_16 : decode cX10_checksSum 16 = .ok (.iload_n 3, 1) := by decide +kernel
theorem dX10_checksSum_17 : decode cX10_checksSum 17 = .ok (.iadd, 1) := by decide +kernel
theorem dX10_checksSum_18 : decode cX10_checksSum 18 = .ok (.iaload, 1) := by decide +kernel
theorem dX10_checksSum_19 : decode cX10_checksSum 19 = .ok (.iadd, 1) := by decide +kernel
theorem dX10_checksSum_20 : decode cX10_checksSum 20 = .ok (.istore_n 2, 1) := by decide +kernel
theorem dX10_checksSum_21 : decode cX10_checksSum 21 = .ok (.iinc 3 1, 3) := by decide +kernel
theorem dX10_checksSum_24 : decode cX10_checksSum 24 = .ok (.goto (-20), 3) := by decide +kernel
theorem dX10_checksSum_27 : decode cX10_checksSum 27 = .ok (.iload_n 2, 1) := by decide +kernel
theorem dX10_checksSum_28 : decode cX10_checksSum 28 = .ok (.ireturn, 1) := by decide +kernel
set_option maxRecDepth 20000 in
theorem ggX10_compass_X10_rest : GoodIn wsX10_compass wsX10_rest := goodIn_r _ [8, 1, 9, 10, 11, 12, 7, 13, 14, 15, 16, 17, 18, 19, 20, 21, 22, 23, 24, 25, 26, 27, 28, 29, 30, 31, 32, 33, 34, 35, 36, 37, 38, 39, 40, 41, 42, 43, 44, 45, 46, 47, 48, 49, 50, 68, 69, 70, 71, 72, 73, 74, 75, 76, 77, 78, 79, 80, 81, 82, 83] (by decide +kernel) (by decide +kernel)
set_option maxRecDepth 20000 in
theorem gX10_compass_X10_rest : GoodIn wsX10_compass (wsV RX10 129 RX10 yX10_rest wsX10_rest) := goodIn_app (goodIn_of _ (by decide +kernel)) ggX10_compass_X10_rest
set_option maxRecDepth 20000 in
theorem ggX10_compass_X10_settled : GoodIn wsX10_compass wsX10_settled := goodIn_r _ [54, 55, 56, 57, 7, 58, 1, 68, 69, 70, 71, 72, 73, 74, 75, 76, 77, 78, 79, 80, 81, 82, 83] (by decide +kernel) (by decide +kernel)
set_option maxRecDepth 20000 in
theorem gX10_compass_X10_settled : GoodIn wsX10_compass (wsV RX10 167 RX10 yX10_settled wsX10_settled) := goodIn_app (goodIn_of _ (by decide +kernel)) ggX10_compass_X10_settled
set_option maxRecDepth 20000 in
theorem ggX10_compass_X10_settledByMean : GoodIn wsX10_compass wsX10_settledByMean := goodIn_r _ [62, 63, 1, 68, 69, 70, 71, 72, 73, 74, 75, 76, 77, 78, 79, 80, 81, 82, 83] (by decide +kernel) (by decide +kernel)
set_option maxRecDepth 20000 in
theorem gX10_compass_X10_settledByMean : GoodIn wsX10_compass (wsV RX10 170 RX10 yX10_settledByMean wsX10_settledByMean) := goodIn_app (goodIn_of _ (by decide +kernel)) ggX10_compass_X10_settledByMean
set_option maxRecDepth 20000 in
theorem ggX10_compass_X10_turnError : GoodIn wsX10_compass wsX10_turnError := goodIn_r _ [58, 1, 68, 69, 70, 71, 72, 73, 74, 75, 76, 77, 78, 79, 80, 81, 82, 83] (by decide +kernel) (by decide +kernel)
set_option maxRecDepth 20000 in
theorem gX10_compass_X10_turnError : GoodIn wsX10_compass (wsV RX10 163 RX10 yX10_turnError wsX10_turnError) := goodIn_app (goodIn_of _ (by decide +kernel)) ggX10_compass_X10_turnError
set_option maxRecDepth 20000 in
theorem ggX10_compass_X10_checksSum : GoodIn wsX10_compass wsX10_checksSum := goodIn_r _ [67, 1, 68, 69, 70, 71, 72, 73, 74, 75, 76, 77, 78, 79, 80, 81, 82, 83] (by decide +kernel) (by decide +kernel)
set_option maxRecDepth 20000 in
theorem gX10_compass_X10_checksSum : GoodIn wsX10_compass (wsV RX10 173 RX10 yX10_checksSum wsX10_checksSum) := goodIn_app (goodIn_of _ (by decide +kernel)) ggX10_compass_X10_checksSum
theorem dX10_compass_0 : decode cX10_compass 0 = .ok (.iload_n 1, 1) := by decide +kernel
theorem dX10_compass_1 : decode cX10_compass 1 = .ok (.tableswitch 191 0 10 #[59, 66, 73, 78, 86, 107, 128, 156, 168, 175, 183], 59) := by decide +kernel
theorem dX10_compass_60 : decode cX10_compass 60 = .ok (.aload_n 0, 1) := by decide +kernel
theorem dX10_compass_61 : decode cX10_compass 61 = .ok (.getfield 7, 3) := by decide +kernel
theorem dX10_compass_64 : decode cX10_compass 64 = .ok (.iconst 4, 1) := by decide +kernel
theorem dX10_compass_65 : decode cX10_compass 65 = .ok (.iaload, 1) := by decide +kernel
theorem dX10_compass_66 : decode cX10_compass 66 = .ok (.ireturn, 1) := by decide +kernel
theorem dX10_compass_67 : decode cX10_compass 67 = .ok (.aload_n 0, 1) := by decide +kernel
theorem dX10_compass_68 : decode cX10_compass 68 = .ok (.getfield 7, 3) := by decide +kernel
theorem dX10_compass_71 : decode cX10_compass 71 = .ok (.iconst 5, 1) := by decide +kernel
theorem dX10_compass_72 : decode cX10_compass 72 = .ok (.iaload, 1) := by decide +kernel
theorem dX10_compass_73 : decode cX10_compass 73 = .ok (.ireturn, 1) := by decide +kernel
theorem dX10_compass_74 : decode cX10_compass 74 = .ok (.aload_n 0, 1) := by decide +kernel
theorem dX10_compass_75 : decode cX10_compass 75 = .ok (.invokevirtual 129, 3) := by decide +kernel
theorem dX10_compass_78 : decode cX10_compass 78 = .ok (.ireturn, 1) := by decide +kernel
theorem dX10_compass_79 : decode cX10_compass 79 = .ok (.aload_n 0, 1) := by decide +kernel
theorem dX10_compass_80 : decode cX10_compass 80 = .ok (.getfield 7, 3) := by decide +kernel
theorem dX10_compass_83 : decode cX10_compass 83 = .ok (.bipush 12, 2) := by decide +kernel
theorem dX10_compass_85 : decode cX10_compass 85 = .ok (.iaload, 1) := by decide +kernel
theorem dX10_compass_86 : decode cX10_compass 86 = .ok (.ireturn, 1) := by decide +kernel
theorem dX10_compass_87 : decode cX10_compass 87 = .ok (.aload_n 0, 1) := by decide +kernel
theorem dX10_compass_88 : decode cX10_compass 88 = .ok (.getfield 7, 3) := by decide +kernel
theorem dX10_compass_91 : decode cX10_compass 91 = .ok (.bipush 13, 2) := by decide +kernel
theorem dX10_compass_93 : decode cX10_compass 93 = .ok (.iaload, 1) := by decide +kernel
theorem dX10_compass_94 : decode cX10_compass 94 = .ok (.iconst 3, 1) := by decide +kernel
theorem dX10_compass_95 : decode cX10_compass 95 = .ok (.if_icmp .ge 8, 3) := by decide +kernel
theorem dX10_compass_98 : decode cX10_compass 98 = .ok (.ldc 166, 2) := by decide +kernel
theorem dX10_compass_100 : decode cX10_compass 100 = .ok (.goto 7, 3) := by decide +kernel
theorem dX10_compass_103 : decode cX10_compass 103 = .ok (.aload_n 0, 1) := by decide +kernel
theorem dX10_compass_104 : decode cX10_compass 104 = .ok (.invokevirtual 167, 3) := by decide +kernel
theorem dX10_compass_107 : decode cX10_compass 107 = .ok (.ireturn, 1) := by decide +kernel
theorem dX10_compass_108 : decode cX10_compass 108 = .ok (.aload_n 0, 1) := by decide +kernel
theorem dX10_compass_109 : decode cX10_compass 109 = .ok (.getfield 7, 3) := by decide +kernel
theorem dX10_compass_112 : decode cX10_compass 112 = .ok (.bipush 13, 2) := by decide +kernel
theorem dX10_compass_114 : decode cX10_compass 114 = .ok (.iaload, 1) := by decide +kernel
theorem dX10_compass_115 : decode cX10_compass 115 = .ok (.iconst 3, 1) := by decide +kernel
theorem dX10_compass_116 : decode cX10_compass 116 = .ok (.if_icmp .ge 8, 3) := by decide +kernel
theorem dX10_compass_119 : decode cX10_compass 119 = .ok (.ldc 166, 2) := by decide +kernel
theorem dX10_compass_121 : decode cX10_compass 121 = .ok (.goto 7, 3) := by decide +kernel
theorem dX10_compass_124 : decode cX10_compass 124 = .ok (.aload_n 0, 1) := by decide +kernel
theorem dX10_compass_125 : decode cX10_compass 125 = .ok (.invokevirtual 170, 3) := by decide +kernel
theorem dX10_compass_128 : decode cX10_compass 128 = .ok (.ireturn, 1) := by decide +kernel
theorem dX10_compass_129 : decode cX10_compass 129 = .ok (.aload_n 0, 1) := by decide +kernel
theorem dX10_compass_130 : decode cX10_compass 130 = .ok (.getfield 7, 3) := by decide +kernel
theorem dX10_compass_133 : decode cX10_compass 133 = .ok (.bipush 13, 2) := by decide +kernel
theorem dX10_compass_135 : decode cX10_compass 135 = .ok (.iaload, 1) := by decide +kernel
theorem dX10_compass_136 : decode cX10_compass 136 = .ok (.iconst 2, 1) := by decide +kernel
theorem dX10_compass_137 : decode cX10_compass 137 = .ok (.if_icmp .ge 8, 3) := by decide +kernel
theorem dX10_compass_140 : decode cX10_compass 140 = .ok (.ldc 166, 2) := by decide +kernel
theorem dX10_compass_142 : decode cX10_compass 142 = .ok (.goto 14, 3) := by decide +kernel
theorem dX10_compass_145 : decode cX10_compass 145 = .ok (.aload_n 0, 1) := by decide +kernel
theorem dX10_compass_146 : decode cX10_compass 146 = .ok (.iconst 0, 1) := by decide +kernel
theorem dX10_compass_147 : decode cX10_compass 147 = .ok (.invokevirtual 163, 3) := by decide +kernel
theorem dX10_compass_150 : decode cX10_compass 150 = .ok (.aload_n 0, 1) := by decide +kernel
theorem dX10_compass_151 : decode cX10_compass 151 = .ok (.iconst 1, 1) := by decide +kernel
theorem dX10_compass_152 : decode cX10_compass 152 = .ok (.invokevirtual 163, 3) := by decide +kernel
theorem dX10_compass_155 : decode cX10_compass 155 = .ok (.isub, 1) := by decide +kernel
theorem dX10_compass_156 : decode cX10_compass 156 = .ok (.ireturn, 1) := by decide +kernel
theorem dX10_compass_157 : decode cX10_compass 157 = .ok (.aload_n 0, 1) := by decide +kernel
theorem dX10_compass_158 : decode cX10_compass 158 = .ok (.aload_n 0, 1) := by decide +kernel
theorem dX10_compass_159 : decode cX10_compass 159 = .ok (.getfield 7, 3) := by decide +kernel
theorem dX10_compass_162 : decode cX10_compass 162 = .ok (.bipush 15, 2) := by decide +kernel
theorem dX10_compass_164 : decode cX10_compass 164 = .ok (.iaload, 1) := by decide +kernel
theorem dX10_compass_165 : decode cX10_compass 165 = .ok (.invokevirtual 173, 3) := by decide +kernel
theorem dX10_compass_168 : decode cX10_compass 168 = .ok (.ireturn, 1) := by decide +kernel
theorem dX10_compass_169 : decode cX10_compass 169 = .ok (.aload_n 0, 1) := by decide +kernel
theorem dX10_compass_170 : decode cX10_compass 170 = .ok (.getfield 7, 3) := by decide +kernel
theorem dX10_compass_173 : decode cX10_compass 173 = .ok (.iconst 0, 1) := by decide +kernel
theorem dX10_compass_174 : decode cX10_compass 174 = .ok (.iaload, 1) := by decide +kernel
theorem dX10_compass_175 : decode cX10_compass 175 = .ok (.ireturn, 1) := by decide +kernel
theorem dX10_compass_176 : decode cX10_compass 176 = .ok (.aload_n 0, 1) := by decide +kernel
theorem dX10_compass_177 : decode cX10_compass 177 = .ok (.getfield 7, 3) := by decide +kernel
theorem dX10_compass_180 : decode cX10_compass 180 = .ok (.bipush 6, 2) := by decide +kernel
theorem dX10_compass_182 : decode cX10_compass 182 = .ok (.iaload, 1) := by decide +kernel
theorem dX10_compass_183 : decode cX10_compass 183 = .ok (.ireturn, 1) := by decide +kernel
theorem dX10_compass_184 : decode cX10_compass 184 = .ok (.aload_n 0, 1) := by decide +kernel
theorem dX10_compass_185 : decode cX10_compass 185 = .ok (.getfield 7, 3) := by decide +kernel
theorem dX10_compass_188 : decode cX10_compass 188 = .ok (.bipush 18, 2) := by decide +kernel
theorem dX10_compass_190 : decode cX10_compass 190 = .ok (.iaload, 1) := by decide +kernel
theorem dX10_compass_191 : decode cX10_compass 191 = .ok (.ireturn, 1) := by decide +kernel
theorem dX10_compass_192 : decode cX10_compass 192 = .ok (.ldc 111, 2) := by decide +kernel
theorem dX10_compass_194 : decode cX10_compass 194 = .ok (.ireturn, 1) := by decide +kernel
set_option maxRecDepth 20000 in
theorem ggX10_turn_X10_in : GoodIn wsX10_turn wsX10_in := goodIn_r _ [7] (by decide +kernel) (by decide +kernel)
set_option maxRecDepth 20000 in
theorem gX10_turn_X10_in : GoodIn wsX10_turn (va_wsS RX10 94 yX10_in wsX10_in) := goodIn_app (goodIn_of _ (by decide +kernel)) ggX10_turn_X10_in
theorem dX10_turn_0 : decode cX10_turn 0 = .ok (.iload_n 1, 1) := by decide +kernel
theorem dX10_turn_1 : decode cX10_turn 1 = .ok (.ifCond .lt 14, 3) := by decide +kernel
theorem dX10_turn_4 : decode cX10_turn 4 = .ok (.iload_n 1, 1) := by decide +kernel
theorem dX10_turn_5 : decode cX10_turn 5 = .ok (.aload_n 0, 1) := by decide +kernel
theorem dX10_turn_6 : decode cX10_turn 6 = .ok (.getfield 7, 3) := by decide +kernel
theorem dX10_turn_9 : decode cX10_turn 9 = .ok (.bipush 13, 2) := by decide +kernel
theorem dX10_turn_11 : decode cX10_turn 11 = .ok (.iaload, 1) := by decide +kernel
theorem dX10_turn_12 : decode cX10_turn 12 = .ok (.if_icmp .lt 6, 3) := by decide +kernel
theorem dX10_turn_15 : decode cX10_turn 15 = .ok (.ldc 176, 2) := by decide +kernel
theorem dX10_turn_17 : decode cX10_turn 17 = .ok (.ireturn, 1) := by decide +kernel
theorem dX10_turn_18 : decode cX10_turn 18 = .ok (.iload_n 2, 1) := by decide +kernel
theorem dX10_turn_19 : decode cX10_turn 19 = .ok (.iconst 0, 1) := by decide +kernel
theorem dX10_turn_20 : decode cX10_turn 20 = .ok (.iconst 1, 1) := by decide +kernel
theorem dX10_turn_21 : decode cX10_turn 21 = .ok (.invokestatic 94, 3) := by decide +kernel
theorem dX10_turn_24 : decode cX10_turn 24 = .ok (.ifCond .eq 19, 3) := by decide +kernel
theorem dX10_turn_27 : decode cX10_turn 27 = .ok (.aload_n 0, 1) := by decide +kernel
theorem dX10_turn_28 : decode cX10_turn 28 = .ok (.getfield 7, 3) := by decide +kernel
theorem dX10_turn_31 : decode cX10_turn 31 = .ok (.bipush 58, 2) := by decide +kernel
theorem dX10_turn_33 : decode cX10_turn 33 = .ok (.iconst 2, 1) := by decide +kernel
theorem dX10_turn_34 : decode cX10_turn 34 = .ok (.iload_n 1, 1) := by decide +kernel
theorem dX10_turn_35 : decode cX10_turn 35 = .ok (.imul, 1) := by decide +kernel
theorem dX10_turn_36 : decode cX10_turn 36 = .ok (.iadd, 1) := by decide +kernel
theorem dX10_turn_37 : decode cX10_turn 37 = .ok (.iload_n 2, 1) := by decide +kernel
theorem dX10_turn_38 : decode cX10_turn 38 = .ok (.iadd, 1) := by decide +kernel
theorem dX10_turn_39 : decode cX10_turn 39 = .ok (.iaload, 1) := by decide +kernel
theorem dX10_turn_40 : decode cX10_turn 40 = .ok (.goto 5, 3) := by decide +kernel
theorem dX10_turn_43 : decode cX10_turn 43 = .ok (.ldc 111, 2) := by decide +kernel
theorem dX10_turn_45 : decode cX10_turn 45 = .ok (.ireturn, 1) := by decide +kernel
theorem dX10_check_0 : decode cX10_check 0 = .ok (.iload_n 1, 1) := by decide +kernel
theorem dX10_check_1 : decode cX10_check 1 = .ok (.ifCond .lt 14, 3) := by decide +kernel
theorem dX10_check_4 : decode cX10_check 4 = .ok (.iload_n 1, 1) := by decide +kernel
theorem dX10_check_5 : decode cX10_check 5 = .ok (.aload_n 0, 1) := by decide +kernel
theorem dX10_check_6 : decode cX10_check 6 = .ok (.getfield 7, 3) := by decide +kernel
theorem dX10_check_9 : decode cX10_check 9 = .ok (.bipush 15, 2) := by decide +kernel
theorem dX10_check_11 : decode cX10_check 11 = .ok (.iaload, 1) := by decide +kernel
theorem dX10_check_12 : decode cX10_check 12 = .ok (.if_icmp .lt 8, 3) := by decide +kernel
theorem dX10_check_15 : decode cX10_check 15 = .ok (.ldc 176, 2) := by decide +kernel
theorem dX10_check_17 : decode cX10_check 17 = .ok (.goto 12, 3) := by decide +kernel
theorem dX10_check_20 : decode cX10_check 20 = .ok (.aload_n 0, 1) := by decide +kernel
theorem dX10_check_21 : decode cX10_check 21 = .ok (.getfield 7, 3) := by decide +kernel
theorem dX10_check_24 : decode cX10_check 24 = .ok (.bipush 74, 2) := by decide +kernel
theorem dX10_check_26 : decode cX10_check 26 = .ok (.iload_n 1, 1) := by decide +kernel
theorem dX10_check_27 : decode cX10_check 27 = .ok (.iadd, 1) := by decide +kernel
theorem dX10_check_28 : decode cX10_check 28 = .ok (.iaload, 1) := by decide +kernel
theorem dX10_check_29 : decode cX10_check 29 = .ok (.ireturn, 1) := by decide +kernel
set_option maxRecDepth 20000 in
theorem ggX10_reason_X10_turnError : GoodIn wsX10_reason wsX10_turnError := goodIn_r _ [6, 1, 27, 28, 29, 30, 31, 32, 33, 34, 35, 36, 37, 38, 39, 40, 41, 42] (by decide +kernel) (by decide +kernel)
set_option maxRecDepth 20000 in
theorem gX10_reason_X10_turnError : GoodIn wsX10_reason (wsV RX10 163 RX10 yX10_turnError wsX10_turnError) := goodIn_app (goodIn_of _ (by decide +kernel)) ggX10_reason_X10_turnError
set_option maxRecDepth 20000 in
theorem ggX10_reason_X10_sizeOf : GoodIn wsX10_reason wsX10_sizeOf := goodIn_r _ [9] (by decide +kernel) (by decide +kernel)
set_option maxRecDepth 20000 in
theorem gX10_reason_X10_sizeOf : GoodIn wsX10_reason (va_wsS RX10 61 yX10_sizeOf wsX10_sizeOf) := goodIn_app (goodIn_of _ (by decide +kernel)) ggX10_reason_X10_sizeOf
set_option maxRecDepth 20000 in
theorem ggX10_reason_X10_setting : GoodIn wsX10_reason wsX10_setting := goodIn_r _ [13, 1, 27, 28, 29, 30, 31, 32, 33, 34, 35, 36, 37, 38, 39, 40, 41, 42] (by decide +kernel) (by decide +kernel)
set_option maxRecDepth 20000 in
theorem gX10_reason_X10_setting : GoodIn wsX10_reason (wsV RX10 70 RX10 yX10_setting wsX10_setting) := goodIn_app (goodIn_of _ (by decide +kernel)) ggX10_reason_X10_setting
set_option maxRecDepth 20000 in
theorem ggX10_reason_X10_settled : GoodIn wsX10_reason wsX10_settled := goodIn_r _ [17, 2, 3, 4, 5, 6, 1, 27, 28, 29, 30, 31, 32, 33, 34, 35, 36, 37, 38, 39, 40, 41, 42] (by decide +kernel) (by decide +kernel)
set_option maxRecDepth 20000 in
theorem gX10_reason_X10_settled : GoodIn wsX10_reason (wsV RX10 167 RX10 yX10_settled wsX10_settled) := goodIn_app (goodIn_of _ (by decide +kernel)) ggX10_reason_X10_settled
set_option maxRecDepth 20000 in
theorem ggX10_reason_X10_settledByMean : GoodIn wsX10_reason wsX10_settledByMean := goodIn_r _ [21, 22, 1, 27, 28, 29, 30, 31, 32, 33, 34, 35, 36, 37, 38, 39, 40, 41, 42] (by decide +kernel) (by decide +kernel)
set_option maxRecDepth 20000 in
theorem gX10_reason_X10_settledByMean : GoodIn wsX10_reason (wsV RX10 170 RX10 yX10_settledByMean wsX10_settledByMean) := goodIn_app (goodIn_of _ (by decide +kernel)) ggX10_reason_X10_settledByMean
set_option maxRecDepth 20000 in
theorem ggX10_reason_X10_checksSum : GoodIn wsX10_reason wsX10_checksSum := goodIn_r _ [26, 1, 27, 28, 29, 30, 31, 32, 33, 34, 35, 36, 37, 38, 39, 40, 41, 42] (by decide +kernel) (by decide +kernel)
set_option maxRecDepth 20000 in
theorem gX10_reason_X10_checksSum : GoodIn wsX10_reason (wsV RX10 173 RX10 yX10_checksSum wsX10_checksSum) := goodIn_app (goodIn_of _ (by decide +kernel)) ggX10_reason_X10_checksSum
theorem dX10_reason_0 : decode cX10_reason 0 = .ok (.aload_n 0, 1) := by decide +kernel
theorem dX10_reason_1 : decode cX10_reason 1 = .ok (.getfield 7, 3) := by decide +kernel
theorem dX10_reason_4 : decode cX10_reason 4 = .ok (.bipush 13, 2) := by decide +kernel
theorem dX10_reason_6 : decode cX10_reason 6 = .ok (.iaload, 1) := by decide +kernel
theorem dX10_reason_7 : decode cX10_reason 7 = .ok (.iconst 3, 1) := by decide +kernel
theorem dX10_reason_8 : decode cX10_reason 8 = .ok (.if_icmp .ge 5, 3) := by decide +kernel
theorem dX10_reason_11 : decode cX10_reason 11 = .ok (.iconst 1, 1) := by decide +kernel
theorem dX10_reason_12 : decode cX10_reason 12 = .ok (.ireturn, 1) := by decide +kernel
theorem dX10_reason_13 : decode cX10_reason 13 = .ok (.aload_n 0, 1) := by decide +kernel
theorem dX10_reason_14 : decode cX10_reason 14 = .ok (.iconst 0, 1) := by decide +kernel
theorem dX10_reason_15 : decode cX10_reason 15 = .ok (.invokevirtual 163, 3) := by decide +kernel
theorem dX10_reason_18 : decode cX10_reason 18 = .ok (.aload_n 0, 1) := by decide +kernel
theorem dX10_reason_19 : decode cX10_reason 19 = .ok (.iconst 1, 1) := by decide +kernel
theorem dX10_reason_20 : decode cX10_reason 20 = .ok (.invokevirtual 163, 3) := by decide +kernel
theorem dX10_reason_23 : decode cX10_reason 23 = .ok (.isub, 1) := by decide +kernel
theorem dX10_reason_24 : decode cX10_reason 24 = .ok (.invokestatic 61, 3) := by decide +kernel
theorem dX10_reason_27 : decode cX10_reason 27 = .ok (.aload_n 0, 1) := by decide +kernel
theorem dX10_reason_28 : decode cX10_reason 28 = .ok (.iconst 3, 1) := by decide +kernel
theorem dX10_reason_29 : decode cX10_reason 29 = .ok (.invokevirtual 70, 3) := by decide +kernel
theorem dX10_reason_32 : decode cX10_reason 32 = .ok (.if_icmp .le 5, 3) := by decide +kernel
theorem dX10_reason_35 : decode cX10_reason 35 = .ok (.iconst 2, 1) := by decide +kernel
theorem dX10_reason_36 : decode cX10_reason 36 = .ok (.ireturn, 1) := by decide +kernel
theorem dX10_reason_37 : decode cX10_reason 37 = .ok (.aload_n 0, 1) := by decide +kernel
theorem dX10_reason_38 : decode cX10_reason 38 = .ok (.invokevirtual 167, 3) := by decide +kernel
theorem dX10_reason_41 : decode cX10_reason 41 = .ok (.aload_n 0, 1) := by decide +kernel
theorem dX10_reason_42 : decode cX10_reason 42 = .ok (.invokevirtual 170, 3) := by decide +kernel
theorem dX10_reason_45 : decode cX10_reason 45 = .ok (.isub, 1) := by decide +kernel
theorem dX10_reason_46 : decode cX10_reason 46 = .ok (.invokestatic 61, 3) := by decide +kernel
theorem dX10_reason_49 : decode cX10_reason 49 = .ok (.aload_n 0, 1) := by decide +kernel
theorem dX10_reason_50 : decode cX10_reason 50 = .ok (.iconst 4, 1) := by decide +kernel
theorem dX10_reason_51 : decode cX10_reason 51 = .ok (.invokevirtual 70, 3) := by decide +kernel
theorem dX10_reason_54 : decode cX10_reason 54 = .ok (.if_icmp .le 5, 3) := by decide +kernel
theorem dX10_reason_57 : decode cX10_reason 57 = .ok (.iconst 3, 1) := by decide +kernel
theorem dX10_reason_58 : decode cX10_reason 58 = .ok (.ireturn, 1) := by decide +kernel
theorem dX10_reason_59 : decode cX10_reason 59 = .ok (.aload_n 0, 1) := by decide +kernel
theorem dX10_reason_60 : decode cX10_reason 60 = .ok (.getfield 7, 3) := by decide +kernel
theorem dX10_reason_63 : decode cX10_reason 63 = .ok (.bipush 15, 2) := by decide +kernel
theorem dX10_reason_65 : decode cX10_reason 65 = .ok (.iaload, 1) := by decide +kernel
theorem dX10_reason_66 : decode cX10_reason 66 = .ok (.iconst 3, 1) := by decide +kernel
theorem dX10_reason_67 : decode cX10_reason 67 = .ok (.if_icmp .ge 5, 3) := by decide +kernel
theorem dX10_reason_70 : decode cX10_reason 70 = .ok (.iconst 4, 1) := by decide +kernel
theorem dX10_reason_71 : decode cX10_reason 71 = .ok (.ireturn, 1) := by decide +kernel
theorem dX10_reason_72 : decode cX10_reason 72 = .ok (.bipush 100, 2) := by decide +kernel
theorem dX10_reason_74 : decode cX10_reason 74 = .ok (.aload_n 0, 1) := by decide +kernel
theorem dX10_reason_75 : decode cX10_reason 75 = .ok (.iconst 3, 1) := by decide +kernel
theorem dX10_reason_76 : decode cX10_reason 76 = .ok (.invokevirtual 173, 3) := by decide +kernel
theorem dX10_reason_79 : decode cX10_reason 79 = .ok (.iconst 3, 1) := by decide +kernel
theorem dX10_reason_80 : decode cX10_reason 80 = .ok (.idiv, 1) := by decide +kernel
theorem dX10_reason_81 : decode cX10_reason 81 = .ok (.imul, 1) := by decide +kernel
theorem dX10_reason_82 : decode cX10_reason 82 = .ok (.aload_n 0, 1) := by decide +kernel
theorem dX10_reason_83 : decode cX10_reason 83 = .ok (.invokevirtual 167, 3) := by decide +kernel
theorem dX10_reason_86 : decode cX10_reason 86 = .ok (.isub, 1) := by decide +kernel
theorem dX10_reason_87 : decode cX10_reason 87 = .ok (.invokestatic 61, 3) := by decide +kernel
theorem dX10_reason_90 : decode cX10_reason 90 = .ok (.aload_n 0, 1) := by decide +kernel
theorem dX10_reason_91 : decode cX10_reason 91 = .ok (.iconst 5, 1) := by decide +kernel
theorem dX10_reason_92 : decode cX10_reason 92 = .ok (.invokevirtual 70, 3) := by decide +kernel
theorem dX10_reason_95 : decode cX10_reason 95 = .ok (.if_icmp .le 5, 3) := by decide +kernel
theorem dX10_reason_98 : decode cX10_reason 98 = .ok (.iconst 5, 1) := by decide +kernel
theorem dX10_reason_99 : decode cX10_reason 99 = .ok (.ireturn, 1) := by decide +kernel
theorem dX10_reason_100 : decode cX10_reason 100 = .ok (.aload_n 0, 1) := by decide +kernel
theorem dX10_reason_101 : decode cX10_reason 101 = .ok (.invokevirtual 167, 3) := by decide +kernel
theorem dX10_reason_104 : decode cX10_reason 104 = .ok (.invokestatic 61, 3) := by decide +kernel
theorem dX10_reason_107 : decode cX10_reason 107 = .ok (.aload_n 0, 1) := by decide +kernel
theorem dX10_reason_108 : decode cX10_reason 108 = .ok (.iconst 5, 1) := by decide +kernel
theorem dX10_reason_109 : decode cX10_reason 109 = .ok (.invokevirtual 70, 3) := by decide +kernel
theorem dX10_reason_112 : decode cX10_reason 112 = .ok (.if_icmp .le 8, 3) := by decide +kernel
theorem dX10_reason_115 : decode cX10_reason 115 = .ok (.bipush 6, 2) := by decide +kernel
theorem dX10_reason_117 : decode cX10_reason 117 = .ok (.goto 19, 3) := by decide +kernel
theorem dX10_reason_120 : decode cX10_reason 120 = .ok (.aload_n 0, 1) := by decide +kernel
theorem dX10_reason_121 : decode cX10_reason 121 = .ok (.getfield 7, 3) := by decide +kernel
theorem dX10_reason_124 : decode cX10_reason 124 = .ok (.bipush 8, 2) := by decide +kernel
theorem dX10_reason_126 : decode cX10_reason 126 = .ok (.iaload, 1) := by decide +kernel
theorem dX10_reason_127 : decode cX10_reason 127 = .ok (.ifCond .ne 8, 3) := by decide +kernel
theorem dX10_reason_130 : decode cX10_reason 130 = .ok (.bipush 7, 2) := by decide +kernel
theorem dX10_reason_132 : decode cX10_reason 132 = .ok (.goto 4, 3) := by decide +kernel
theorem dX10_reason_135 : decode cX10_reason 135 = .ok (.iconst 0, 1) := by decide +kernel
theorem dX10_reason_136 : decode cX10_reason 136 = .ok (.ireturn, 1) := by decide +kernel
set_option maxRecDepth 20000 in
theorem ggX10_state_X10_in : GoodIn wsX10_state wsX10_in := goodIn_r _ [7] (by decide +kernel) (by decide +kernel)
set_option maxRecDepth 20000 in
theorem gX10_state_X10_in : GoodIn wsX10_state (va_wsS RX10 94 yX10_in wsX10_in) := goodIn_app (goodIn_of _ (by decide +kernel)) ggX10_state_X10_in
set_option maxRecDepth 20000 in
theorem ggX10_state_X10_setting : GoodIn wsX10_state wsX10_setting := goodIn_r _ [11, 1, 20, 21, 22, 23, 24, 25, 26, 27, 28, 29, 30, 31, 32, 33, 34, 35] (by decide +kernel) (by decide +kernel)
set_option maxRecDepth 20000 in
theorem gX10_state_X10_setting : GoodIn wsX10_state (wsV RX10 70 RX10 yX10_setting wsX10_setting) := goodIn_app (goodIn_of _ (by decide +kernel)) ggX10_state_X10_setting
set_option maxRecDepth 20000 in
theorem ggX10_state_X10_course : GoodIn wsX10_state wsX10_course := goodIn_r _ [15, 1, 20, 21, 22, 23, 24, 25, 26, 27, 28, 29, 30, 31, 32, 33, 34, 35] (by decide +kernel) (by decide +kernel)
set_option maxRecDepth 20000 in
theorem gX10_state_X10_course : GoodIn wsX10_state (wsV RX10 86 RX10 yX10_course wsX10_course) := goodIn_app (goodIn_of _ (by decide +kernel)) ggX10_state_X10_course
set_option maxRecDepth 20000 in
theorem ggX10_state_X10_speed : GoodIn wsX10_state wsX10_speed := goodIn_r _ [19, 1, 20, 21, 22, 23, 24, 25, 26, 27, 28, 29, 30, 31, 32, 33, 34, 35] (by decide +kernel) (by decide +kernel)
set_option maxRecDepth 20000 in
theorem gX10_state_X10_speed : GoodIn wsX10_state (wsV RX10 82 RX10 yX10_speed wsX10_speed) := goodIn_app (goodIn_of _ (by decide +kernel)) ggX10_state_X10_speed
theorem dX10_state_0 : decode cX10_state 0 = .ok (.iload_n 1, 1) := by decide +kernel
theorem dX10_state_1 : decode cX10_state 1 = .ok (.bipush 8, 2) := by decide +kernel
theorem dX10_state_3 : decode cX10_state 3 = .ok (.bipush 12, 2) := by decide +kernel
theorem dX10_state_5 : decode cX10_state 5 = .ok (.invokestatic 94, 3) := by decide +kernel
theorem dX10_state_8 : decode cX10_state 8 = .ok (.ifCond .eq 16, 3) := by decide +kernel
theorem dX10_state_11 : decode cX10_state 11 = .ok (.aload_n 0, 1) := by decide +kernel
theorem dX10_state_12 : decode cX10_state 12 = .ok (.getfield 7, 3) := by decide +kernel
theorem dX10_state_15 : decode cX10_state 15 = .ok (.bipush 29, 2) := by decide +kernel
theorem dX10_state_17 : decode cX10_state 17 = .ok (.iload_n 1, 1) := by decide +kernel
theorem dX10_state_18 : decode cX10_state 18 = .ok (.iadd, 1) := by decide +kernel
theorem dX10_state_19 : decode cX10_state 19 = .ok (.bipush 8, 2) := by decide +kernel
theorem dX10_state_21 : decode cX10_state 21 = .ok (.isub, 1) := by decide +kernel
theorem dX10_state_22 : decode cX10_state 22 = .ok (.iaload, 1) := by decide +kernel
theorem dX10_state_23 : decode cX10_state 23 = .ok (.ireturn, 1) := by decide +kernel
theorem dX10_state_24 : decode cX10_state 24 = .ok (.iload_n 1, 1) := by decide +kernel
theorem dX10_state_25 : decode cX10_state 25 = .ok (.bipush 22, 2) := by decide +kernel
theorem dX10_state_27 : decode cX10_state 27 = .ok (.bipush 30, 2) := by decide +kernel
theorem dX10_state_29 : decode cX10_state 29 = .ok (.invokestatic 94, 3) := by decide +kernel
theorem dX10_state_32 : decode cX10_state 32 = .ok (.ifCond .eq 12, 3) := by decide +kernel
theorem dX10_state_35 : decode cX10_state 35 = .ok (.aload_n 0, 1) := by decide +kernel
theorem dX10_state_36 : decode cX10_state 36 = .ok (.iload_n 1, 1) := by decide +kernel
theorem dX10_state_37 : decode cX10_state 37 = .ok (.bipush 22, 2) := by decide +kernel
theorem dX10_state_39 : decode cX10_state 39 = .ok (.isub, 1) := by decide +kernel
theorem dX10_state_40 : decode cX10_state 40 = .ok (.invokevirtual 70, 3) := by decide +kernel
theorem dX10_state_43 : decode cX10_state 43 = .ok (.ireturn, 1) := by decide +kernel
theorem dX10_state_44 : decode cX10_state 44 = .ok (.iload_n 1, 1) := by decide +kernel
theorem dX10_state_45 : decode cX10_state 45 = .ok (.tableswitch 262 0 21 #[103, 111, 116, 121, 128, 149, 157, 165, 262, 262, 262, 262, 262, 196, 204, 212, 220, 228, 236, 244, 252, 257], 103) := by decide +kernel
theorem dX10_state_148 : decode cX10_state 148 = .ok (.aload_n 0, 1) := by decide +kernel
theorem dX10_state_149 : decode cX10_state 149 = .ok (.getfield 7, 3) := by decide +kernel
theorem dX10_state_152 : decode cX10_state 152 = .ok (.bipush 10, 2) := by decide +kernel
theorem dX10_state_154 : decode cX10_state 154 = .ok (.iaload, 1) := by decide +kernel
theorem dX10_state_155 : decode cX10_state 155 = .ok (.ireturn, 1) := by decide +kernel
theorem dX10_state_156 : decode cX10_state 156 = .ok (.aload_n 0, 1) := by decide +kernel
theorem dX10_state_157 : decode cX10_state 157 = .ok (.invokevirtual 86, 3) := by decide +kernel
theorem dX10_state_160 : decode cX10_state 160 = .ok (.ireturn, 1) := by decide +kernel
theorem dX10_state_161 : decode cX10_state 161 = .ok (.aload_n 0, 1) := by decide +kernel
theorem dX10_state_162 : decode cX10_state 162 = .ok (.invokevirtual 82, 3) := by decide +kernel
theorem dX10_state_165 : decode cX10_state 165 = .ok (.ireturn, 1) := by decide +kernel
theorem dX10_state_166 : decode cX10_state 166 = .ok (.aload_n 0, 1) := by decide +kernel
theorem dX10_state_167 : decode cX10_state 167 = .ok (.getfield 7, 3) := by decide +kernel
theorem dX10_state_170 : decode cX10_state 170 = .ok (.iconst 3, 1) := by decide +kernel
theorem dX10_state_171 : decode cX10_state 171 = .ok (.iaload, 1) := by decide +kernel
theorem dX10_state_172 : decode cX10_state 172 = .ok (.ireturn, 1) := by decide +kernel
theorem dX10_state_173 : decode cX10_state 173 = .ok (.aload_n 0, 1) := by decide +kernel
theorem dX10_state_174 : decode cX10_state 174 = .ok (.getfield 7, 3) := by decide +kernel
theorem dX10_state_177 : decode cX10_state 177 = .ok (.iconst 3, 1) := by decide +kernel
theorem dX10_state_178 : decode cX10_state 178 = .ok (.iaload, 1) := by decide +kernel
theorem dX10_state_179 : decode cX10_state 179 = .ok (.ifCond .ne 7, 3) := by decide +kernel
theorem dX10_state_182 : decode cX10_state 182 = .ok (.iconst 0, 1) := by decide +kernel
theorem dX10_state_183 : decode cX10_state 183 = .ok (.goto 10, 3) := by decide +kernel
theorem dX10_state_186 : decode cX10_state 186 = .ok (.aload_n 0, 1) := by decide +kernel
theorem dX10_state_187 : decode cX10_state 187 = .ok (.getfield 7, 3) := by decide +kernel
theorem dX10_state_190 : decode cX10_state 190 = .ok (.bipush 36, 2) := by decide +kernel
theorem dX10_state_192 : decode cX10_state 192 = .ok (.iaload, 1) := by decide +kernel
theorem dX10_state_193 : decode cX10_state 193 = .ok (.ireturn, 1) := by decide +kernel
theorem dX10_state_194 : decode cX10_state 194 = .ok (.aload_n 0, 1) := by decide +kernel
theorem dX10_state_195 : decode cX10_state 195 = .ok (.getfield 7, 3) := by decide +kernel
theorem dX10_state_198 : decode cX10_state 198 = .ok (.bipush 11, 2) := by decide +kernel
theorem dX10_state_200 : decode cX10_state 200 = .ok (.iaload, 1) := by decide +kernel
theorem dX10_state_201 : decode cX10_state 201 = .ok (.ireturn, 1) := by decide +kernel
theorem dX10_state_202 : decode cX10_state 202 = .ok (.aload_n 0, 1) := by decide +kernel
theorem dX10_state_203 : decode cX10_state 203 = .ok (.getfield 7, 3) := by decide +kernel
theorem dX10_state_206 : decode cX10_state 206 = .ok (.bipush 8, 2) := by decide +kernel
theorem dX10_state_208 : decode cX10_state 208 = .ok (.iaload, 1) := by decide +kernel
theorem dX10_state_209 : decode cX10_state 209 = .ok (.ireturn, 1) := by decide +kernel
theorem dX10_state_210 : decode cX10_state 210 = .ok (.aload_n 0, 1) := by decide +kernel
theorem dX10_state_211 : decode cX10_state 211 = .ok (.getfield 7, 3) := by decide +kernel
theorem dX10_state_214 : decode cX10_state 214 = .ok (.bipush 9, 2) := by decide +kernel
theorem dX10_state_216 : decode cX10_state 216 = .ok (.iaload, 1) := by decide +kernel
theorem dX10_state_217 : decode cX10_state 217 = .ok (.ifCond .ge 8, 3) := by decide +kernel
theorem dX10_state_220 : decode cX10_state 220 = .ok (.bipush (-6), 2) := by decide +kernel
theorem dX10_state_222 : decode cX10_state 222 = .ok (.goto 18, 3) := by decide +kernel
theorem dX10_state_225 : decode cX10_state 225 = .ok (.aload_n 0, 1) := by decide +kernel
theorem dX10_state_226 : decode cX10_state 226 = .ok (.getfield 7, 3) := by decide +kernel
theorem dX10_state_229 : decode cX10_state 229 = .ok (.bipush 10, 2) := by decide +kernel
theorem dX10_state_231 : decode cX10_state 231 = .ok (.iaload, 1) := by decide +kernel
theorem dX10_state_232 : decode cX10_state 232 = .ok (.aload_n 0, 1) := by decide +kernel
theorem dX10_state_233 : decode cX10_state 233 = .ok (.getfield 7, 3) := by decide +kernel
theorem dX10_state_236 : decode cX10_state 236 = .ok (.bipush 9, 2) := by decide +kernel
theorem dX10_state_238 : decode cX10_state 238 = .ok (.iaload, 1) := by decide +kernel
theorem dX10_state_239 : decode cX10_state 239 = .ok (.isub, 1) := by decide +kernel
theorem dX10_state_240 : decode cX10_state 240 = .ok (.ireturn, 1) := by decide +kernel
theorem dX10_state_241 : decode cX10_state 241 = .ok (.aload_n 0, 1) := by decide +kernel
theorem dX10_state_242 : decode cX10_state 242 = .ok (.getfield 7, 3) := by decide +kernel
theorem dX10_state_245 : decode cX10_state 245 = .ok (.bipush 13, 2) := by decide +kernel
theorem dX10_state_247 : decode cX10_state 247 = .ok (.iaload, 1) := by decide +kernel
theorem dX10_state_248 : decode cX10_state 248 = .ok (.ireturn, 1) := by decide +kernel
theorem dX10_state_249 : decode cX10_state 249 = .ok (.aload_n 0, 1) := by decide +kernel
theorem dX10_state_250 : decode cX10_state 250 = .ok (.getfield 7, 3) := by decide +kernel
theorem dX10_state_253 : decode cX10_state 253 = .ok (.bipush 14, 2) := by decide +kernel
theorem dX10_state_255 : decode cX10_state 255 = .ok (.iaload, 1) := by decide +kernel
theorem dX10_state_256 : decode cX10_state 256 = .ok (.ireturn, 1) := by decide +kernel
theorem dX10_state_257 : decode cX10_state 257 = .ok (.aload_n 0, 1) := by decide +kernel
theorem dX10_state_258 : decode cX10_state 258 = .ok (.getfield 7, 3) := by decide +kernel
theorem dX10_state_261 : decode cX10_state 261 = .ok (.bipush 15, 2) := by decide +kernel
theorem dX10_state_263 : decode cX10_state 263 = .ok (.iaload, 1) := by decide +kernel
theorem dX10_state_264 : decode cX10_state 264 = .ok (.ireturn, 1) := by decide +kernel
theorem dX10_state_265 : decode cX10_state 265 = .ok (.aload_n 0, 1) := by decide +kernel
theorem dX10_state_266 : decode cX10_state 266 = .ok (.getfield 7, 3) := by decide +kernel
theorem dX10_state_269 : decode cX10_state 269 = .ok (.bipush 16, 2) := by decide +kernel
theorem dX10_state_271 : decode cX10_state 271 = .ok (.iaload, 1) := by decide +kernel
theorem dX10_state_272 : decode cX10_state 272 = .ok (.ireturn, 1) := by decide +kernel
theorem dX10_state_273 : decode cX10_state 273 = .ok (.aload_n 0, 1) := by decide +kernel
theorem dX10_state_274 : decode cX10_state 274 = .ok (.getfield 7, 3) := by decide +kernel
theorem dX10_state_277 : decode cX10_state 277 = .ok (.bipush 17, 2) := by decide +kernel
theorem dX10_state_279 : decode cX10_state 279 = .ok (.iaload, 1) := by decide +kernel
theorem dX10_state_280 : decode cX10_state 280 = .ok (.ireturn, 1) := by decide +kernel
theorem dX10_state_281 : decode cX10_state 281 = .ok (.aload_n 0, 1) := by decide +kernel
theorem dX10_state_282 : decode cX10_state 282 = .ok (.getfield 7, 3) := by decide +kernel
theorem dX10_state_285 : decode cX10_state 285 = .ok (.bipush 7, 2) := by decide +kernel
theorem dX10_state_287 : decode cX10_state 287 = .ok (.iaload, 1) := by decide +kernel
theorem dX10_state_288 : decode cX10_state 288 = .ok (.ireturn, 1) := by decide +kernel
theorem dX10_state_289 : decode cX10_state 289 = .ok (.aload_n 0, 1) := by decide +kernel
theorem dX10_state_290 : decode cX10_state 290 = .ok (.getfield 7, 3) := by decide +kernel
theorem dX10_state_293 : decode cX10_state 293 = .ok (.bipush 19, 2) := by decide +kernel
theorem dX10_state_295 : decode cX10_state 295 = .ok (.iaload, 1) := by decide +kernel
theorem dX10_state_296 : decode cX10_state 296 = .ok (.ireturn, 1) := by decide +kernel
theorem dX10_state_297 : decode cX10_state 297 = .ok (.aload_n 0, 1) := by decide +kernel
theorem dX10_state_298 : decode cX10_state 298 = .ok (.getfield 177, 3) := by decide +kernel
theorem dX10_state_301 : decode cX10_state 301 = .ok (.ireturn, 1) := by decide +kernel
theorem dX10_state_302 : decode cX10_state 302 = .ok (.aload_n 0, 1) := by decide +kernel
theorem dX10_state_303 : decode cX10_state 303 = .ok (.getfield 45, 3) := by decide +kernel
theorem dX10_state_306 : decode cX10_state 306 = .ok (.ireturn, 1) := by decide +kernel
theorem dX10_state_307 : decode cX10_state 307 = .ok (.bipush (-2), 2) := by decide +kernel
theorem dX10_state_309 : decode cX10_state 309 = .ok (.ireturn, 1) := by decide +kernel
set_option maxRecDepth 20000 in
theorem ggX10_wave_X10_isCourse : GoodIn wsX10_wave wsX10_isCourse := goodIn_r _ [5, 6, 7, 8, 4, 9] (by decide +kernel) (by decide +kernel)
set_option maxRecDepth 20000 in
theorem gX10_wave_X10_isCourse : GoodIn wsX10_wave (va_wsS RX10 117 yX10_isCourse wsX10_isCourse) := goodIn_app (goodIn_of _ (by decide +kernel)) ggX10_wave_X10_isCourse
set_option maxRecDepth 20000 in
theorem ggX10_wave_X10_in : GoodIn wsX10_wave wsX10_in := goodIn_r _ [9] (by decide +kernel) (by decide +kernel)
set_option maxRecDepth 20000 in
theorem gX10_wave_X10_in : GoodIn wsX10_wave (va_wsS RX10 94 yX10_in wsX10_in) := goodIn_app (goodIn_of _ (by decide +kernel)) ggX10_wave_X10_in
set_option maxRecDepth 20000 in
theorem ggX10_wave_X10_sine : GoodIn wsX10_wave wsX10_sine := goodIn_r _ [12, 13, 14, 4, 15, 16, 17] (by decide +kernel) (by decide +kernel)
set_option maxRecDepth 20000 in
theorem gX10_wave_X10_sine : GoodIn wsX10_wave (va_wsS RX10 58 yX10_sine wsX10_sine) := goodIn_app (goodIn_of _ (by decide +kernel)) ggX10_wave_X10_sine
set_option maxRecDepth 20000 in
theorem ggX10_wave_X10_cosine : GoodIn wsX10_wave wsX10_cosine := goodIn_r _ [20, 21, 10, 11, 4, 12, 13, 14, 15, 16, 17] (by decide +kernel) (by decide +kernel)
set_option maxRecDepth 20000 in
theorem gX10_wave_X10_cosine : GoodIn wsX10_wave (va_wsS RX10 67 yX10_cosine wsX10_cosine) := goodIn_app (goodIn_of _ (by decide +kernel)) ggX10_wave_X10_cosine
theorem dX10_wave_0 : decode cX10_wave 0 = .ok (.iload_n 1, 1) := by decide +kernel
theorem dX10_wave_1 : decode cX10_wave 1 = .ok (.invokestatic 117, 3) := by decide +kernel
theorem dX10_wave_4 : decode cX10_wave 4 = .ok (.ifCond .eq 12, 3) := by decide +kernel
theorem dX10_wave_7 : decode cX10_wave 7 = .ok (.iload_n 2, 1) := by decide +kernel
theorem dX10_wave_8 : decode cX10_wave 8 = .ok (.iconst 0, 1) := by decide +kernel
theorem dX10_wave_9 : decode cX10_wave 9 = .ok (.iconst 1, 1) := by decide +kernel
theorem dX10_wave_10 : decode cX10_wave 10 = .ok (.invokestatic 94, 3) := by decide +kernel
theorem dX10_wave_13 : decode cX10_wave 13 = .ok (.ifCond .ne 6, 3) := by decide +kernel
theorem dX10_wave_16 : decode cX10_wave 16 = .ok (.ldc 111, 2) := by decide +kernel
theorem dX10_wave_18 : decode cX10_wave 18 = .ok (.ireturn, 1) := by decide +kernel
theorem dX10_wave_19 : decode cX10_wave 19 = .ok (.iload_n 2, 1) := by decide +kernel
theorem dX10_wave_20 : decode cX10_wave 20 = .ok (.ifCond .ne 10, 3) := by decide +kernel
theorem dX10_wave_23 : decode cX10_wave 23 = .ok (.iload_n 1, 1) := by decide +kernel
theorem dX10_wave_24 : decode cX10_wave 24 = .ok (.invokestatic 58, 3) := by decide +kernel
theorem dX10_wave_27 : decode cX10_wave 27 = .ok (.goto 7, 3) := by decide +kernel
theorem dX10_wave_30 : decode cX10_wave 30 = .ok (.iload_n 1, 1) := by decide +kernel
theorem dX10_wave_31 : decode cX10_wave 31 = .ok (.invokestatic 67, 3) := by decide +kernel
theorem dX10_wave_34 : decode cX10_wave 34 = .ok (.ireturn, 1) := by decide +kernel
set_option maxRecDepth 20000 in
theorem ggX10_restAt_X10_isDegrees : GoodIn wsX10_restAt wsX10_isDegrees := goodIn_r _ [6, 7, 8, 5, 9] (by decide +kernel) (by decide +kernel)
set_option maxRecDepth 20000 in
theorem gX10_restAt_X10_isDegrees : GoodIn wsX10_restAt (va_wsS RX10 113 yX10_isDegrees wsX10_isDegrees) := goodIn_app (goodIn_of _ (by decide +kernel)) ggX10_restAt_X10_isDegrees
set_option maxRecDepth 20000 in
theorem ggX10_restAt_X10_isSpeed : GoodIn wsX10_restAt wsX10_isSpeed := goodIn_r _ [12, 7, 8, 5, 9] (by decide +kernel) (by decide +kernel)
set_option maxRecDepth 20000 in
theorem gX10_restAt_X10_isSpeed : GoodIn wsX10_restAt (va_wsS RX10 120 yX10_isSpeed wsX10_isSpeed) := goodIn_app (goodIn_of _ (by decide +kernel)) ggX10_restAt_X10_isSpeed
set_option maxRecDepth 20000 in
theorem ggX10_restAt_X10_isCourse : GoodIn wsX10_restAt wsX10_isCourse := goodIn_r _ [15, 16, 7, 8, 5, 9] (by decide +kernel) (by decide +kernel)
set_option maxRecDepth 20000 in
theorem gX10_restAt_X10_isCourse : GoodIn wsX10_restAt (va_wsS RX10 117 yX10_isCourse wsX10_isCourse) := goodIn_app (goodIn_of _ (by decide +kernel)) ggX10_restAt_X10_isCourse
set_option maxRecDepth 20000 in
theorem ggX10_restAt_X10_restBy : GoodIn wsX10_restAt wsX10_restBy := goodIn_r _ [20, 21, 22, 23, 24, 5, 25, 26, 27, 28, 29, 30, 31, 32, 33, 34, 35, 36, 37, 38, 39, 40, 41, 42, 43, 44, 45, 46, 47, 48, 49, 50, 51, 52, 53, 54, 55, 56, 57, 58, 59, 60, 61, 62, 63, 64, 65, 66] (by decide +kernel) (by decide +kernel)
set_option maxRecDepth 20000 in
theorem gX10_restAt_X10_restBy : GoodIn wsX10_restAt (wsV RX10 89 RX10 yX10_restBy wsX10_restBy) := goodIn_app (goodIn_of _ (by decide +kernel)) ggX10_restAt_X10_restBy
theorem dX10_restAt_0 : decode cX10_restAt 0 = .ok (.iload_n 1, 1) := by decide +kernel
theorem dX10_restAt_1 : decode cX10_restAt 1 = .ok (.invokestatic 113, 3) := by decide +kernel
theorem dX10_restAt_4 : decode cX10_restAt 4 = .ok (.ifCond .eq 30, 3) := by decide +kernel
theorem dX10_restAt_7 : decode cX10_restAt 7 = .ok (.iload_n 2, 1) := by decide +kernel
theorem dX10_restAt_8 : decode cX10_restAt 8 = .ok (.invokestatic 120, 3) := by decide +kernel
theorem dX10_restAt_11 : decode cX10_restAt 11 = .ok (.ifCond .eq 23, 3) := by decide +kernel
theorem dX10_restAt_14 : decode cX10_restAt 14 = .ok (.iload_n 3, 1) := by decide +kernel
theorem dX10_restAt_15 : decode cX10_restAt 15 = .ok (.invokestatic 117, 3) := by decide +kernel
theorem dX10_restAt_18 : decode cX10_restAt 18 = .ok (.ifCond .eq 16, 3) := by decide +kernel
theorem dX10_restAt_21 : decode cX10_restAt 21 = .ok (.aload_n 0, 1) := by decide +kernel
theorem dX10_restAt_22 : decode cX10_restAt 22 = .ok (.ldc 93, 2) := by decide +kernel
theorem dX10_restAt_24 : decode cX10_restAt 24 = .ok (.iload_n 1, 1) := by decide +kernel
theorem dX10_restAt_25 : decode cX10_restAt 25 = .ok (.imul, 1) := by decide +kernel
theorem dX10_restAt_26 : decode cX10_restAt 26 = .ok (.iload_n 2, 1) := by decide +kernel
theorem dX10_restAt_27 : decode cX10_restAt 27 = .ok (.iload_n 3, 1) := by decide +kernel
theorem dX10_restAt_28 : decode cX10_restAt 28 = .ok (.invokevirtual 89, 3) := by decide +kernel
theorem dX10_restAt_31 : decode cX10_restAt 31 = .ok (.goto 5, 3) := by decide +kernel
theorem dX10_restAt_34 : decode cX10_restAt 34 = .ok (.ldc 111, 2) := by decide +kernel
theorem dX10_restAt_36 : decode cX10_restAt 36 = .ok (.ireturn, 1) := by decide +kernel
theorem dX10_putAside_0 : decode cX10_putAside 0 = .ok (.iconst 0, 1) := by decide +kernel
theorem dX10_putAside_1 : decode cX10_putAside 1 = .ok (.istore_n 1, 1) := by decide +kernel
theorem dX10_putAside_2 : decode cX10_putAside 2 = .ok (.iload_n 1, 1) := by decide +kernel
theorem dX10_putAside_3 : decode cX10_putAside 3 = .ok (.bipush 85, 2) := by decide +kernel
theorem dX10_putAside_5 : decode cX10_putAside 5 = .ok (.if_icmp .ge 21, 3) := by decide +kernel
theorem dX10_putAside_8 : decode cX10_putAside 8 = .ok (.aload_n 0, 1) := by decide +kernel
theorem dX10_putAside_9 : decode cX10_putAside 9 = .ok (.getfield 17, 3) := by decide +kernel
theorem dX10_putAside_12 : decode cX10_putAside 12 = .ok (.iload_n 1, 1) := by decide +kernel
theorem dX10_putAside_13 : decode cX10_putAside 13 = .ok (.aload_n 0, 1) := by decide +kernel
theorem dX10_putAside_14 : decode cX10_putAside 14 = .ok (.getfield 7, 3) := by decide +kernel
theorem dX10_putAside_17 : decode cX10_putAside 17 = .ok (.iload_n 1, 1) := by decide +kernel
theorem dX10_putAside_18 : decode cX10_putAside 18 = .ok (.iaload, 1) := by decide +kernel
theorem dX10_putAside_19 : decode cX10_putAside 19 = .ok (.iastore, 1) := by decide +kernel
theorem dX10_putAside_20 : decode cX10_putAside 20 = .ok (.iinc 1 1, 3) := by decide +kernel
theorem dX10_putAside_23 : decode cX10_putAside 23 = .ok (.goto (-21), 3) := by decide +kernel
theorem dX10_putAside_26 : decode cX10_putAside 26 = .ok (.iconst 0, 1) := by decide +kernel
theorem dX10_putAside_27 : decode cX10_putAside 27 = .ok (.istore_n 1, 1) := by decide +kernel
theorem dX10_putAside_28 : decode cX10_putAside 28 = .ok (.iload_n 1, 1) := by decide +kernel
theorem dX10_putAside_29 : decode cX10_putAside 29 = .ok (.bipush 9, 2) := by decide +kernel
theorem dX10_putAside_31 : decode cX10_putAside 31 = .ok (.if_icmp .ge 21, 3) := by decide +kernel
theorem dX10_putAside_34 : decode cX10_putAside 34 = .ok (.aload_n 0, 1) := by decide +kernel
theorem dX10_putAside_35 : decode cX10_putAside 35 = .ok (.getfield 20, 3) := by decide +kernel
theorem dX10_putAside_38 : decode cX10_putAside 38 = .ok (.iload_n 1, 1) := by decide +kernel
theorem dX10_putAside_39 : decode cX10_putAside 39 = .ok (.aload_n 0, 1) := by decide +kernel
theorem dX10_putAside_40 : decode cX10_putAside 40 = .ok (.getfield 13, 3) := by decide +kernel
theorem dX10_putAside_43 : decode cX10_putAside 43 = .ok (.iload_n 1, 1) := by decide +kernel
theorem dX10_putAside_44 : decode cX10_putAside 44 = .ok (.laload, 1) := by decide +kernel
theorem dX10_putAside_45 : decode cX10_putAside 45 = .ok (.lastore, 1) := by decide +kernel
theorem dX10_putAside_46 : decode cX10_putAside 46 = .ok (.iinc 1 1, 3) := by decide +kernel
theorem dX10_putAside_49 : decode cX10_putAside 49 = .ok (.goto (-21), 3) := by decide +kernel
theorem dX10_putAside_52 : decode cX10_putAside 52 = .ok (.return_, 1) := by decide +kernel
theorem dX10_putBack_0 : decode cX10_putBack 0 = .ok (.iconst 0, 1) := by decide +kernel
theorem dX10_putBack_1 : decode cX10_putBack 1 = .ok (.istore_n 1, 1) := by decide +kernel
theorem dX10_putBack_2 : decode cX10_putBack 2 = .ok (.iload_n 1, 1) := by decide +kernel
theorem dX10_putBack_3 : decode cX10_putBack 3 = .ok (.bipush 85, 2) := by decide +kernel
theorem dX10_putBack_5 : decode cX10_putBack 5 = .ok (.if_icmp .ge 21, 3) := by decide +kernel
theorem dX10_putBack_8 : decode cX10_putBack 8 = .ok (.aload_n 0, 1) := by decide +kernel
theorem dX10_putBack_9 : decode cX10_putBack 9 = .ok (.getfield 7, 3) := by decide +kernel
theorem dX10_putBack_12 : decode cX10_putBack 12 = .ok (.iload_n 1, 1) := by decide +kernel
theorem dX10_putBack_13 : decode cX10_putBack 13 = .ok (.aload_n 0, 1) := by decide +kernel
theorem dX10_putBack_14 : decode cX10_putBack 14 = .ok (.getfield 17, 3) := by decide +kernel
theorem dX10_putBack_17 : decode cX10_putBack 17 = .ok (.iload_n 1, 1) := by decide +kernel
theorem dX10_putBack_18 : decode cX10_putBack 18 = .ok (.iaload, 1) := by decide +kernel
theorem dX10_putBack_19 : decode cX10_putBack 19 = .ok (.iastore, 1) := by decide +kernel
theorem dX10_putBack_20 : decode cX10_putBack 20 = .ok (.iinc 1 1, 3) := by decide +kernel
theorem dX10_putBack_23 : decode cX10_putBack 23 = .ok (.goto (-21), 3) := by decide +kernel
theorem dX10_putBack_26 : decode cX10_putBack 26 = .ok (.iconst 0, 1) := by decide +kernel
theorem dX10_putBack_27 : decode cX10_putBack 27 = .ok (.istore_n 1, 1) := by decide +kernel
theorem dX10_putBack_28 : decode cX10_putBack 28 = .ok (.iload_n 1, 1) := by decide +kernel
theorem dX10_putBack_29 : decode cX10_putBack 29 = .ok (.bipush 9, 2) := by decide +kernel
theorem dX10_putBack_31 : decode cX10_putBack 31 = .ok (.if_icmp .ge 21, 3) := by decide +kernel
theorem dX10_putBack_34 : decode cX10_putBack 34 = .ok (.aload_n 0, 1) := by decide +kernel
theorem dX10_putBack_35 : decode cX10_putBack 35 = .ok (.getfield 13, 3) := by decide +kernel
theorem dX10_putBack_38 : decode cX10_putBack 38 = .ok (.iload_n 1, 1) := by decide +kernel
theorem dX10_putBack_39 : decode cX10_putBack 39 = .ok (.aload_n 0, 1) := by decide +kernel
theorem dX10_putBack_40 : decode cX10_putBack 40 = .ok (.getfield 20, 3) := by decide +kernel
theorem dX10_putBack_43 : decode cX10_putBack 43 = .ok (.iload_n 1, 1) := by decide +kernel
theorem dX10_putBack_44 : decode cX10_putBack 44 = .ok (.laload, 1) := by decide +kernel
theorem dX10_putBack_45 : decode cX10_putBack 45 = .ok (.lastore, 1) := by decide +kernel
theorem dX10_putBack_46 : decode cX10_putBack 46 = .ok (.iinc 1 1, 3) := by decide +kernel
theorem dX10_putBack_49 : decode cX10_putBack 49 = .ok (.goto (-21), 3) := by decide +kernel
theorem dX10_putBack_52 : decode cX10_putBack 52 = .ok (.return_, 1) := by decide +kernel
set_option maxRecDepth 20000 in
theorem ggX10_isCalm_X10_rest : GoodIn wsX10_isCalm wsX10_rest := goodIn_r _ [6, 1, 7, 8, 9, 10, 5, 11, 12, 13, 14, 15, 16, 17, 18, 19, 20, 21, 22, 23, 24, 25, 26, 27, 28, 29, 30, 31, 32, 33, 34, 35, 36, 37, 38, 39, 40, 41, 42, 43, 44, 45, 46, 47, 48, 49, 50, 51, 52, 53, 54, 55, 56, 57, 58, 59, 60, 61, 62, 63, 64] (by decide +kernel) (by decide +kernel)
set_option maxRecDepth 20000 in
theorem gX10_isCalm_X10_rest : GoodIn wsX10_isCalm (wsV RX10 129 RX10 yX10_rest wsX10_rest) := goodIn_app (goodIn_of _ (by decide +kernel)) ggX10_isCalm_X10_rest
set_option maxRecDepth 20000 in
theorem ggX10_isCalm_X10_sizeOf : GoodIn wsX10_isCalm wsX10_sizeOf := goodIn_r _ [33] (by decide +kernel) (by decide +kernel)
set_option maxRecDepth 20000 in
theorem gX10_isCalm_X10_sizeOf : GoodIn wsX10_isCalm (va_wsS RX10 61 yX10_sizeOf wsX10_sizeOf) := goodIn_app (goodIn_of _ (by decide +kernel)) ggX10_isCalm_X10_sizeOf
theorem dX10_isCalm_0 : decode cX10_isCalm 0 = .ok (.aload_n 0, 1) := by decide +kernel
theorem dX10_isCalm_1 : decode cX10_isCalm 1 = .ok (.getfield 7, 3) := by decide +kernel
theorem dX10_isCalm_4 : decode cX10_isCalm 4 = .ok (.iconst 4, 1) := by decide +kernel
theorem dX10_isCalm_5 : decode cX10_isCalm 5 = .ok (.iaload, 1) := by decide +kernel
theorem dX10_isCalm_6 : decode cX10_isCalm 6 = .ok (.aload_n 0, 1) := by decide +kernel
theorem dX10_isCalm_7 : decode cX10_isCalm 7 = .ok (.invokevirtual 129, 3) := by decide +kernel
theorem dX10_isCalm_10 : decode cX10_isCalm 10 = .ok (.isub, 1) := by decide +kernel
theorem dX10_isCalm_11 : decode cX10_isCalm 11 = .ok (.invokestatic 61, 3) := by decide +kernel
theorem dX10_isCalm_14 : decode cX10_isCalm 14 = .ok (.iload_n 1, 1) := by decide +kernel
theorem dX10_isCalm_15 : decode cX10_isCalm 15 = .ok (.if_icmp .gt 20, 3) := by decide +kernel
theorem dX10_isCalm_18 : decode cX10_isCalm 18 = .ok (.aload_n 0, 1) := by decide +kernel
theorem dX10_isCalm_19 : decode cX10_isCalm 19 = .ok (.getfield 7, 3) := by decide +kernel
theorem dX10_isCalm_22 : decode cX10_isCalm 22 = .ok (.iconst 5, 1) := by decide +kernel
theorem dX10_isCalm_23 : decode cX10_isCalm 23 = .ok (.iaload, 1) := by decide +kernel
theorem dX10_isCalm_24 : decode cX10_isCalm 24 = .ok (.invokestatic 61, 3) := by decide +kernel
theorem dX10_isCalm_27 : decode cX10_isCalm 27 = .ok (.iload_n 1, 1) := by decide +kernel
theorem dX10_isCalm_28 : decode cX10_isCalm 28 = .ok (.if_icmp .gt 7, 3) := by decide +kernel
theorem dX10_isCalm_31 : decode cX10_isCalm 31 = .ok (.iconst 1, 1) := by decide +kernel
theorem dX10_isCalm_32 : decode cX10_isCalm 32 = .ok (.goto 4, 3) := by decide +kernel
theorem dX10_isCalm_35 : decode cX10_isCalm 35 = .ok (.iconst 0, 1) := by decide +kernel
theorem dX10_isCalm_36 : decode cX10_isCalm 36 = .ok (.ireturn, 1) := by decide +kernel
set_option maxRecDepth 20000 in
theorem ggX10_calmBy_X10_putAside : GoodIn wsX10_calmBy wsX10_putAside := goodIn_r _ [6, 7, 1, 8, 9, 90, 91, 92, 93, 94, 95, 96, 97, 98, 99, 100, 101, 102, 103, 104, 105] (by decide +kernel) (by decide +kernel)
set_option maxRecDepth 20000 in
theorem gX10_calmBy_X10_putAside : GoodIn wsX10_calmBy (wsV RX10 180 RX10 yX10_putAside wsX10_putAside) := goodIn_app (goodIn_of _ (by decide +kernel)) ggX10_calmBy_X10_putAside
set_option maxRecDepth 20000 in
theorem ggX10_calmBy_X10_isCalm : GoodIn wsX10_calmBy wsX10_isCalm := goodIn_r _ [13, 1, 14, 15, 16, 5, 17, 18, 19, 20, 21, 22, 23, 24, 25, 26, 27, 28, 29, 30, 31, 32, 33, 34, 35, 36, 37, 38, 39, 40, 41, 42, 43, 44, 45, 46, 47, 48, 49, 50, 51, 52, 53, 54, 55, 56, 57, 58, 59, 90, 91, 92, 93, 94, 95, 96, 97, 98, 99, 100, 101, 102, 103, 104, 105] (by decide +kernel) (by decide +kernel)
set_option maxRecDepth 20000 in
theorem gX10_calmBy_X10_isCalm : GoodIn wsX10_calmBy (wsV RX10 183 RX10 yX10_isCalm wsX10_isCalm) := goodIn_app (goodIn_of _ (by decide +kernel)) ggX10_calmBy_X10_isCalm
set_option maxRecDepth 20000 in
theorem ggX10_calmBy_X10_makeMinute : GoodIn wsX10_calmBy wsX10_makeMinute := goodIn_r _ [63, 1, 9, 64, 65, 66, 23, 24, 25, 5, 26, 19, 20, 21, 22, 67, 68, 69, 70, 71, 72, 73, 74, 32, 33, 34, 35, 14, 15, 16, 17, 18, 27, 28, 29, 30, 31, 36, 37, 38, 39, 40, 41, 42, 43, 44, 45, 46, 47, 48, 49, 50, 51, 52, 53, 54, 55, 56, 57, 58, 59, 75, 76, 77, 78, 79, 80, 81, 82, 83, 84, 85, 90, 91, 92, 93, 94, 95, 96, 97, 98, 99, 100, 101, 102, 103, 104, 105] (by decide +kernel) (by decide +kernel)
set_option maxRecDepth 20000 in
theorem gX10_calmBy_X10_makeMinute : GoodIn wsX10_calmBy (wsV RX10 154 RX10 yX10_makeMinute wsX10_makeMinute) := goodIn_app (goodIn_of _ (by decide +kernel)) ggX10_calmBy_X10_makeMinute
set_option maxRecDepth 20000 in
theorem ggX10_calmBy_X10_putBack : GoodIn wsX10_calmBy wsX10_putBack := goodIn_r _ [89, 1, 7, 9, 8, 90, 91, 92, 93, 94, 95, 96, 97, 98, 99, 100, 101, 102, 103, 104, 105] (by decide +kernel) (by decide +kernel)
set_option maxRecDepth 20000 in
theorem gX10_calmBy_X10_putBack : GoodIn wsX10_calmBy (wsV RX10 186 RX10 yX10_putBack wsX10_putBack) := goodIn_app (goodIn_of _ (by decide +kernel)) ggX10_calmBy_X10_putBack
theorem dX10_calmBy_0 : decode cX10_calmBy 0 = .ok (.aload_n 0, 1) := by decide +kernel
theorem dX10_calmBy_1 : decode cX10_calmBy 1 = .ok (.invokevirtual 180, 3) := by decide +kernel
theorem dX10_calmBy_4 : decode cX10_calmBy 4 = .ok (.aload_n 0, 1) := by decide +kernel
theorem dX10_calmBy_5 : decode cX10_calmBy 5 = .ok (.getfield 7, 3) := by decide +kernel
theorem dX10_calmBy_8 : decode cX10_calmBy 8 = .ok (.bipush 8, 2) := by decide +kernel
theorem dX10_calmBy_10 : decode cX10_calmBy 10 = .ok (.iload_n 1, 1) := by decide +kernel
theorem dX10_calmBy_11 : decode cX10_calmBy 11 = .ok (.iastore, 1) := by decide +kernel
theorem dX10_calmBy_12 : decode cX10_calmBy 12 = .ok (.iconst 0, 1) := by decide +kernel
theorem dX10_calmBy_13 : decode cX10_calmBy 13 = .ok (.istore 4, 2) := by decide +kernel
theorem dX10_calmBy_15 : decode cX10_calmBy 15 = .ok (.iload 4, 2) := by decide +kernel
theorem dX10_calmBy_17 : decode cX10_calmBy 17 = .ok (.iload_n 3, 1) := by decide +kernel
theorem dX10_calmBy_18 : decode cX10_calmBy 18 = .ok (.if_icmp .ge 21, 3) := by decide +kernel
theorem dX10_calmBy_21 : decode cX10_calmBy 21 = .ok (.aload_n 0, 1) := by decide +kernel
theorem dX10_calmBy_22 : decode cX10_calmBy 22 = .ok (.iload_n 2, 1) := by decide +kernel
theorem dX10_calmBy_23 : decode cX10_calmBy 23 = .ok (.invokevirtual 183, 3) := by decide +kernel
theorem dX10_calmBy_26 : decode cX10_calmBy 26 = .ok (.ifCond .ne 13, 3) := by decide +kernel
theorem dX10_calmBy_29 : decode cX10_calmBy 29 = .ok (.aload_n 0, 1) := by decide +kernel
theorem dX10_calmBy_30 : decode cX10_calmBy 30 = .ok (.invokevirtual 154, 3) := by decide +kernel
theorem dX10_calmBy_33 : decode cX10_calmBy 33 = .ok (.iinc 4 1, 3) := by decide +kernel
theorem dX10_calmBy_36 : decode cX10_calmBy 36 = .ok (.goto (-21), 3) := by decide +kernel
theorem dX10_calmBy_39 : decode cX10_calmBy 39 = .ok (.aload_n 0, 1) := by decide +kernel
theorem dX10_calmBy_40 : decode cX10_calmBy 40 = .ok (.iload_n 2, 1) := by decide +kernel
theorem dX10_calmBy_41 : decode cX10_calmBy 41 = .ok (.invokevirtual 183, 3) := by decide +kernel
theorem dX10_calmBy_44 : decode cX10_calmBy 44 = .ok (.ifCond .eq 8, 3) := by decide +kernel
theorem dX10_calmBy_47 : decode cX10_calmBy 47 = .ok (.iload 4, 2) := by decide +kernel
theorem dX10_calmBy_49 : decode cX10_calmBy 49 = .ok (.goto 5, 3) := by decide +kernel
theorem dX10_calmBy_52 : decode cX10_calmBy 52 = .ok (.bipush (-6), 2) := by decide +kernel
theorem dX10_calmBy_54 : decode cX10_calmBy 54 = .ok (.istore 5, 2) := by decide +kernel
theorem dX10_calmBy_56 : decode cX10_calmBy 56 = .ok (.aload_n 0, 1) := by decide +kernel
theorem dX10_calmBy_57 : decode cX10_calmBy 57 = .ok (.invokevirtual 186, 3) := by decide +kernel
theorem dX10_calmBy_60 : decode cX10_calmBy 60 = .ok (.iload 5, 2) := by decide +kernel
theorem dX10_calmBy_62 : decode cX10_calmBy 62 = .ok (.ireturn, 1) := by decide +kernel
set_option maxRecDepth 20000 in
theorem ggX10_calmIn_X10_in : GoodIn wsX10_calmIn wsX10_in := goodIn_r _ [6] (by decide +kernel) (by decide +kernel)
set_option maxRecDepth 20000 in
theorem gX10_calmIn_X10_in : GoodIn wsX10_calmIn (va_wsS RX10 94 yX10_in wsX10_in) := goodIn_app (goodIn_of _ (by decide +kernel)) ggX10_calmIn_X10_in
set_option maxRecDepth 20000 in
theorem ggX10_calmIn_X10_calmBy : GoodIn wsX10_calmIn wsX10_calmBy := goodIn_r _ [10, 2, 11, 12, 13, 5, 14, 15, 16, 17, 18, 19, 20, 21, 22, 23, 24, 25, 26, 27, 28, 29, 30, 31, 32, 33, 34, 35, 36, 37, 38, 39, 40, 41, 42, 43, 44, 45, 46, 47, 48, 49, 50, 51, 52, 53, 54, 55, 56, 57, 58, 59, 60, 61, 62, 63, 64, 65, 66, 67, 68, 69, 70, 71, 72, 73, 74, 75, 76, 77, 78, 79, 80, 81, 82, 83, 84, 85, 86, 87, 88, 89, 90, 91, 92, 93, 94, 95, 96, 97, 98, 99, 100, 101, 102, 103, 104, 105, 106, 107, 108, 109, 110, 111, 112, 113] (by decide +kernel) (by decide +kernel)
set_option maxRecDepth 20000 in
theorem gX10_calmIn_X10_calmBy : GoodIn wsX10_calmIn (wsV RX10 189 RX10 yX10_calmBy wsX10_calmBy) := goodIn_app (goodIn_of _ (by decide +kernel)) ggX10_calmIn_X10_calmBy
theorem dX10_calmIn_0 : decode cX10_calmIn 0 = .ok (.iload_n 1, 1) := by decide +kernel
theorem dX10_calmIn_1 : decode cX10_calmIn 1 = .ok (.iconst 0, 1) := by decide +kernel
theorem dX10_calmIn_2 : decode cX10_calmIn 2 = .ok (.ldc 98, 2) := by decide +kernel
theorem dX10_calmIn_4 : decode cX10_calmIn 4 = .ok (.invokestatic 94, 3) := by decide +kernel
theorem dX10_calmIn_7 : decode cX10_calmIn 7 = .ok (.ifCond .eq 30, 3) := by decide +kernel
theorem dX10_calmIn_10 : decode cX10_calmIn 10 = .ok (.iload_n 2, 1) := by decide +kernel
theorem dX10_calmIn_11 : decode cX10_calmIn 11 = .ok (.iconst 1, 1) := by decide +kernel
theorem dX10_calmIn_12 : decode cX10_calmIn 12 = .ok (.sipush 2000, 3) := by decide +kernel
theorem dX10_calmIn_15 : decode cX10_calmIn 15 = .ok (.invokestatic 94, 3) := by decide +kernel
theorem dX10_calmIn_18 : decode cX10_calmIn 18 = .ok (.ifCond .eq 19, 3) := by decide +kernel
theorem dX10_calmIn_21 : decode cX10_calmIn 21 = .ok (.aload_n 0, 1) := by decide +kernel
theorem dX10_calmIn_22 : decode cX10_calmIn 22 = .ok (.aload_n 0, 1) := by decide +kernel
theorem dX10_calmIn_23 : decode cX10_calmIn 23 = .ok (.getfield 7, 3) := by decide +kernel
theorem dX10_calmIn_26 : decode cX10_calmIn 26 = .ok (.bipush 8, 2) := by decide +kernel
theorem dX10_calmIn_28 : decode cX10_calmIn 28 = .ok (.iaload, 1) := by decide +kernel
theorem dX10_calmIn_29 : decode cX10_calmIn 29 = .ok (.iload_n 1, 1) := by decide +kernel
theorem dX10_calmIn_30 : decode cX10_calmIn 30 = .ok (.iload_n 2, 1) := by decide +kernel
theorem dX10_calmIn_31 : decode cX10_calmIn 31 = .ok (.invokevirtual 189, 3) := by decide +kernel
theorem dX10_calmIn_34 : decode cX10_calmIn 34 = .ok (.goto 5, 3) := by decide +kernel
theorem dX10_calmIn_37 : decode cX10_calmIn 37 = .ok (.bipush (-2), 2) := by decide +kernel
theorem dX10_calmIn_39 : decode cX10_calmIn 39 = .ok (.ireturn, 1) := by decide +kernel
set_option maxRecDepth 20000 in
theorem ggX10_bestLevel_X10_in : GoodIn wsX10_bestLevel wsX10_in := goodIn_r _ [5] (by decide +kernel) (by decide +kernel)
set_option maxRecDepth 20000 in
theorem gX10_bestLevel_X10_in : GoodIn wsX10_bestLevel (va_wsS RX10 94 yX10_in wsX10_in) := goodIn_app (goodIn_of _ (by decide +kernel)) ggX10_bestLevel_X10_in
set_option maxRecDepth 20000 in
theorem ggX10_bestLevel_X10_calmBy : GoodIn wsX10_bestLevel wsX10_calmBy := goodIn_r _ [9, 10, 11, 12, 13, 4, 14, 15, 16, 17, 18, 19, 20, 21, 22, 23, 24, 25, 26, 27, 28, 29, 30, 31, 32, 33, 34, 35, 36, 37, 38, 39, 40, 41, 42, 43, 44, 45, 46, 47, 48, 49, 50, 51, 52, 53, 54, 55, 56, 57, 58, 59, 60, 61, 62, 63, 64, 65, 66, 67, 68, 69, 70, 71, 72, 73, 74, 75, 76, 77, 78, 79, 80, 81, 82, 83, 84, 85, 86, 87, 88, 89, 90, 91, 92, 93, 94, 95, 96, 97, 98, 99, 100, 101, 102, 103, 104, 105, 106, 107, 108, 109, 110, 111, 112, 113] (by decide +kernel) (by decide +kernel)
set_option maxRecDepth 20000 in
theorem gX10_bestLevel_X10_calmBy : GoodIn wsX10_bestLevel (wsV RX10 189 RX10 yX10_calmBy wsX10_calmBy) := goodIn_app (goodIn_of _ (by decide +kernel)) ggX10_bestLevel_X10_calmBy
theorem dX10_bestLevel_0 : decode cX10_bestLevel 0 = .ok (.iload_n 1, 1) := by decide +kernel
theorem dX10_bestLevel_1 : decode cX10_bestLevel 1 = .ok (.iconst 0, 1) := by decide +kernel
theorem dX10_bestLevel_2 : decode cX10_bestLevel 2 = .ok (.ldc 98, 2) := by decide +kernel
theorem dX10_bestLevel_4 : decode cX10_bestLevel 4 = .ok (.invokestatic 94, 3) := by decide +kernel
theorem dX10_bestLevel_7 : decode cX10_bestLevel 7 = .ok (.ifCond .eq 14, 3) := by decide +kernel
theorem dX10_bestLevel_10 : decode cX10_bestLevel 10 = .ok (.iload_n 2, 1) := by decide +kernel
theorem dX10_bestLevel_11 : decode cX10_bestLevel 11 = .ok (.iconst 1, 1) := by decide +kernel
theorem dX10_bestLevel_12 : decode cX10_bestLevel 12 = .ok (.sipush 500, 3) := by decide +kernel
theorem dX10_bestLevel_15 : decode cX10_bestLevel 15 = .ok (.invokestatic 94, 3) := by decide +kernel
theorem dX10_bestLevel_18 : decode cX10_bestLevel 18 = .ok (.ifCond .ne 6, 3) := by decide +kernel
theorem dX10_bestLevel_21 : decode cX10_bestLevel 21 = .ok (.bipush (-2), 2) := by decide +kernel
theorem dX10_bestLevel_23 : decode cX10_bestLevel 23 = .ok (.ireturn, 1) := by decide +kernel
theorem dX10_bestLevel_24 : decode cX10_bestLevel 24 = .ok (.bipush (-6), 2) := by decide +kernel
theorem dX10_bestLevel_26 : decode cX10_bestLevel 26 = .ok (.istore_n 3, 1) := by decide +kernel
theorem dX10_bestLevel_27 : decode cX10_bestLevel 27 = .ok (.iload_n 2, 1) := by decide +kernel
theorem dX10_bestLevel_28 : decode cX10_bestLevel 28 = .ok (.iconst 1, 1) := by decide +kernel
theorem dX10_bestLevel_29 : decode cX10_bestLevel 29 = .ok (.iadd, 1) := by decide +kernel
theorem dX10_bestLevel_30 : decode cX10_bestLevel 30 = .ok (.istore 4, 2) := by decide +kernel
theorem dX10_bestLevel_32 : decode cX10_bestLevel 32 = .ok (.iconst 0, 1) := by decide +kernel
theorem dX10_bestLevel_33 : decode cX10_bestLevel 33 = .ok (.istore 5, 2) := by decide +kernel
theorem dX10_bestLevel_35 : decode cX10_bestLevel 35 = .ok (.iload 5, 2) := by decide +kernel
theorem dX10_bestLevel_37 : decode cX10_bestLevel 37 = .ok (.iconst 4, 1) := by decide +kernel
theorem dX10_bestLevel_38 : decode cX10_bestLevel 38 = .ok (.if_icmp .gt 38, 3) := by decide +kernel
theorem dX10_bestLevel_41 : decode cX10_bestLevel 41 = .ok (.aload_n 0, 1) := by decide +kernel
theorem dX10_bestLevel_42 : decode cX10_bestLevel 42 = .ok (.iload 5, 2) := by decide +kernel
theorem dX10_bestLevel_44 : decode cX10_bestLevel 44 = .ok (.iload_n 1, 1) := by decide +kernel
theorem dX10_bestLevel_45 : decode cX10_bestLevel 45 = .ok (.iload_n 2, 1) := by decide +kernel
theorem dX10_bestLevel_46 : decode cX10_bestLevel 46 = .ok (.invokevirtual 189, 3) := by decide +kernel
theorem dX10_bestLevel_49 : decode cX10_bestLevel 49 = .ok (.istore 6, 2) := by decide +kernel
theorem dX10_bestLevel_51 : decode cX10_bestLevel 51 = .ok (.iload 6, 2) := by decide +kernel
theorem dX10_bestLevel_53 : decode cX10_bestLevel 53 = .ok (.ifCond .lt 17, 3) := by decide +kernel
theorem dX10_bestLevel_56 : decode cX10_bestLevel 56 = .ok (.iload 6, 2) := by decide +kernel
theorem dX10_bestLevel_58 : decode cX10_bestLevel 58 = .ok (.iload 4, 2) := by decide +kernel
theorem dX10_bestLevel_60 : decode cX10_bestLevel 60 = .ok (.if_icmp .ge 10, 3) := by decide +kernel
theorem dX10_bestLevel_63 : decode cX10_bestLevel 63 = .ok (.iload 5, 2) := by decide +kernel
theorem dX10_bestLevel_65 : decode cX10_bestLevel 65 = .ok (.istore_n 3, 1) := by decide +kernel
theorem dX10_bestLevel_66 : decode cX10_bestLevel 66 = .ok (.iload 6, 2) := by decide +kernel
theorem dX10_bestLevel_68 : decode cX10_bestLevel 68 = .ok (.istore 4, 2) := by decide +kernel
theorem dX10_bestLevel_70 : decode cX10_bestLevel 70 = .ok (.iinc 5 1, 3) := by decide +kernel
theorem dX10_bestLevel_73 : decode cX10_bestLevel 73 = .ok (.goto (-38), 3) := by decide +kernel
theorem dX10_bestLevel_76 : decode cX10_bestLevel 76 = .ok (.iload_n 3, 1) := by decide +kernel
theorem dX10_bestLevel_77 : decode cX10_bestLevel 77 = .ok (.ireturn, 1) := by decide +kernel
set_option maxRecDepth 20000 in
theorem ggX10_put_X10_in : GoodIn wsX10_put wsX10_in := goodIn_r _ [7] (by decide +kernel) (by decide +kernel)
set_option maxRecDepth 20000 in
theorem gX10_put_X10_in : GoodIn wsX10_put (va_wsS RX10 94 yX10_in wsX10_in) := goodIn_app (goodIn_of _ (by decide +kernel)) ggX10_put_X10_in
theorem dX10_put_0 : decode cX10_put 0 = .ok (.iconst 0, 1) := by decide +kernel
theorem dX10_put_1 : decode cX10_put 1 = .ok (.istore_n 3, 1) := by decide +kernel
theorem dX10_put_2 : decode cX10_put 2 = .ok (.lload_n 1, 1) := by decide +kernel
theorem dX10_put_3 : decode cX10_put 3 = .ok (.lstore 4, 2) := by decide +kernel
theorem dX10_put_5 : decode cX10_put 5 = .ok (.iload_n 3, 1) := by decide +kernel
theorem dX10_put_6 : decode cX10_put 6 = .ok (.bipush 8, 2) := by decide +kernel
theorem dX10_put_8 : decode cX10_put 8 = .ok (.if_icmp .ge 47, 3) := by decide +kernel
theorem dX10_put_11 : decode cX10_put 11 = .ok (.lload 4, 2) := by decide +kernel
theorem dX10_put_13 : decode cX10_put 13 = .ok (.ldc2_w 192, 3) := by decide +kernel
theorem dX10_put_16 : decode cX10_put 16 = .ok (.land, 1) := by decide +kernel
theorem dX10_put_17 : decode cX10_put 17 = .ok (.lconst 0, 1) := by decide +kernel
theorem dX10_put_18 : decode cX10_put 18 = .ok (.lcmp, 1) := by decide +kernel
theorem dX10_put_19 : decode cX10_put 19 = .ok (.ifCond .eq 36, 3) := by decide +kernel
theorem dX10_put_22 : decode cX10_put 22 = .ok (.lload 4, 2) := by decide +kernel
theorem dX10_put_24 : decode cX10_put 24 = .ok (.ldc2_w 192, 3) := by decide +kernel
theorem dX10_put_27 : decode cX10_put 27 = .ok (.land, 1) := by decide +kernel
theorem dX10_put_28 : decode cX10_put 28 = .ok (.l2i, 1) := by decide +kernel
theorem dX10_put_29 : decode cX10_put 29 = .ok (.bipush 33, 2) := by decide +kernel
theorem dX10_put_31 : decode cX10_put 31 = .ok (.bipush 126, 2) := by decide +kernel
theorem dX10_put_33 : decode cX10_put 33 = .ok (.invokestatic 94, 3) := by decide +kernel
theorem dX10_put_36 : decode cX10_put 36 = .ok (.ifCond .ne 6, 3) := by decide +kernel
theorem dX10_put_39 : decode cX10_put 39 = .ok (.bipush (-2), 2) := by decide +kernel
theorem dX10_put_41 : decode cX10_put 41 = .ok (.ireturn, 1) := by decide +kernel
theorem dX10_put_42 : decode cX10_put 42 = .ok (.iinc 3 1, 3) := by decide +kernel
theorem dX10_put_45 : decode cX10_put 45 = .ok (.lload 4, 2) := by decide +kernel
theorem dX10_put_47 : decode cX10_put 47 = .ok (.bipush 8, 2) := by decide +kernel
theorem dX10_put_49 : decode cX10_put 49 = .ok (.lushr, 1) := by decide +kernel
theorem dX10_put_50 : decode cX10_put 50 = .ok (.lstore 4, 2) := by decide +kernel
theorem dX10_put_52 : decode cX10_put 52 = .ok (.goto (-47), 3) := by decide +kernel
theorem dX10_put_55 : decode cX10_put 55 = .ok (.iload_n 3, 1) := by decide +kernel
theorem dX10_put_56 : decode cX10_put 56 = .ok (.ifCond .eq 10, 3) := by decide +kernel
theorem dX10_put_59 : decode cX10_put 59 = .ok (.lload 4, 2) := by decide +kernel
theorem dX10_put_61 : decode cX10_put 61 = .ok (.lconst 0, 1) := by decide +kernel
theorem dX10_put_62 : decode cX10_put 62 = .ok (.lcmp, 1) := by decide +kernel
theorem dX10_put_63 : decode cX10_put 63 = .ok (.ifCond .eq 6, 3) := by decide +kernel
theorem dX10_put_66 : decode cX10_put 66 = .ok (.bipush (-2), 2) := by decide +kernel
theorem dX10_put_68 : decode cX10_put 68 = .ok (.ireturn, 1) := by decide +kernel
theorem dX10_put_69 : decode cX10_put 69 = .ok (.aload_n 0, 1) := by decide +kernel
theorem dX10_put_70 : decode cX10_put 70 = .ok (.getfield 177, 3) := by decide +kernel
theorem dX10_put_73 : decode cX10_put 73 = .ok (.iload_n 3, 1) := by decide +kernel
theorem dX10_put_74 : decode cX10_put 74 = .ok (.iadd, 1) := by decide +kernel
theorem dX10_put_75 : decode cX10_put 75 = .ok (.bipush 80, 2) := by decide +kernel
theorem dX10_put_77 : decode cX10_put 77 = .ok (.if_icmp .le 6, 3) := by decide +kernel
theorem dX10_put_80 : decode cX10_put 80 = .ok (.bipush (-4), 2) := by decide +kernel
theorem dX10_put_82 : decode cX10_put 82 = .ok (.ireturn, 1) := by decide +kernel
theorem dX10_put_83 : decode cX10_put 83 = .ok (.iconst 0, 1) := by decide +kernel
theorem dX10_put_84 : decode cX10_put 84 = .ok (.istore 6, 2) := by decide +kernel
theorem dX10_put_86 : decode cX10_put 86 = .ok (.iload 6, 2) := by decide +kernel
theorem dX10_put_88 : decode cX10_put 88 = .ok (.iload_n 3, 1) := by decide +kernel
theorem dX10_put_89 : decode cX10_put 89 = .ok (.if_icmp .ge 37, 3) := by decide +kernel
theorem dX10_put_92 : decode cX10_put 92 = .ok (.aload_n 0, 1) := by decide +kernel
theorem dX10_put_93 : decode cX10_put 93 = .ok (.getfield 39, 3) := by decide +kernel
theorem dX10_put_96 : decode cX10_put 96 = .ok (.aload_n 0, 1) := by decide +kernel
theorem dX10_put_97 : decode cX10_put 97 = .ok (.getfield 177, 3) := by decide +kernel
theorem dX10_put_100 : decode cX10_put 100 = .ok (.iload 6, 2) := by decide +kernel
theorem dX10_put_102 : decode cX10_put 102 = .ok (.iadd, 1) := by decide +kernel
theorem dX10_put_103 : decode cX10_put 103 = .ok (.lload_n 1, 1) := by decide +kernel
theorem dX10_put_104 : decode cX10_put 104 = .ok (.bipush 8, 2) := by decide +kernel
theorem dX10_put_106 : decode cX10_put 106 = .ok (.iload_n 3, 1) := by decide +kernel
theorem dX10_put_107 : decode cX10_put 107 = .ok (.iconst 1, 1) := by decide +kernel
theorem dX10_put_108 : decode cX10_put 108 = .ok (.isub, 1) := by decide +kernel
theorem dX10_put_109 : decode cX10_put 109 = .ok (.iload 6, 2) := by decide +kernel
theorem dX10_put_111 : decode cX10_put 111 = .ok (.isub, 1) := by decide +kernel
theorem dX10_put_112 : decode cX10_put 112 = .ok (.imul, 1) := by decide +kernel
theorem dX10_put_113 : decode cX10_put 113 = .ok (.lshr, 1) := by decide +kernel
theorem dX10_put_114 : decode cX10_put 114 = .ok (.ldc2_w 192, 3) := by decide +kernel
theorem dX10_put_117 : decode cX10_put 117 = .ok (.land, 1) := by decide +kernel
theorem dX10_put_118 : decode cX10_put 118 = .ok (.l2i, 1) := by decide +kernel
theorem dX10_put_119 : decode cX10_put 119 = .ok (.iastore, 1) := by decide +kernel
theorem dX10_put_120 : decode cX10_put 120 = .ok (.iinc 6 1, 3) := by decide +kernel
theorem dX10_put_123 : decode cX10_put 123 = .ok (.goto (-37), 3) := by decide +kernel
theorem dX10_put_126 : decode cX10_put 126 = .ok (.aload_n 0, 1) := by decide +kernel
theorem dX10_put_127 : decode cX10_put 127 = .ok (.dup, 1) := by decide +kernel
theorem dX10_put_128 : decode cX10_put 128 = .ok (.getfield 177, 3) := by decide +kernel
theorem dX10_put_131 : decode cX10_put 131 = .ok (.iload_n 3, 1) := by decide +kernel
theorem dX10_put_132 : decode cX10_put 132 = .ok (.iadd, 1) := by decide +kernel
theorem dX10_put_133 : decode cX10_put 133 = .ok (.putfield 177, 3) := by decide +kernel
theorem dX10_put_136 : decode cX10_put 136 = .ok (.aload_n 0, 1) := by decide +kernel
theorem dX10_put_137 : decode cX10_put 137 = .ok (.getfield 177, 3) := by decide +kernel
theorem dX10_put_140 : decode cX10_put 140 = .ok (.ireturn, 1) := by decide +kernel
theorem dX10_wipe_0 : decode cX10_wipe 0 = .ok (.aload_n 0, 1) := by decide +kernel
theorem dX10_wipe_1 : decode cX10_wipe 1 = .ok (.getfield 177, 3) := by decide +kernel
theorem dX10_wipe_4 : decode cX10_wipe 4 = .ok (.istore_n 1, 1) := by decide +kernel
theorem dX10_wipe_5 : decode cX10_wipe 5 = .ok (.aload_n 0, 1) := by decide +kernel
theorem dX10_wipe_6 : decode cX10_wipe 6 = .ok (.iconst 0, 1) := by decide +kernel
theorem dX10_wipe_7 : decode cX10_wipe 7 = .ok (.putfield 177, 3) := by decide +kernel
theorem dX10_wipe_10 : decode cX10_wipe 10 = .ok (.iload_n 1, 1) := by decide +kernel
theorem dX10_wipe_11 : decode cX10_wipe 11 = .ok (.ireturn, 1) := by decide +kernel
theorem dX10_next_0 : decode cX10_next 0 = .ok (.aload_n 0, 1) := by decide +kernel
theorem dX10_next_1 : decode cX10_next 1 = .ok (.getfield 194, 3) := by decide +kernel
theorem dX10_next_4 : decode cX10_next 4 = .ok (.aload_n 0, 1) := by decide +kernel
theorem dX10_next_5 : decode cX10_next 5 = .ok (.getfield 177, 3) := by decide +kernel
theorem dX10_next_8 : decode cX10_next 8 = .ok (.if_icmp .ge 15, 3) := by decide +kernel
theorem dX10_next_11 : decode cX10_next 11 = .ok (.aload_n 0, 1) := by decide +kernel
theorem dX10_next_12 : decode cX10_next 12 = .ok (.getfield 39, 3) := by decide +kernel
theorem dX10_next_15 : decode cX10_next 15 = .ok (.aload_n 0, 1) := by decide +kernel
theorem dX10_next_16 : decode cX10_next 16 = .ok (.getfield 194, 3) := by decide +kernel
theorem dX10_next_19 : decode cX10_next 19 = .ok (.iaload, 1) := by decide +kernel
theorem dX10_next_20 : decode cX10_next 20 = .ok (.goto 4, 3) := by decide +kernel
theorem dX10_next_23 : decode cX10_next 23 = .ok (.iconst 0, 1) := by decide +kernel
theorem dX10_next_24 : decode cX10_next 24 = .ok (.ireturn, 1) := by decide +kernel
set_option maxRecDepth 20000 in
theorem ggX10_takeNumber_X10_next : GoodIn wsX10_takeNumber wsX10_next := goodIn_r _ [7, 2, 8, 9, 13, 14, 15, 16, 17, 18, 19, 20, 21, 22, 23, 24, 25, 26, 27, 28] (by decide +kernel) (by decide +kernel)
set_option maxRecDepth 20000 in
theorem gX10_takeNumber_X10_next : GoodIn wsX10_takeNumber (wsV RX10 201 RX10 yX10_next wsX10_next) := goodIn_app (goodIn_of _ (by decide +kernel)) ggX10_takeNumber_X10_next
set_option maxRecDepth 20000 in
theorem ggX10_takeNumber_X10_in : GoodIn wsX10_takeNumber wsX10_in := goodIn_r _ [12] (by decide +kernel) (by decide +kernel)
set_option maxRecDepth 20000 in
theorem gX10_takeNumber_X10_in : GoodIn wsX10_takeNumber (va_wsS RX10 94 yX10_in wsX10_in) := goodIn_app (goodIn_of _ (by decide +kernel)) ggX10_takeNumber_X10_in
theorem dX10_takeNumber_0 : decode cX10_takeNumber 0 = .ok (.aload_n 0, 1) := by decide +kernel
theorem dX10_takeNumber_1 : decode cX10_takeNumber 1 = .ok (.aload_n 0, 1) := by decide +kernel
theorem dX10_takeNumber_2 : decode cX10_takeNumber 2 = .ok (.getfield 197, 3) := by decide +kernel
theorem dX10_takeNumber_5 : decode cX10_takeNumber 5 = .ok (.ifCond .ne 19, 3) := by decide +kernel
theorem dX10_takeNumber_8 : decode cX10_takeNumber 8 = .ok (.aload_n 0, 1) := by decide +kernel
theorem dX10_takeNumber_9 : decode cX10_takeNumber 9 = .ok (.invokevirtual 201, 3) := by decide +kernel
theorem dX10_takeNumber_12 : decode cX10_takeNumber 12 = .ok (.bipush 48, 2) := by decide +kernel
theorem dX10_takeNumber_14 : decode cX10_takeNumber 14 = .ok (.iload_n 1, 1) := by decide +kernel
theorem dX10_takeNumber_15 : decode cX10_takeNumber 15 = .ok (.iadd, 1) := by decide +kernel
theorem dX10_takeNumber_16 : decode cX10_takeNumber 16 = .ok (.bipush 57, 2) := by decide +kernel
theorem dX10_takeNumber_18 : decode cX10_takeNumber 18 = .ok (.invokestatic 94, 3) := by decide +kernel
theorem dX10_takeNumber_21 : decode cX10_takeNumber 21 = .ok (.ifCond .ne 7, 3) := by decide +kernel
theorem dX10_takeNumber_24 : decode cX10_takeNumber 24 = .ok (.iconst 1, 1) := by decide +kernel
theorem dX10_takeNumber_25 : decode cX10_takeNumber 25 = .ok (.goto 4, 3) := by decide +kernel
theorem dX10_takeNumber_28 : decode cX10_takeNumber 28 = .ok (.iconst 0, 1) := by decide +kernel
theorem dX10_takeNumber_29 : decode cX10_takeNumber 29 = .ok (.putfield 197, 3) := by decide +kernel
theorem dX10_takeNumber_32 : decode cX10_takeNumber 32 = .ok (.aload_n 0, 1) := by decide +kernel
theorem dX10_takeNumber_33 : decode cX10_takeNumber 33 = .ok (.getfield 197, 3) := by decide +kernel
theorem dX10_takeNumber_36 : decode cX10_takeNumber 36 = .ok (.ifCond .eq 5, 3) := by decide +kernel
theorem dX10_takeNumber_39 : decode cX10_takeNumber 39 = .ok (.iconst 0, 1) := by decide +kernel
theorem dX10_takeNumber_40 : decode cX10_takeNumber 40 = .ok (.ireturn, 1) := by decide +kernel
theorem dX10_takeNumber_41 : decode cX10_takeNumber 41 = .ok (.aload_n 0, 1) := by decide +kernel
theorem dX10_takeNumber_42 : decode cX10_takeNumber 42 = .ok (.invokevirtual 201, 3) := by decide +kernel
theorem dX10_takeNumber_45 : decode cX10_takeNumber 45 = .ok (.bipush 48, 2) := by decide +kernel
theorem dX10_takeNumber_47 : decode cX10_takeNumber 47 = .ok (.isub, 1) := by decide +kernel
theorem dX10_takeNumber_48 : decode cX10_takeNumber 48 = .ok (.istore_n 3, 1) := by decide +kernel
theorem dX10_takeNumber_49 : decode cX10_takeNumber 49 = .ok (.aload_n 0, 1) := by decide +kernel
theorem dX10_takeNumber_50 : decode cX10_takeNumber 50 = .ok (.dup, 1) := by decide +kernel
theorem dX10_takeNumber_51 : decode cX10_takeNumber 51 = .ok (.getfield 194, 3) := by decide +kernel
theorem dX10_takeNumber_54 : decode cX10_takeNumber 54 = .ok (.iconst 1, 1) := by decide +kernel
theorem dX10_takeNumber_55 : decode cX10_takeNumber 55 = .ok (.iadd, 1) := by decide +kernel
theorem dX10_takeNumber_56 : decode cX10_takeNumber 56 = .ok (.putfield 194, 3) := by decide +kernel
theorem dX10_takeNumber_59 : decode cX10_takeNumber 59 = .ok (.iload_n 3, 1) := by decide +kernel
theorem dX10_takeNumber_60 : decode cX10_takeNumber 60 = .ok (.ifCond .le 59, 3) := by decide +kernel
theorem dX10_takeNumber_63 : decode cX10_takeNumber 63 = .ok (.aload_n 0, 1) := by decide +kernel
theorem dX10_takeNumber_64 : decode cX10_takeNumber 64 = .ok (.invokevirtual 201, 3) := by decide +kernel
theorem dX10_takeNumber_67 : decode cX10_takeNumber 67 = .ok (.bipush 48, 2) := by decide +kernel
theorem dX10_takeNumber_69 : decode cX10_takeNumber 69 = .ok (.bipush 57, 2) := by decide +kernel
theorem dX10_takeNumber_71 : decode cX10_takeNumber 71 = .ok (.invokestatic 94, 3) := by decide +kernel
theorem dX10_takeNumber_74 : decode cX10_takeNumber 74 = .ok (.ifCond .eq 45, 3) := by decide +kernel
theorem dX10_takeNumber_77 : decode cX10_takeNumber 77 = .ok (.bipush 10, 2) := by decide +kernel
theorem dX10_takeNumber_79 : decode cX10_takeNumber 79 = .ok (.iload_n 3, 1) := by decide +kernel
theorem dX10_takeNumber_80 : decode cX10_takeNumber 80 = .ok (.imul, 1) := by decide +kernel
theorem dX10_takeNumber_81 : decode cX10_takeNumber 81 = .ok (.aload_n 0, 1) := by decide +kernel
theorem dX10_takeNumber_82 : decode cX10_takeNumber 82 = .ok (.invokevirtual 201, 3) := by decide +kernel
theorem dX10_takeNumber_85 : decode cX10_takeNumber 85 = .ok (.iadd, 1) := by decide +kernel
theorem dX10_takeNumber_86 : decode cX10_takeNumber 86 = .ok (.bipush 48, 2) := by decide +kernel
theorem dX10_takeNumber_88 : decode cX10_takeNumber 88 = .ok (.isub, 1) := by decide +kernel
theorem dX10_takeNumber_89 : decode cX10_takeNumber 89 = .ok (.iload_n 2, 1) := by decide +kernel
theorem dX10_takeNumber_90 : decode cX10_takeNumber 90 = .ok (.if_icmp .gt 29, 3) := by decide +kernel
theorem dX10_takeNumber_93 : decode cX10_takeNumber 93 = .ok (.bipush 10, 2) := by decide +kernel
theorem dX10_takeNumber_95 : decode cX10_takeNumber 95 = .ok (.iload_n 3, 1) := by decide +kernel
theorem dX10_takeNumber_96 : decode cX10_takeNumber 96 = .ok (.imul, 1) := by decide +kernel
theorem dX10_takeNumber_97 : decode cX10_takeNumber 97 = .ok (.aload_n 0, 1) := by decide +kernel
theorem dX10_takeNumber_98 : decode cX10_takeNumber 98 = .ok (.invokevirtual 201, 3) := by decide +kernel
theorem dX10_takeNumber_101 : decode cX10_takeNumber 101 = .ok (.iadd, 1) := by decide +kernel
theorem dX10_takeNumber_102 : decode cX10_takeNumber 102 = .ok (.bipush 48, 2) := by decide +kernel
theorem dX10_takeNumber_104 : decode cX10_takeNumber 104 = .ok (.isub, 1) := by decide +kernel
theorem dX10_takeNumber_105 : decode cX10_takeNumber 105 = .ok (.istore_n 3, 1) := by decide +kernel
theorem dX10_takeNumber_106 : decode cX10_takeNumber 106 = .ok (.aload_n 0, 1) := by decide +kernel
theorem dX10_takeNumber_107 : decode cX10_takeNumber 107 = .ok (.dup, 1) := by decide +kernel
theorem dX10_takeNumber_108 : decode cX10_takeNumber 108 = .ok (.getfield 194, 3) := by decide +kernel
theorem dX10_takeNumber_111 : decode cX10_takeNumber 111 = .ok (.iconst 1, 1) := by decide +kernel
theorem dX10_takeNumber_112 : decode cX10_takeNumber 112 = .ok (.iadd, 1) := by decide +kernel
theorem dX10_takeNumber_113 : decode cX10_takeNumber 113 = .ok (.putfield 194, 3) := by decide +kernel
theorem dX10_takeNumber_116 : decode cX10_takeNumber 116 = .ok (.goto (-57), 3) := by decide +kernel
theorem dX10_takeNumber_119 : decode cX10_takeNumber 119 = .ok (.iload_n 3, 1) := by decide +kernel
theorem dX10_takeNumber_120 : decode cX10_takeNumber 120 = .ok (.ireturn, 1) := by decide +kernel
set_option maxRecDepth 20000 in
theorem ggX10_need_X10_next : GoodIn wsX10_need wsX10_next := goodIn_r _ [7, 2, 8, 9, 10, 11, 12, 13, 14, 15, 16, 17, 18, 19, 20, 21, 22, 23, 24, 25] (by decide +kernel) (by decide +kernel)
set_option maxRecDepth 20000 in
theorem gX10_need_X10_next : GoodIn wsX10_need (wsV RX10 201 RX10 yX10_next wsX10_next) := goodIn_app (goodIn_of _ (by decide +kernel)) ggX10_need_X10_next
theorem dX10_need_0 : decode cX10_need 0 = .ok (.aload_n 0, 1) := by decide +kernel
theorem dX10_need_1 : decode cX10_need 1 = .ok (.aload_n 0, 1) := by decide +kernel
theorem dX10_need_2 : decode cX10_need 2 = .ok (.getfield 197, 3) := by decide +kernel
theorem dX10_need_5 : decode cX10_need 5 = .ok (.ifCond .ne 11, 3) := by decide +kernel
theorem dX10_need_8 : decode cX10_need 8 = .ok (.aload_n 0, 1) := by decide +kernel
theorem dX10_need_9 : decode cX10_need 9 = .ok (.invokevirtual 201, 3) := by decide +kernel
theorem dX10_need_12 : decode cX10_need 12 = .ok (.iload_n 1, 1) := by decide +kernel
theorem dX10_need_13 : decode cX10_need 13 = .ok (.if_icmp .eq 7, 3) := by decide +kernel
theorem dX10_need_16 : decode cX10_need 16 = .ok (.iconst 1, 1) := by decide +kernel
theorem dX10_need_17 : decode cX10_need 17 = .ok (.goto 4, 3) := by decide +kernel
theorem dX10_need_20 : decode cX10_need 20 = .ok (.iconst 0, 1) := by decide +kernel
theorem dX10_need_21 : decode cX10_need 21 = .ok (.putfield 197, 3) := by decide +kernel
theorem dX10_need_24 : decode cX10_need 24 = .ok (.aload_n 0, 1) := by decide +kernel
theorem dX10_need_25 : decode cX10_need 25 = .ok (.dup, 1) := by decide +kernel
theorem dX10_need_26 : decode cX10_need 26 = .ok (.getfield 194, 3) := by decide +kernel
theorem dX10_need_29 : decode cX10_need 29 = .ok (.aload_n 0, 1) := by decide +kernel
theorem dX10_need_30 : decode cX10_need 30 = .ok (.getfield 197, 3) := by decide +kernel
theorem dX10_need_33 : decode cX10_need 33 = .ok (.ifCond .eq 7, 3) := by decide +kernel
theorem dX10_need_36 : decode cX10_need 36 = .ok (.iconst 0, 1) := by decide +kernel
theorem dX10_need_37 : decode cX10_need 37 = .ok (.goto 4, 3) := by decide +kernel
theorem dX10_need_40 : decode cX10_need 40 = .ok (.iconst 1, 1) := by decide +kernel
theorem dX10_need_41 : decode cX10_need 41 = .ok (.iadd, 1) := by decide +kernel
theorem dX10_need_42 : decode cX10_need 42 = .ok (.putfield 194, 3) := by decide +kernel
theorem dX10_need_45 : decode cX10_need 45 = .ok (.return_, 1) := by decide +kernel
set_option maxRecDepth 20000 in
theorem ggX10_takeLeg_X10_need : GoodIn wsX10_takeLeg wsX10_need := goodIn_r _ [7, 8, 9, 10, 11, 12, 6, 13, 14, 15, 23, 24, 25, 26, 27, 28, 29, 30, 31, 32, 33, 34, 35, 36, 37, 38] (by decide +kernel) (by decide +kernel)
set_option maxRecDepth 20000 in
theorem gX10_takeLeg_X10_need : GoodIn wsX10_takeLeg (wsV RX10 207 RX10 yX10_need wsX10_need) := goodIn_app (goodIn_of _ (by decide +kernel)) ggX10_takeLeg_X10_need
set_option maxRecDepth 20000 in
theorem ggX10_takeLeg_X10_takeNumber : GoodIn wsX10_takeLeg wsX10_takeNumber := goodIn_r _ [19, 8, 9, 10, 11, 12, 6, 13, 14, 15, 20, 21, 22, 23, 24, 25, 26, 27, 28, 29, 30, 31, 32, 33, 34, 35, 36, 37, 38] (by decide +kernel) (by decide +kernel)
set_option maxRecDepth 20000 in
theorem gX10_takeLeg_X10_takeNumber : GoodIn wsX10_takeLeg (wsV RX10 210 RX10 yX10_takeNumber wsX10_takeNumber) := goodIn_app (goodIn_of _ (by decide +kernel)) ggX10_takeLeg_X10_takeNumber
theorem dX10_takeLeg_0 : decode cX10_takeLeg 0 = .ok (.iconst 3, 1) := by decide +kernel
theorem dX10_takeLeg_1 : decode cX10_takeLeg 1 = .ok (.aload_n 0, 1) := by decide +kernel
theorem dX10_takeLeg_2 : decode cX10_takeLeg 2 = .ok (.getfield 204, 3) := by decide +kernel
theorem dX10_takeLeg_5 : decode cX10_takeLeg 5 = .ok (.imul, 1) := by decide +kernel
theorem dX10_takeLeg_6 : decode cX10_takeLeg 6 = .ok (.istore_n 1, 1) := by decide +kernel
theorem dX10_takeLeg_7 : decode cX10_takeLeg 7 = .ok (.aload_n 0, 1) := by decide +kernel
theorem dX10_takeLeg_8 : decode cX10_takeLeg 8 = .ok (.bipush 99, 2) := by decide +kernel
theorem dX10_takeLeg_10 : decode cX10_takeLeg 10 = .ok (.invokevirtual 207, 3) := by decide +kernel
theorem dX10_takeLeg_13 : decode cX10_takeLeg 13 = .ok (.aload_n 0, 1) := by decide +kernel
theorem dX10_takeLeg_14 : decode cX10_takeLeg 14 = .ok (.getfield 42, 3) := by decide +kernel
theorem dX10_takeLeg_17 : decode cX10_takeLeg 17 = .ok (.iload_n 1, 1) := by decide +kernel
theorem dX10_takeLeg_18 : decode cX10_takeLeg 18 = .ok (.bipush 100, 2) := by decide +kernel
theorem dX10_takeLeg_20 : decode cX10_takeLeg 20 = .ok (.aload_n 0, 1) := by decide +kernel
theorem dX10_takeLeg_21 : decode cX10_takeLeg 21 = .ok (.iconst 0, 1) := by decide +kernel
theorem dX10_takeLeg_22 : decode cX10_takeLeg 22 = .ok (.sipush 359, 3) := by decide +kernel
theorem dX10_takeLeg_25 : decode cX10_takeLeg 25 = .ok (.invokevirtual 210, 3) := by decide +kernel
theorem dX10_takeLeg_28 : decode cX10_takeLeg 28 = .ok (.imul, 1) := by decide +kernel
theorem dX10_takeLeg_29 : decode cX10_takeLeg 29 = .ok (.iastore, 1) := by decide +kernel
theorem dX10_takeLeg_30 : decode cX10_takeLeg 30 = .ok (.aload_n 0, 1) := by decide +kernel
theorem dX10_takeLeg_31 : decode cX10_takeLeg 31 = .ok (.bipush 118, 2) := by decide +kernel
theorem dX10_takeLeg_33 : decode cX10_takeLeg 33 = .ok (.invokevirtual 207, 3) := by decide +kernel
theorem dX10_takeLeg_36 : decode cX10_takeLeg 36 = .ok (.aload_n 0, 1) := by decide +kernel
theorem dX10_takeLeg_37 : decode cX10_takeLeg 37 = .ok (.getfield 42, 3) := by decide +kernel
theorem dX10_takeLeg_40 : decode cX10_takeLeg 40 = .ok (.iload_n 1, 1) := by decide +kernel
theorem dX10_takeLeg_41 : decode cX10_takeLeg 41 = .ok (.iconst 1, 1) := by decide +kernel
theorem dX10_takeLeg_42 : decode cX10_takeLeg 42 = .ok (.iadd, 1) := by decide +kernel
theorem dX10_takeLeg_43 : decode cX10_takeLeg 43 = .ok (.aload_n 0, 1) := by decide +kernel
theorem dX10_takeLeg_44 : decode cX10_takeLeg 44 = .ok (.iconst 0, 1) := by decide +kernel
theorem dX10_takeLeg_45 : decode cX10_takeLeg 45 = .ok (.sipush 400, 3) := by decide +kernel
theorem dX10_takeLeg_48 : decode cX10_takeLeg 48 = .ok (.invokevirtual 210, 3) := by decide +kernel
theorem dX10_takeLeg_51 : decode cX10_takeLeg 51 = .ok (.iastore, 1) := by decide +kernel
theorem dX10_takeLeg_52 : decode cX10_takeLeg 52 = .ok (.aload_n 0, 1) := by decide +kernel
theorem dX10_takeLeg_53 : decode cX10_takeLeg 53 = .ok (.bipush 109, 2) := by decide +kernel
theorem dX10_takeLeg_55 : decode cX10_takeLeg 55 = .ok (.invokevirtual 207, 3) := by decide +kernel
theorem dX10_takeLeg_58 : decode cX10_takeLeg 58 = .ok (.aload_n 0, 1) := by decide +kernel
theorem dX10_takeLeg_59 : decode cX10_takeLeg 59 = .ok (.getfield 42, 3) := by decide +kernel
theorem dX10_takeLeg_62 : decode cX10_takeLeg 62 = .ok (.iload_n 1, 1) := by decide +kernel
theorem dX10_takeLeg_63 : decode cX10_takeLeg 63 = .ok (.iconst 2, 1) := by decide +kernel
theorem dX10_takeLeg_64 : decode cX10_takeLeg 64 = .ok (.iadd, 1) := by decide +kernel
theorem dX10_takeLeg_65 : decode cX10_takeLeg 65 = .ok (.aload_n 0, 1) := by decide +kernel
theorem dX10_takeLeg_66 : decode cX10_takeLeg 66 = .ok (.iconst 1, 1) := by decide +kernel
theorem dX10_takeLeg_67 : decode cX10_takeLeg 67 = .ok (.sipush 600, 3) := by decide +kernel
theorem dX10_takeLeg_70 : decode cX10_takeLeg 70 = .ok (.invokevirtual 210, 3) := by decide +kernel
theorem dX10_takeLeg_73 : decode cX10_takeLeg 73 = .ok (.iastore, 1) := by decide +kernel
theorem dX10_takeLeg_74 : decode cX10_takeLeg 74 = .ok (.aload_n 0, 1) := by decide +kernel
theorem dX10_takeLeg_75 : decode cX10_takeLeg 75 = .ok (.dup, 1) := by decide +kernel
theorem dX10_takeLeg_76 : decode cX10_takeLeg 76 = .ok (.getfield 204, 3) := by decide +kernel
theorem dX10_takeLeg_79 : decode cX10_takeLeg 79 = .ok (.iconst 1, 1) := by decide +kernel
theorem dX10_takeLeg_80 : decode cX10_takeLeg 80 = .ok (.iadd, 1) := by decide +kernel
theorem dX10_takeLeg_81 : decode cX10_takeLeg 81 = .ok (.putfield 204, 3) := by decide +kernel
theorem dX10_takeLeg_84 : decode cX10_takeLeg 84 = .ok (.return_, 1) := by decide +kernel
set_option maxRecDepth 20000 in
theorem ggX10_fault_X10_takeLeg : GoodIn wsX10_fault wsX10_takeLeg := goodIn_r _ [9, 3, 10, 11, 12, 13, 8, 14, 2, 1, 15, 16, 17, 18, 4, 19, 20, 21, 22, 23, 24, 25, 26, 27, 28, 29, 30, 31, 32, 33, 34, 35, 36, 37, 38, 39, 40, 41, 42] (by decide +kernel) (by decide +kernel)
set_option maxRecDepth 20000 in
theorem gX10_fault_X10_takeLeg : GoodIn wsX10_fault (wsV RX10 214 RX10 yX10_takeLeg wsX10_takeLeg) := goodIn_app (goodIn_of _ (by decide +kernel)) ggX10_fault_X10_takeLeg
set_option maxRecDepth 20000 in
theorem ggX10_fault_X10_next : GoodIn wsX10_fault wsX10_next := goodIn_r _ [18, 1, 4, 19, 27, 28, 29, 30, 31, 32, 33, 34, 35, 36, 37, 38, 39, 40, 41, 42] (by decide +kernel) (by decide +kernel)
set_option maxRecDepth 20000 in
theorem gX10_fault_X10_next : GoodIn wsX10_fault (wsV RX10 201 RX10 yX10_next wsX10_next) := goodIn_app (goodIn_of _ (by decide +kernel)) ggX10_fault_X10_next
theorem dX10_fault_0 : decode cX10_fault 0 = .ok (.aload_n 0, 1) := by decide +kernel
theorem dX10_fault_1 : decode cX10_fault 1 = .ok (.iconst 0, 1) := by decide +kernel
theorem dX10_fault_2 : decode cX10_fault 2 = .ok (.putfield 194, 3) := by decide +kernel
theorem dX10_fault_5 : decode cX10_fault 5 = .ok (.aload_n 0, 1) := by decide +kernel
theorem dX10_fault_6 : decode cX10_fault 6 = .ok (.iconst 0, 1) := by decide +kernel
theorem dX10_fault_7 : decode cX10_fault 7 = .ok (.putfield 197, 3) := by decide +kernel
theorem dX10_fault_10 : decode cX10_fault 10 = .ok (.aload_n 0, 1) := by decide +kernel
theorem dX10_fault_11 : decode cX10_fault 11 = .ok (.iconst 0, 1) := by decide +kernel
theorem dX10_fault_12 : decode cX10_fault 12 = .ok (.putfield 204, 3) := by decide +kernel
theorem dX10_fault_15 : decode cX10_fault 15 = .ok (.aload_n 0, 1) := by decide +kernel
theorem dX10_fault_16 : decode cX10_fault 16 = .ok (.invokevirtual 214, 3) := by decide +kernel
theorem dX10_fault_19 : decode cX10_fault 19 = .ok (.aload_n 0, 1) := by decide +kernel
theorem dX10_fault_20 : decode cX10_fault 20 = .ok (.getfield 197, 3) := by decide +kernel
theorem dX10_fault_23 : decode cX10_fault 23 = .ok (.ifCond .ne 29, 3) := by decide +kernel
theorem dX10_fault_26 : decode cX10_fault 26 = .ok (.aload_n 0, 1) := by decide +kernel
theorem dX10_fault_27 : decode cX10_fault 27 = .ok (.invokevirtual 201, 3) := by decide +kernel
theorem dX10_fault_30 : decode cX10_fault 30 = .ok (.bipush 59, 2) := by decide +kernel
theorem dX10_fault_32 : decode cX10_fault 32 = .ok (.if_icmp .ne 20, 3) := by decide +kernel
theorem dX10_fault_35 : decode cX10_fault 35 = .ok (.aload_n 0, 1) := by decide +kernel
theorem dX10_fault_36 : decode cX10_fault 36 = .ok (.dup, 1) := by decide +kernel
theorem dX10_fault_37 : decode cX10_fault 37 = .ok (.getfield 194, 3) := by decide +kernel
theorem dX10_fault_40 : decode cX10_fault 40 = .ok (.iconst 1, 1) := by decide +kernel
theorem dX10_fault_41 : decode cX10_fault 41 = .ok (.iadd, 1) := by decide +kernel
theorem dX10_fault_42 : decode cX10_fault 42 = .ok (.putfield 194, 3) := by decide +kernel
theorem dX10_fault_45 : decode cX10_fault 45 = .ok (.aload_n 0, 1) := by decide +kernel
theorem dX10_fault_46 : decode cX10_fault 46 = .ok (.invokevirtual 214, 3) := by decide +kernel
theorem dX10_fault_49 : decode cX10_fault 49 = .ok (.goto (-30), 3) := by decide +kernel
theorem dX10_fault_52 : decode cX10_fault 52 = .ok (.aload_n 0, 1) := by decide +kernel
theorem dX10_fault_53 : decode cX10_fault 53 = .ok (.getfield 197, 3) := by decide +kernel
theorem dX10_fault_56 : decode cX10_fault 56 = .ok (.ifCond .ne 14, 3) := by decide +kernel
theorem dX10_fault_59 : decode cX10_fault 59 = .ok (.aload_n 0, 1) := by decide +kernel
theorem dX10_fault_60 : decode cX10_fault 60 = .ok (.getfield 194, 3) := by decide +kernel
theorem dX10_fault_63 : decode cX10_fault 63 = .ok (.aload_n 0, 1) := by decide +kernel
theorem dX10_fault_64 : decode cX10_fault 64 = .ok (.getfield 177, 3) := by decide +kernel
theorem dX10_fault_67 : decode cX10_fault 67 = .ok (.if_icmp .ge 10, 3) := by decide +kernel
theorem dX10_fault_70 : decode cX10_fault 70 = .ok (.aload_n 0, 1) := by decide +kernel
theorem dX10_fault_71 : decode cX10_fault 71 = .ok (.getfield 194, 3) := by decide +kernel
theorem dX10_fault_74 : decode cX10_fault 74 = .ok (.goto 5, 3) := by decide +kernel
theorem dX10_fault_77 : decode cX10_fault 77 = .ok (.bipush (-6), 2) := by decide +kernel
theorem dX10_fault_79 : decode cX10_fault 79 = .ok (.ireturn, 1) := by decide +kernel
set_option maxRecDepth 20000 in
theorem ggX10_load_X10_fault : GoodIn wsX10_load wsX10_fault := goodIn_r _ [9, 10, 11, 2, 4, 12, 13, 14, 8, 15, 3, 16, 17, 18, 19, 20, 21, 22, 23, 24, 25, 26, 27, 28, 29, 30, 31, 44, 45, 46, 47, 48, 49, 50, 51, 52, 53, 54, 55, 56, 57, 58, 59] (by decide +kernel) (by decide +kernel)
set_option maxRecDepth 20000 in
theorem gX10_load_X10_fault : GoodIn wsX10_load (wsV RX10 217 RX10 yX10_fault wsX10_fault) := goodIn_app (goodIn_of _ (by decide +kernel)) ggX10_load_X10_fault
set_option maxRecDepth 20000 in
theorem ggX10_load_X10_keep : GoodIn wsX10_load wsX10_keep := goodIn_r _ [35, 36, 37, 38, 1, 39, 44, 45, 46, 47, 48, 49, 50, 51, 52, 53, 54, 55, 56, 57, 58, 59] (by decide +kernel) (by decide +kernel)
set_option maxRecDepth 20000 in
theorem gX10_load_X10_keep : GoodIn wsX10_load (wsV RX10 105 RX10 yX10_keep wsX10_keep) := goodIn_app (goodIn_of _ (by decide +kernel)) ggX10_load_X10_keep
set_option maxRecDepth 20000 in
theorem ggX10_load_X10_addLeg : GoodIn wsX10_load wsX10_addLeg := goodIn_r _ [43, 1, 44, 45, 46, 47, 48, 49, 50, 51, 52, 53, 54, 55, 56, 57, 58, 59] (by decide +kernel) (by decide +kernel)
set_option maxRecDepth 20000 in
theorem gX10_load_X10_addLeg : GoodIn wsX10_load (wsV RX10 123 RX10 yX10_addLeg wsX10_addLeg) := goodIn_app (goodIn_of _ (by decide +kernel)) ggX10_load_X10_addLeg
theorem dX10_load_0 : decode cX10_load 0 = .ok (.aload_n 0, 1) := by decide +kernel
theorem dX10_load_1 : decode cX10_load 1 = .ok (.invokevirtual 217, 3) := by decide +kernel
theorem dX10_load_4 : decode cX10_load 4 = .ok (.bipush (-6), 2) := by decide +kernel
theorem dX10_load_6 : decode cX10_load 6 = .ok (.if_icmp .eq 6, 3) := by decide +kernel
theorem dX10_load_9 : decode cX10_load 9 = .ok (.bipush (-3), 2) := by decide +kernel
theorem dX10_load_11 : decode cX10_load 11 = .ok (.ireturn, 1) := by decide +kernel
theorem dX10_load_12 : decode cX10_load 12 = .ok (.aload_n 0, 1) := by decide +kernel
theorem dX10_load_13 : decode cX10_load 13 = .ok (.getfield 7, 3) := by decide +kernel
theorem dX10_load_16 : decode cX10_load 16 = .ok (.iconst 3, 1) := by decide +kernel
theorem dX10_load_17 : decode cX10_load 17 = .ok (.iaload, 1) := by decide +kernel
theorem dX10_load_18 : decode cX10_load 18 = .ok (.aload_n 0, 1) := by decide +kernel
theorem dX10_load_19 : decode cX10_load 19 = .ok (.getfield 204, 3) := by decide +kernel
theorem dX10_load_22 : decode cX10_load 22 = .ok (.iadd, 1) := by decide +kernel
theorem dX10_load_23 : decode cX10_load 23 = .ok (.bipush 8, 2) := by decide +kernel
theorem dX10_load_25 : decode cX10_load 25 = .ok (.if_icmp .le 6, 3) := by decide +kernel
theorem dX10_load_28 : decode cX10_load 28 = .ok (.bipush (-4), 2) := by decide +kernel
theorem dX10_load_30 : decode cX10_load 30 = .ok (.ireturn, 1) := by decide +kernel
theorem dX10_load_31 : decode cX10_load 31 = .ok (.aload_n 0, 1) := by decide +kernel
theorem dX10_load_32 : decode cX10_load 32 = .ok (.invokevirtual 105, 3) := by decide +kernel
theorem dX10_load_35 : decode cX10_load 35 = .ok (.iconst 0, 1) := by decide +kernel
theorem dX10_load_36 : decode cX10_load 36 = .ok (.istore_n 1, 1) := by decide +kernel
theorem dX10_load_37 : decode cX10_load 37 = .ok (.iload_n 1, 1) := by decide +kernel
theorem dX10_load_38 : decode cX10_load 38 = .ok (.aload_n 0, 1) := by decide +kernel
theorem dX10_load_39 : decode cX10_load 39 = .ok (.getfield 204, 3) := by decide +kernel
theorem dX10_load_42 : decode cX10_load 42 = .ok (.if_icmp .ge 41, 3) := by decide +kernel
theorem dX10_load_45 : decode cX10_load 45 = .ok (.aload_n 0, 1) := by decide +kernel
theorem dX10_load_46 : decode cX10_load 46 = .ok (.aload_n 0, 1) := by decide +kernel
theorem dX10_load_47 : decode cX10_load 47 = .ok (.getfield 42, 3) := by decide +kernel
theorem dX10_load_50 : decode cX10_load 50 = .ok (.iconst 3, 1) := by decide +kernel
theorem dX10_load_51 : decode cX10_load 51 = .ok (.iload_n 1, 1) := by decide +kernel
theorem dX10_load_52 : decode cX10_load 52 = .ok (.imul, 1) := by decide +kernel
theorem dX10_load_53 : decode cX10_load 53 = .ok (.iaload, 1) := by decide +kernel
theorem dX10_load_54 : decode cX10_load 54 = .ok (.aload_n 0, 1) := by decide +kernel
theorem dX10_load_55 : decode cX10_load 55 = .ok (.getfield 42, 3) := by decide +kernel
theorem dX10_load_58 : decode cX10_load 58 = .ok (.iconst 3, 1) := by decide +kernel
theorem dX10_load_59 : decode cX10_load 59 = .ok (.iload_n 1, 1) := by decide +kernel
theorem dX10_load_60 : decode cX10_load 60 = .ok (.imul, 1) := by decide +kernel
theorem dX10_load_61 : decode cX10_load 61 = .ok (.iconst 1, 1) := by decide +kernel
theorem dX10_load_62 : decode cX10_load 62 = .ok (.iadd, 1) := by decide +kernel
theorem dX10_load_63 : decode cX10_load 63 = .ok (.iaload, 1) := by decide +kernel
theorem dX10_load_64 : decode cX10_load 64 = .ok (.aload_n 0, 1) := by decide +kernel
theorem dX10_load_65 : decode cX10_load 65 = .ok (.getfield 42, 3) := by decide +kernel
theorem dX10_load_68 : decode cX10_load 68 = .ok (.iconst 3, 1) := by decide +kernel
theorem dX10_load_69 : decode cX10_load 69 = .ok (.iload_n 1, 1) := by decide +kernel
theorem dX10_load_70 : decode cX10_load 70 = .ok (.imul, 1) := by decide +kernel
theorem dX10_load_71 : decode cX10_load 71 = .ok (.iconst 2, 1) := by decide +kernel
theorem dX10_load_72 : decode cX10_load 72 = .ok (.iadd, 1) := by decide +kernel
theorem dX10_load_73 : decode cX10_load 73 = .ok (.iaload, 1) := by decide +kernel
theorem dX10_load_74 : decode cX10_load 74 = .ok (.invokevirtual 123, 3) := by decide +kernel
theorem dX10_load_77 : decode cX10_load 77 = .ok (.iinc 1 1, 3) := by decide +kernel
theorem dX10_load_80 : decode cX10_load 80 = .ok (.goto (-43), 3) := by decide +kernel
theorem dX10_load_83 : decode cX10_load 83 = .ok (.aload_n 0, 1) := by decide +kernel
theorem dX10_load_84 : decode cX10_load 84 = .ok (.iconst 0, 1) := by decide +kernel
theorem dX10_load_85 : decode cX10_load 85 = .ok (.putfield 177, 3) := by decide +kernel
theorem dX10_load_88 : decode cX10_load 88 = .ok (.aload_n 0, 1) := by decide +kernel
theorem dX10_load_89 : decode cX10_load 89 = .ok (.getfield 7, 3) := by decide +kernel
theorem dX10_load_92 : decode cX10_load 92 = .ok (.iconst 3, 1) := by decide +kernel
theorem dX10_load_93 : decode cX10_load 93 = .ok (.iaload, 1) := by decide +kernel
theorem dX10_load_94 : decode cX10_load 94 = .ok (.ireturn, 1) := by decide +kernel
theorem dX10_undo_0 : decode cX10_undo 0 = .ok (.aload_n 0, 1) := by decide +kernel
theorem dX10_undo_1 : decode cX10_undo 1 = .ok (.getfield 45, 3) := by decide +kernel
theorem dX10_undo_4 : decode cX10_undo 4 = .ok (.ifCond .ne 6, 3) := by decide +kernel
theorem dX10_undo_7 : decode cX10_undo 7 = .ok (.bipush (-5), 2) := by decide +kernel
theorem dX10_undo_9 : decode cX10_undo 9 = .ok (.ireturn, 1) := by decide +kernel
theorem dX10_undo_10 : decode cX10_undo 10 = .ok (.aload_n 0, 1) := by decide +kernel
theorem dX10_undo_11 : decode cX10_undo 11 = .ok (.dup, 1) := by decide +kernel
theorem dX10_undo_12 : decode cX10_undo 12 = .ok (.getfield 45, 3) := by decide +kernel
theorem dX10_undo_15 : decode cX10_undo 15 = .ok (.iconst 1, 1) := by decide +kernel
theorem dX10_undo_16 : decode cX10_undo 16 = .ok (.isub, 1) := by decide +kernel
theorem dX10_undo_17 : decode cX10_undo 17 = .ok (.putfield 45, 3) := by decide +kernel
theorem dX10_undo_20 : decode cX10_undo 20 = .ok (.iconst 0, 1) := by decide +kernel
theorem dX10_undo_21 : decode cX10_undo 21 = .ok (.istore_n 1, 1) := by decide +kernel
theorem dX10_undo_22 : decode cX10_undo 22 = .ok (.iload_n 1, 1) := by decide +kernel
theorem dX10_undo_23 : decode cX10_undo 23 = .ok (.bipush 85, 2) := by decide +kernel
theorem dX10_undo_25 : decode cX10_undo 25 = .ok (.if_icmp .ge 29, 3) := by decide +kernel
theorem dX10_undo_28 : decode cX10_undo 28 = .ok (.aload_n 0, 1) := by decide +kernel
theorem dX10_undo_29 : decode cX10_undo 29 = .ok (.getfield 7, 3) := by decide +kernel
theorem dX10_undo_32 : decode cX10_undo 32 = .ok (.iload_n 1, 1) := by decide +kernel
theorem dX10_undo_33 : decode cX10_undo 33 = .ok (.aload_n 0, 1) := by decide +kernel
theorem dX10_undo_34 : decode cX10_undo 34 = .ok (.getfield 23, 3) := by decide +kernel
theorem dX10_undo_37 : decode cX10_undo 37 = .ok (.bipush 85, 2) := by decide +kernel
theorem dX10_undo_39 : decode cX10_undo 39 = .ok (.aload_n 0, 1) := by decide +kernel
theorem dX10_undo_40 : decode cX10_undo 40 = .ok (.getfield 45, 3) := by decide +kernel
theorem dX10_undo_43 : decode cX10_undo 43 = .ok (.imul, 1) := by decide +kernel
theorem dX10_undo_44 : decode cX10_undo 44 = .ok (.iload_n 1, 1) := by decide +kernel
theorem dX10_undo_45 : decode cX10_undo 45 = .ok (.iadd, 1) := by decide +kernel
theorem dX10_undo_46 : decode cX10_undo 46 = .ok (.iaload, 1) := by decide +kernel
theorem dX10_undo_47 : decode cX10_undo 47 = .ok (.iastore, 1) := by decide +kernel
theorem dX10_undo_48 : decode cX10_undo 48 = .ok (.iinc 1 1, 3) := by decide +kernel
theorem dX10_undo_51 : decode cX10_undo 51 = .ok (.goto (-29), 3) := by decide +kernel
theorem dX10_undo_54 : decode cX10_undo 54 = .ok (.iconst 0, 1) := by decide +kernel
theorem dX10_undo_55 : decode cX10_undo 55 = .ok (.istore_n 1, 1) := by decide +kernel
theorem dX10_undo_56 : decode cX10_undo 56 = .ok (.iload_n 1, 1) := by decide +kernel
theorem dX10_undo_57 : decode cX10_undo 57 = .ok (.bipush 9, 2) := by decide +kernel
theorem dX10_undo_59 : decode cX10_undo 59 = .ok (.if_icmp .ge 29, 3) := by decide +kernel
theorem dX10_undo_62 : decode cX10_undo 62 = .ok (.aload_n 0, 1) := by decide +kernel
theorem dX10_undo_63 : decode cX10_undo 63 = .ok (.getfield 13, 3) := by decide +kernel
theorem dX10_undo_66 : decode cX10_undo 66 = .ok (.iload_n 1, 1) := by decide +kernel
theorem dX10_undo_67 : decode cX10_undo 67 = .ok (.aload_n 0, 1) := by decide +kernel
theorem dX10_undo_68 : decode cX10_undo 68 = .ok (.getfield 26, 3) := by decide +kernel
theorem dX10_undo_71 : decode cX10_undo 71 = .ok (.bipush 9, 2) := by decide +kernel
theorem dX10_undo_73 : decode cX10_undo 73 = .ok (.aload_n 0, 1) := by decide +kernel
theorem dX10_undo_74 : decode cX10_undo 74 = .ok (.getfield 45, 3) := by decide +kernel
theorem dX10_undo_77 : decode cX10_undo 77 = .ok (.imul, 1) := by decide +kernel
theorem dX10_undo_78 : decode cX10_undo 78 = .ok (.iload_n 1, 1) := by decide +kernel
theorem dX10_undo_79 : decode cX10_undo 79 = .ok (.iadd, 1) := by decide +kernel
theorem dX10_undo_80 : decode cX10_undo 80 = .ok (.laload, 1) := by decide +kernel
theorem dX10_undo_81 : decode cX10_undo 81 = .ok (.lastore, 1) := by decide +kernel
theorem dX10_undo_82 : decode cX10_undo 82 = .ok (.iinc 1 1, 3) := by decide +kernel
theorem dX10_undo_85 : decode cX10_undo 85 = .ok (.goto (-29), 3) := by decide +kernel
theorem dX10_undo_88 : decode cX10_undo 88 = .ok (.aload_n 0, 1) := by decide +kernel
theorem dX10_undo_89 : decode cX10_undo 89 = .ok (.getfield 45, 3) := by decide +kernel
theorem dX10_undo_92 : decode cX10_undo 92 = .ok (.ireturn, 1) := by decide +kernel
set_option maxRecDepth 20000 in
theorem ggX10_save_X10_in : GoodIn wsX10_save wsX10_in := goodIn_r _ [9] (by decide +kernel) (by decide +kernel)
set_option maxRecDepth 20000 in
theorem gX10_save_X10_in : GoodIn wsX10_save (va_wsS RX10 94 yX10_in wsX10_in) := goodIn_app (goodIn_of _ (by decide +kernel)) ggX10_save_X10_in
theorem dX10_save_0 : decode cX10_save 0 = .ok (.iload_n 1, 1) := by decide +kernel
theorem dX10_save_1 : decode cX10_save 1 = .ok (.iconst 0, 1) := by decide +kernel
theorem dX10_save_2 : decode cX10_save 2 = .ok (.iconst 1, 1) := by decide +kernel
theorem dX10_save_3 : decode cX10_save 3 = .ok (.invokestatic 94, 3) := by decide +kernel
theorem dX10_save_6 : decode cX10_save 6 = .ok (.ifCond .ne 6, 3) := by decide +kernel
theorem dX10_save_9 : decode cX10_save 9 = .ok (.bipush (-2), 2) := by decide +kernel
theorem dX10_save_11 : decode cX10_save 11 = .ok (.ireturn, 1) := by decide +kernel
theorem dX10_save_12 : decode cX10_save 12 = .ok (.iconst 0, 1) := by decide +kernel
theorem dX10_save_13 : decode cX10_save 13 = .ok (.istore_n 2, 1) := by decide +kernel
theorem dX10_save_14 : decode cX10_save 14 = .ok (.iload_n 2, 1) := by decide +kernel
theorem dX10_save_15 : decode cX10_save 15 = .ok (.bipush 85, 2) := by decide +kernel
theorem dX10_save_17 : decode cX10_save 17 = .ok (.if_icmp .ge 26, 3) := by decide +kernel
theorem dX10_save_20 : decode cX10_save 20 = .ok (.aload_n 0, 1) := by decide +kernel
theorem dX10_save_21 : decode cX10_save 21 = .ok (.getfield 29, 3) := by decide +kernel
theorem dX10_save_24 : decode cX10_save 24 = .ok (.bipush 85, 2) := by decide +kernel
theorem dX10_save_26 : decode cX10_save 26 = .ok (.iload_n 1, 1) := by decide +kernel
theorem dX10_save_27 : decode cX10_save 27 = .ok (.imul, 1) := by decide +kernel
theorem dX10_save_28 : decode cX10_save 28 = .ok (.iload_n 2, 1) := by decide +kernel
theorem dX10_save_29 : decode cX10_save 29 = .ok (.iadd, 1) := by decide +kernel
theorem dX10_save_30 : decode cX10_save 30 = .ok (.aload_n 0, 1) := by decide +kernel
theorem dX10_save_31 : decode cX10_save 31 = .ok (.getfield 7, 3) := by decide +kernel
theorem dX10_save_34 : decode cX10_save 34 = .ok (.iload_n 2, 1) := by decide +kernel
theorem dX10_save_35 : decode cX10_save 35 = .ok (.iaload, 1) := by decide +kernel
theorem dX10_save_36 : decode cX10_save 36 = .ok (.iastore, 1) := by decide +kernel
theorem dX10_save_37 : decode cX10_save 37 = .ok (.iinc 2 1, 3) := by decide +kernel
theorem dX10_save_40 : decode cX10_save 40 = .ok (.goto (-26), 3) := by decide +kernel
theorem dX10_save_43 : decode cX10_save 43 = .ok (.iconst 0, 1) := by decide +kernel
theorem dX10_save_44 : decode cX10_save 44 = .ok (.istore_n 2, 1) := by decide +kernel
theorem dX10_save_45 : decode cX10_save 45 = .ok (.iload_n 2, 1) := by decide +kernel
theorem dX10_save_46 : decode cX10_save 46 = .ok (.bipush 9, 2) := by decide +kernel
theorem dX10_save_48 : decode cX10_save 48 = .ok (.if_icmp .ge 26, 3) := by decide +kernel
theorem dX10_save_51 : decode cX10_save 51 = .ok (.aload_n 0, 1) := by decide +kernel
theorem dX10_save_52 : decode cX10_save 52 = .ok (.getfield 32, 3) := by decide +kernel
theorem dX10_save_55 : decode cX10_save 55 = .ok (.bipush 9, 2) := by decide +kernel
theorem dX10_save_57 : decode cX10_save 57 = .ok (.iload_n 1, 1) := by decide +kernel
theorem dX10_save_58 : decode cX10_save 58 = .ok (.imul, 1) := by decide +kernel
theorem dX10_save_59 : decode cX10_save 59 = .ok (.iload_n 2, 1) := by decide +kernel
theorem dX10_save_60 : decode cX10_save 60 = .ok (.iadd, 1) := by decide +kernel
theorem dX10_save_61 : decode cX10_save 61 = .ok (.aload_n 0, 1) := by decide +kernel
theorem dX10_save_62 : decode cX10_save 62 = .ok (.getfield 13, 3) := by decide +kernel
theorem dX10_save_65 : decode cX10_save 65 = .ok (.iload_n 2, 1) := by decide +kernel
theorem dX10_save_66 : decode cX10_save 66 = .ok (.laload, 1) := by decide +kernel
theorem dX10_save_67 : decode cX10_save 67 = .ok (.lastore, 1) := by decide +kernel
theorem dX10_save_68 : decode cX10_save 68 = .ok (.iinc 2 1, 3) := by decide +kernel
theorem dX10_save_71 : decode cX10_save 71 = .ok (.goto (-26), 3) := by decide +kernel
theorem dX10_save_74 : decode cX10_save 74 = .ok (.aload_n 0, 1) := by decide +kernel
theorem dX10_save_75 : decode cX10_save 75 = .ok (.getfield 35, 3) := by decide +kernel
theorem dX10_save_78 : decode cX10_save 78 = .ok (.iload_n 1, 1) := by decide +kernel
theorem dX10_save_79 : decode cX10_save 79 = .ok (.iconst 1, 1) := by decide +kernel
theorem dX10_save_80 : decode cX10_save 80 = .ok (.bastore, 1) := by decide +kernel
theorem dX10_save_81 : decode cX10_save 81 = .ok (.aload_n 0, 1) := by decide +kernel
theorem dX10_save_82 : decode cX10_save 82 = .ok (.getfield 7, 3) := by decide +kernel
theorem dX10_save_85 : decode cX10_save 85 = .ok (.bipush 10, 2) := by decide +kernel
theorem dX10_save_87 : decode cX10_save 87 = .ok (.iaload, 1) := by decide +kernel
theorem dX10_save_88 : decode cX10_save 88 = .ok (.ireturn, 1) := by decide +kernel
set_option maxRecDepth 20000 in
theorem ggX10_restore_X10_in : GoodIn wsX10_restore wsX10_in := goodIn_r _ [9] (by decide +kernel) (by decide +kernel)
set_option maxRecDepth 20000 in
theorem gX10_restore_X10_in : GoodIn wsX10_restore (va_wsS RX10 94 yX10_in wsX10_in) := goodIn_app (goodIn_of _ (by decide +kernel)) ggX10_restore_X10_in
set_option maxRecDepth 20000 in
theorem ggX10_restore_X10_keep : GoodIn wsX10_restore wsX10_keep := goodIn_r _ [13, 14, 15, 16, 2, 4, 17, 18, 19, 20, 21, 22, 23, 24, 25, 26, 27, 28, 29, 30, 31, 32] (by decide +kernel) (by decide +kernel)
set_option maxRecDepth 20000 in
theorem gX10_restore_X10_keep : GoodIn wsX10_restore (wsV RX10 105 RX10 yX10_keep wsX10_keep) := goodIn_app (goodIn_of _ (by decide +kernel)) ggX10_restore_X10_keep
theorem dX10_restore_0 : decode cX10_restore 0 = .ok (.iload_n 1, 1) := by decide +kernel
theorem dX10_restore_1 : decode cX10_restore 1 = .ok (.iconst 0, 1) := by decide +kernel
theorem dX10_restore_2 : decode cX10_restore 2 = .ok (.iconst 1, 1) := by decide +kernel
theorem dX10_restore_3 : decode cX10_restore 3 = .ok (.invokestatic 94, 3) := by decide +kernel
theorem dX10_restore_6 : decode cX10_restore 6 = .ok (.ifCond .ne 6, 3) := by decide +kernel
theorem dX10_restore_9 : decode cX10_restore 9 = .ok (.bipush (-2), 2) := by decide +kernel
theorem dX10_restore_11 : decode cX10_restore 11 = .ok (.ireturn, 1) := by decide +kernel
theorem dX10_restore_12 : decode cX10_restore 12 = .ok (.aload_n 0, 1) := by decide +kernel
theorem dX10_restore_13 : decode cX10_restore 13 = .ok (.getfield 35, 3) := by decide +kernel
theorem dX10_restore_16 : decode cX10_restore 16 = .ok (.iload_n 1, 1) := by decide +kernel
theorem dX10_restore_17 : decode cX10_restore 17 = .ok (.baload, 1) := by decide +kernel
theorem dX10_restore_18 : decode cX10_restore 18 = .ok (.ifCond .ne 6, 3) := by decide +kernel
theorem dX10_restore_21 : decode cX10_restore 21 = .ok (.bipush (-5), 2) := by decide +kernel
theorem dX10_restore_23 : decode cX10_restore 23 = .ok (.ireturn, 1) := by decide +kernel
theorem dX10_restore_24 : decode cX10_restore 24 = .ok (.aload_n 0, 1) := by decide +kernel
theorem dX10_restore_25 : decode cX10_restore 25 = .ok (.invokevirtual 105, 3) := by decide +kernel
theorem dX10_restore_28 : decode cX10_restore 28 = .ok (.iconst 0, 1) := by decide +kernel
theorem dX10_restore_29 : decode cX10_restore 29 = .ok (.istore_n 2, 1) := by decide +kernel
theorem dX10_restore_30 : decode cX10_restore 30 = .ok (.iload_n 2, 1) := by decide +kernel
theorem dX10_restore_31 : decode cX10_restore 31 = .ok (.bipush 85, 2) := by decide +kernel
theorem dX10_restore_33 : decode cX10_restore 33 = .ok (.if_icmp .ge 26, 3) := by decide +kernel
theorem dX10_restore_36 : decode cX10_restore 36 = .ok (.aload_n 0, 1) := by decide +kernel
theorem dX10_restore_37 : decode cX10_restore 37 = .ok (.getfield 7, 3) := by decide +kernel
theorem dX10_restore_40 : decode cX10_restore 40 = .ok (.iload_n 2, 1) := by decide +kernel
theorem dX10_restore_41 : decode cX10_restore 41 = .ok (.aload_n 0, 1) := by decide +kernel
theorem dX10_restore_42 : decode cX10_restore 42 = .ok (.getfield 29, 3) := by decide +kernel
theorem dX10_restore_45 : decode cX10_restore 45 = .ok (.bipush 85, 2) := by decide +kernel
theorem dX10_restore_47 : decode cX10_restore 47 = .ok (.iload_n 1, 1) := by decide +kernel
theorem dX10_restore_48 : decode cX10_restore 48 = .ok (.imul, 1) := by decide +kernel
theorem dX10_restore_49 : decode cX10_restore 49 = .ok (.iload_n 2, 1) := by decide +kernel
theorem dX10_restore_50 : decode cX10_restore 50 = .ok (.iadd, 1) := by decide +kernel
theorem dX10_restore_51 : decode cX10_restore 51 = .ok (.iaload, 1) := by decide +kernel
theorem dX10_restore_52 : decode cX10_restore 52 = .ok (.iastore, 1) := by decide +kernel
theorem dX10_restore_53 : decode cX10_restore 53 = .ok (.iinc 2 1, 3) := by decide +kernel
theorem dX10_restore_56 : decode cX10_restore 56 = .ok (.goto (-26), 3) := by decide +kernel
theorem dX10_restore_59 : decode cX10_restore 59 = .ok (.iconst 0, 1) := by decide +kernel
theorem dX10_restore_60 : decode cX10_restore 60 = .ok (.istore_n 2, 1) := by decide +kernel
theorem dX10_restore_61 : decode cX10_restore 61 = .ok (.iload_n 2, 1) := by decide +kernel
theorem dX10_restore_62 : decode cX10_restore 62 = .ok (.bipush 9, 2) := by decide +kernel
theorem dX10_restore_64 : decode cX10_restore 64 = .ok (.if_icmp .ge 26, 3) := by decide +kernel
theorem dX10_restore_67 : decode cX10_restore 67 = .ok (.aload_n 0, 1) := by decide +kernel
theorem dX10_restore_68 : decode cX10_restore 68 = .ok (.getfield 13, 3) := by decide +kernel
theorem dX10_restore_71 : decode cX10_restore 71 = .ok (.iload_n 2, 1) := by decide +kernel
theorem dX10_restore_72 : decode cX10_restore 72 = .ok (.aload_n 0, 1) := by decide +kernel
theorem dX10_restore_73 : decode cX10_restore 73 = .ok (.getfield 32, 3) := by decide +kernel
theorem dX10_restore_76 : decode cX10_restore 76 = .ok (.bipush 9, 2) := by decide +kernel
theorem dX10_restore_78 : decode cX10_restore 78 = .ok (.iload_n 1, 1) := by decide +kernel
theorem dX10_restore_79 : decode cX10_restore 79 = .ok (.imul, 1) := by decide +kernel
theorem dX10_restore_80 : decode cX10_restore 80 = .ok (.iload_n 2, 1) := by decide +kernel
theorem dX10_restore_81 : decode cX10_restore 81 = .ok (.iadd, 1) := by decide +kernel
theorem dX10_restore_82 : decode cX10_restore 82 = .ok (.laload, 1) := by decide +kernel
theorem dX10_restore_83 : decode cX10_restore 83 = .ok (.lastore, 1) := by decide +kernel
theorem dX10_restore_84 : decode cX10_restore 84 = .ok (.iinc 2 1, 3) := by decide +kernel
theorem dX10_restore_87 : decode cX10_restore 87 = .ok (.goto (-26), 3) := by decide +kernel
theorem dX10_restore_90 : decode cX10_restore 90 = .ok (.aload_n 0, 1) := by decide +kernel
theorem dX10_restore_91 : decode cX10_restore 91 = .ok (.getfield 7, 3) := by decide +kernel
theorem dX10_restore_94 : decode cX10_restore 94 = .ok (.bipush 10, 2) := by decide +kernel
theorem dX10_restore_96 : decode cX10_restore 96 = .ok (.iaload, 1) := by decide +kernel
theorem dX10_restore_97 : decode cX10_restore 97 = .ok (.ireturn, 1) := by decide +kernel
theorem dJ9_floorMod_f86c9_0 : decode cJ9_floorMod_f86c9 0 = .ok (.lload_n 0, 1) := by decide +kernel
theorem dJ9_floorMod_f86c9_1 : decode cJ9_floorMod_f86c9 1 = .ok (.lload_n 2, 1) := by decide +kernel
theorem dJ9_floorMod_f86c9_2 : decode cJ9_floorMod_f86c9 2 = .ok (.lrem, 1) := by decide +kernel
theorem dJ9_floorMod_f86c9_3 : decode cJ9_floorMod_f86c9 3 = .ok (.lstore 4, 2) := by decide +kernel
theorem dJ9_floorMod_f86c9_5 : decode cJ9_floorMod_f86c9 5 = .ok (.lload_n 0, 1) := by decide +kernel
theorem dJ9_floorMod_f86c9_6 : decode cJ9_floorMod_f86c9 6 = .ok (.lload_n 2, 1) := by decide +kernel
theorem dJ9_floorMod_f86c9_7 : decode cJ9_floorMod_f86c9 7 = .ok (.lxor, 1) := by decide +kernel
theorem dJ9_floorMod_f86c9_8 : decode cJ9_floorMod_f86c9 8 = .ok (.lconst 0, 1) := by decide +kernel
theorem dJ9_floorMod_f86c9_9 : decode cJ9_floorMod_f86c9 9 = .ok (.lcmp, 1) := by decide +kernel
theorem dJ9_floorMod_f86c9_10 : decode cJ9_floorMod_f86c9 10 = .ok (.ifCond .ge 15, 3) := by decide +kernel
theorem dJ9_floorMod_f86c9_13 : decode cJ9_floorMod_f86c9 13 = .ok (.lload 4, 2) := by decide +kernel
theorem dJ9_floorMod_f86c9_15 : decode cJ9_floorMod_f86c9 15 = .ok (.lconst 0, 1) := by decide +kernel
theorem dJ9_floorMod_f86c9_16 : decode cJ9_floorMod_f86c9 16 = .ok (.lcmp, 1) := by decide +kernel
theorem dJ9_floorMod_f86c9_17 : decode cJ9_floorMod_f86c9 17 = .ok (.ifCond .eq 8, 3) := by decide +kernel
theorem dJ9_floorMod_f86c9_20 : decode cJ9_floorMod_f86c9 20 = .ok (.lload 4, 2) := by decide +kernel
theorem dJ9_floorMod_f86c9_22 : decode cJ9_floorMod_f86c9 22 = .ok (.lload_n 2, 1) := by decide +kernel
theorem dJ9_floorMod_f86c9_23 : decode cJ9_floorMod_f86c9 23 = .ok (.ladd, 1) := by decide +kernel
theorem dJ9_floorMod_f86c9_24 : decode cJ9_floorMod_f86c9 24 = .ok (.lreturn, 1) := by decide +kernel
theorem dJ9_floorMod_f86c9_25 : decode cJ9_floorMod_f86c9 25 = .ok (.lload 4, 2) := by decide +kernel
theorem dJ9_floorMod_f86c9_27 : decode cJ9_floorMod_f86c9 27 = .ok (.lreturn, 1) := by decide +kernel
theorem dJ9_abs_067f4_0 : decode cJ9_abs_067f4 0 = .ok (.lload_n 0, 1) := by decide +kernel
theorem dJ9_abs_067f4_1 : decode cJ9_abs_067f4 1 = .ok (.lconst 0, 1) := by decide +kernel
theorem dJ9_abs_067f4_2 : decode cJ9_abs_067f4 2 = .ok (.lcmp, 1) := by decide +kernel
theorem dJ9_abs_067f4_3 : decode cJ9_abs_067f4 3 = .ok (.ifCond .ge 8, 3) := by decide +kernel
theorem dJ9_abs_067f4_6 : decode cJ9_abs_067f4 6 = .ok (.lload_n 0, 1) := by decide +kernel
theorem dJ9_abs_067f4_7 : decode cJ9_abs_067f4 7 = .ok (.lneg, 1) := by decide +kernel
theorem dJ9_abs_067f4_8 : decode cJ9_abs_067f4 8 = .ok (.goto 4, 3) := by decide +kernel
theorem dJ9_abs_067f4_11 : decode cJ9_abs_067f4 11 = .ok (.lload_n 0, 1) := by decide +kernel
theorem dJ9_abs_067f4_12 : decode cJ9_abs_067f4 12 = .ok (.lreturn, 1) := by decide +kernel
theorem dJ9_max_7cf53_0 : decode cJ9_max_7cf53 0 = .ok (.iload_n 0, 1) := by decide +kernel
theorem dJ9_max_7cf53_1 : decode cJ9_max_7cf53 1 = .ok (.iload_n 1, 1) := by decide +kernel
theorem dJ9_max_7cf53_2 : decode cJ9_max_7cf53 2 = .ok (.if_icmp .lt 7, 3) := by decide +kernel
theorem dJ9_max_7cf53_5 : decode cJ9_max_7cf53 5 = .ok (.iload_n 0, 1) := by decide +kernel
theorem dJ9_max_7cf53_6 : decode cJ9_max_7cf53 6 = .ok (.goto 4, 3) := by decide +kernel
theorem dJ9_max_7cf53_9 : decode cJ9_max_7cf53 9 = .ok (.iload_n 1, 1) := by decide +kernel
theorem dJ9_max_7cf53_10 : decode cJ9_max_7cf53 10 = .ok (.ireturn, 1) := by decide +kernel
theorem dJ9_max_f86c9_0 : decode cJ9_max_f86c9 0 = .ok (.lload_n 0, 1) := by decide +kernel
theorem dJ9_max_f86c9_1 : decode cJ9_max_f86c9 1 = .ok (.lload_n 2, 1) := by decide +kernel
theorem dJ9_max_f86c9_2 : decode cJ9_max_f86c9 2 = .ok (.lcmp, 1) := by decide +kernel
theorem dJ9_max_f86c9_3 : decode cJ9_max_f86c9 3 = .ok (.ifCond .lt 7, 3) := by decide +kernel
theorem dJ9_max_f86c9_6 : decode cJ9_max_f86c9 6 = .ok (.lload_n 0, 1) := by decide +kernel
theorem dJ9_max_f86c9_7 : decode cJ9_max_f86c9 7 = .ok (.goto 4, 3) := by decide +kernel
theorem dJ9_max_f86c9_10 : decode cJ9_max_f86c9 10 = .ok (.lload_n 2, 1) := by decide +kernel
theorem dJ9_max_f86c9_11 : decode cJ9_max_f86c9 11 = .ok (.lreturn, 1) := by decide +kernel
theorem dJ9_min_7cf53_0 : decode cJ9_min_7cf53 0 = .ok (.iload_n 0, 1) := by decide +kernel
theorem dJ9_min_7cf53_1 : decode cJ9_min_7cf53 1 = .ok (.iload_n 1, 1) := by decide +kernel
theorem dJ9_min_7cf53_2 : decode cJ9_min_7cf53 2 = .ok (.if_icmp .gt 7, 3) := by decide +kernel
theorem dJ9_min_7cf53_5 : decode cJ9_min_7cf53 5 = .ok (.iload_n 0, 1) := by decide +kernel
theorem dJ9_min_7cf53_6 : decode cJ9_min_7cf53 6 = .ok (.goto 4, 3) := by decide +kernel
theorem dJ9_min_7cf53_9 : decode cJ9_min_7cf53 9 = .ok (.iload_n 1, 1) := by decide +kernel
theorem dJ9_min_7cf53_10 : decode cJ9_min_7cf53 10 = .ok (.ireturn, 1) := by decide +kernel
theorem dJ9_min_f86c9_0 : decode cJ9_min_f86c9 0 = .ok (.lload_n 0, 1) := by decide +kernel
theorem dJ9_min_f86c9_1 : decode cJ9_min_f86c9 1 = .ok (.lload_n 2, 1) := by decide +kernel
theorem dJ9_min_f86c9_2 : decode cJ9_min_f86c9 2 = .ok (.lcmp, 1) := by decide +kernel
theorem dJ9_min_f86c9_3 : decode cJ9_min_f86c9 3 = .ok (.ifCond .gt 7, 3) := by decide +kernel
theorem dJ9_min_f86c9_6 : decode cJ9_min_f86c9 6 = .ok (.lload_n 0, 1) := by decide +kernel
theorem dJ9_min_f86c9_7 : decode cJ9_min_f86c9 7 = .ok (.goto 4, 3) := by decide +kernel
theorem dJ9_min_f86c9_10 : decode cJ9_min_f86c9 10 = .ok (.lload_n 2, 1) := by decide +kernel
theorem dJ9_min_f86c9_11 : decode cJ9_min_f86c9 11 = .ok (.lreturn, 1) := by decide +kernel
