theorem dX0_init_0 : decode cX0_init 0 = .ok (.aload_n 0, 1) := by decide +kernel
theorem dX0_init_1 : decode cX0_init 1 = .ok (.invokespecial 3, 3) := by decide +kernel
theorem dX0_init_4 : decode cX0_init 4 = .ok (.aload_n 0, 1) := by decide +kernel
theorem dX0_init_5 : decode cX0_init 5 = .ok (.iconst 5, 1) := by decide +kernel
theorem dX0_init_6 : decode cX0_init 6 = .ok (.newarray .long, 2) := by decide +kernel
theorem dX0_init_8 : decode cX0_init 8 = .ok (.putfield 9, 3) := by decide +kernel
theorem dX0_init_11 : decode cX0_init 11 = .ok (.aload_n 0, 1) := by decide +kernel
theorem dX0_init_12 : decode cX0_init 12 = .ok (.iconst 2, 1) := by decide +kernel
theorem dX0_init_13 : decode cX0_init 13 = .ok (.putfield 15, 3) := by decide +kernel
theorem dX0_init_16 : decode cX0_init 16 = .ok (.aload_n 0, 1) := by decide +kernel
theorem dX0_init_17 : decode cX0_init 17 = .ok (.ldc2_w 19, 3) := by decide +kernel
theorem dX0_init_20 : decode cX0_init 20 = .ok (.putfield 21, 3) := by decide +kernel
theorem dX0_init_23 : decode cX0_init 23 = .ok (.return_, 1) := by decide +kernel
set_option maxRecDepth 20000 in
theorem ggX0_copyFrom_X9_copy : GoodIn wsX0_copyFrom wsX9_copy := goodIn_r _ [10] (by decide +kernel) (by decide +kernel)
set_option maxRecDepth 20000 in
theorem gX0_copyFrom_X9_copy_n25 : GoodIn wsX0_copyFrom (wsX9_copy) := ggX0_copyFrom_X9_copy
theorem dX0_copyFrom_0 : decode cX0_copyFrom 0 = .ok (.aload_n 1, 1) := by decide +kernel
theorem dX0_copyFrom_1 : decode cX0_copyFrom 1 = .ok (.getfield 9, 3) := by decide +kernel
theorem dX0_copyFrom_4 : decode cX0_copyFrom 4 = .ok (.aload_n 0, 1) := by decide +kernel
theorem dX0_copyFrom_5 : decode cX0_copyFrom 5 = .ok (.getfield 9, 3) := by decide +kernel
theorem dX0_copyFrom_8 : decode cX0_copyFrom 8 = .ok (.invokestatic 25, 3) := by decide +kernel
theorem dX0_copyFrom_11 : decode cX0_copyFrom 11 = .ok (.aload_n 0, 1) := by decide +kernel
theorem dX0_copyFrom_12 : decode cX0_copyFrom 12 = .ok (.aload_n 1, 1) := by decide +kernel
theorem dX0_copyFrom_13 : decode cX0_copyFrom 13 = .ok (.getfield 29, 3) := by decide +kernel
theorem dX0_copyFrom_16 : decode cX0_copyFrom 16 = .ok (.putfield 29, 3) := by decide +kernel
theorem dX0_copyFrom_19 : decode cX0_copyFrom 19 = .ok (.aload_n 0, 1) := by decide +kernel
theorem dX0_copyFrom_20 : decode cX0_copyFrom 20 = .ok (.aload_n 1, 1) := by decide +kernel
theorem dX0_copyFrom_21 : decode cX0_copyFrom 21 = .ok (.getfield 32, 3) := by decide +kernel
theorem dX0_copyFrom_24 : decode cX0_copyFrom 24 = .ok (.putfield 32, 3) := by decide +kernel
theorem dX0_copyFrom_27 : decode cX0_copyFrom 27 = .ok (.aload_n 0, 1) := by decide +kernel
theorem dX0_copyFrom_28 : decode cX0_copyFrom 28 = .ok (.aload_n 1, 1) := by decide +kernel
theorem dX0_copyFrom_29 : decode cX0_copyFrom 29 = .ok (.getfield 35, 3) := by decide +kernel
theorem dX0_copyFrom_32 : decode cX0_copyFrom 32 = .ok (.putfield 35, 3) := by decide +kernel
theorem dX0_copyFrom_35 : decode cX0_copyFrom 35 = .ok (.aload_n 0, 1) := by decide +kernel
theorem dX0_copyFrom_36 : decode cX0_copyFrom 36 = .ok (.aload_n 1, 1) := by decide +kernel
theorem dX0_copyFrom_37 : decode cX0_copyFrom 37 = .ok (.getfield 38, 3) := by decide +kernel
theorem dX0_copyFrom_40 : decode cX0_copyFrom 40 = .ok (.putfield 38, 3) := by decide +kernel
theorem dX0_copyFrom_43 : decode cX0_copyFrom 43 = .ok (.aload_n 0, 1) := by decide +kernel
theorem dX0_copyFrom_44 : decode cX0_copyFrom 44 = .ok (.aload_n 1, 1) := by decide +kernel
theorem dX0_copyFrom_45 : decode cX0_copyFrom 45 = .ok (.getfield 15, 3) := by decide +kernel
theorem dX0_copyFrom_48 : decode cX0_copyFrom 48 = .ok (.putfield 15, 3) := by decide +kernel
theorem dX0_copyFrom_51 : decode cX0_copyFrom 51 = .ok (.aload_n 0, 1) := by decide +kernel
theorem dX0_copyFrom_52 : decode cX0_copyFrom 52 = .ok (.aload_n 1, 1) := by decide +kernel
theorem dX0_copyFrom_53 : decode cX0_copyFrom 53 = .ok (.getfield 21, 3) := by decide +kernel
theorem dX0_copyFrom_56 : decode cX0_copyFrom 56 = .ok (.putfield 21, 3) := by decide +kernel
theorem dX0_copyFrom_59 : decode cX0_copyFrom 59 = .ok (.return_, 1) := by decide +kernel
set_option maxRecDepth 20000 in
theorem ggX0_swing_X9_at : GoodIn wsX0_swing wsX9_at := goodIn_r _ [10] (by decide +kernel) (by decide +kernel)
set_option maxRecDepth 20000 in
theorem gX0_swing_X9_at_n48 : GoodIn wsX0_swing (wsX9_at) := ggX0_swing_X9_at
set_option maxRecDepth 20000 in
theorem ggX0_swing_X9_limited : GoodIn wsX0_swing wsX9_limited := goodIn_r _ [12, 13, 14, 15, 16, 17, 18, 19] (by decide +kernel) (by decide +kernel)
set_option maxRecDepth 20000 in
theorem gX0_swing_X9_limited_n54 : GoodIn wsX0_swing (wsX9_limited) := ggX0_swing_X9_limited
theorem dX0_swing_0 : decode cX0_swing 0 = .ok (.aload_n 0, 1) := by decide +kernel
theorem dX0_swing_1 : decode cX0_swing 1 = .ok (.dup, 1) := by decide +kernel
theorem dX0_swing_2 : decode cX0_swing 2 = .ok (.getfield 32, 3) := by decide +kernel
theorem dX0_swing_5 : decode cX0_swing 5 = .ok (.lload_n 1, 1) := by decide +kernel
theorem dX0_swing_6 : decode cX0_swing 6 = .ok (.aload_n 0, 1) := by decide +kernel
theorem dX0_swing_7 : decode cX0_swing 7 = .ok (.getfield 29, 3) := by decide +kernel
theorem dX0_swing_10 : decode cX0_swing 10 = .ok (.lload 5, 2) := by decide +kernel
theorem dX0_swing_12 : decode cX0_swing 12 = .ok (.lsub, 1) := by decide +kernel
theorem dX0_swing_13 : decode cX0_swing 13 = .ok (.lmul, 1) := by decide +kernel
theorem dX0_swing_14 : decode cX0_swing 14 = .ok (.ldc2_w 41, 3) := by decide +kernel
theorem dX0_swing_17 : decode cX0_swing 17 = .ok (.ldiv, 1) := by decide +kernel
theorem dX0_swing_18 : decode cX0_swing 18 = .ok (.lload 7, 2) := by decide +kernel
theorem dX0_swing_20 : decode cX0_swing 20 = .ok (.lmul, 1) := by decide +kernel
theorem dX0_swing_21 : decode cX0_swing 21 = .ok (.ldc2_w 43, 3) := by decide +kernel
theorem dX0_swing_24 : decode cX0_swing 24 = .ok (.ldiv, 1) := by decide +kernel
theorem dX0_swing_25 : decode cX0_swing 25 = .ok (.lsub, 1) := by decide +kernel
theorem dX0_swing_26 : decode cX0_swing 26 = .ok (.putfield 32, 3) := by decide +kernel
theorem dX0_swing_29 : decode cX0_swing 29 = .ok (.aload_n 0, 1) := by decide +kernel
theorem dX0_swing_30 : decode cX0_swing 30 = .ok (.dup, 1) := by decide +kernel
theorem dX0_swing_31 : decode cX0_swing 31 = .ok (.getfield 32, 3) := by decide +kernel
theorem dX0_swing_34 : decode cX0_swing 34 = .ok (.aload_n 0, 1) := by decide +kernel
theorem dX0_swing_35 : decode cX0_swing 35 = .ok (.getfield 32, 3) := by decide +kernel
theorem dX0_swing_38 : decode cX0_swing 38 = .ok (.getstatic 45, 3) := by decide +kernel
theorem dX0_swing_41 : decode cX0_swing 41 = .ok (.aload_n 0, 1) := by decide +kernel
theorem dX0_swing_42 : decode cX0_swing 42 = .ok (.getfield 15, 3) := by decide +kernel
theorem dX0_swing_45 : decode cX0_swing 45 = .ok (.invokestatic 48, 3) := by decide +kernel
theorem dX0_swing_48 : decode cX0_swing 48 = .ok (.lmul, 1) := by decide +kernel
theorem dX0_swing_49 : decode cX0_swing 49 = .ok (.ldc2_w 41, 3) := by decide +kernel
theorem dX0_swing_52 : decode cX0_swing 52 = .ok (.ldiv, 1) := by decide +kernel
theorem dX0_swing_53 : decode cX0_swing 53 = .ok (.lsub, 1) := by decide +kernel
theorem dX0_swing_54 : decode cX0_swing 54 = .ok (.putfield 32, 3) := by decide +kernel
theorem dX0_swing_57 : decode cX0_swing 57 = .ok (.aload_n 0, 1) := by decide +kernel
theorem dX0_swing_58 : decode cX0_swing 58 = .ok (.aload_n 0, 1) := by decide +kernel
theorem dX0_swing_59 : decode cX0_swing 59 = .ok (.getfield 32, 3) := by decide +kernel
theorem dX0_swing_62 : decode cX0_swing 62 = .ok (.ldc2_w 52, 3) := by decide +kernel
theorem dX0_swing_65 : decode cX0_swing 65 = .ok (.invokestatic 54, 3) := by decide +kernel
theorem dX0_swing_68 : decode cX0_swing 68 = .ok (.putfield 32, 3) := by decide +kernel
theorem dX0_swing_71 : decode cX0_swing 71 = .ok (.aload_n 0, 1) := by decide +kernel
theorem dX0_swing_72 : decode cX0_swing 72 = .ok (.aload_n 0, 1) := by decide +kernel
theorem dX0_swing_73 : decode cX0_swing 73 = .ok (.getfield 29, 3) := by decide +kernel
theorem dX0_swing_76 : decode cX0_swing 76 = .ok (.lload_n 3, 1) := by decide +kernel
theorem dX0_swing_77 : decode cX0_swing 77 = .ok (.aload_n 0, 1) := by decide +kernel
theorem dX0_swing_78 : decode cX0_swing 78 = .ok (.getfield 32, 3) := by decide +kernel
theorem dX0_swing_81 : decode cX0_swing 81 = .ok (.lmul, 1) := by decide +kernel
theorem dX0_swing_82 : decode cX0_swing 82 = .ok (.ldc2_w 41, 3) := by decide +kernel
theorem dX0_swing_85 : decode cX0_swing 85 = .ok (.ldiv, 1) := by decide +kernel
theorem dX0_swing_86 : decode cX0_swing 86 = .ok (.ladd, 1) := by decide +kernel
theorem dX0_swing_87 : decode cX0_swing 87 = .ok (.ldc2_w 58, 3) := by decide +kernel
theorem dX0_swing_90 : decode cX0_swing 90 = .ok (.invokestatic 54, 3) := by decide +kernel
theorem dX0_swing_93 : decode cX0_swing 93 = .ok (.putfield 29, 3) := by decide +kernel
theorem dX0_swing_96 : decode cX0_swing 96 = .ok (.return_, 1) := by decide +kernel
theorem dX1_init_0 : decode cX1_init 0 = .ok (.aload_n 0, 1) := by decide +kernel
theorem dX1_init_1 : decode cX1_init 1 = .ok (.invokespecial 3, 3) := by decide +kernel
theorem dX1_init_4 : decode cX1_init 4 = .ok (.aload_n 0, 1) := by decide +kernel
theorem dX1_init_5 : decode cX1_init 5 = .ok (.bipush 6, 2) := by decide +kernel
theorem dX1_init_7 : decode cX1_init 7 = .ok (.anewarray 9, 3) := by decide +kernel
theorem dX1_init_10 : decode cX1_init 10 = .ok (.putfield 11, 3) := by decide +kernel
theorem dX1_init_13 : decode cX1_init 13 = .ok (.return_, 1) := by decide +kernel
set_option maxRecDepth 20000 in
theorem ggX1_record_X9_keep : GoodIn wsX1_record wsX9_keep := goodIn_r _ [10, 11, 12, 13, 14, 15, 16, 17, 18, 19, 20, 21, 22, 23, 24, 25, 26, 27, 28, 29, 30, 31, 32, 33, 34, 35, 36, 37, 38, 39, 40, 41, 42, 43, 44, 45, 46, 47, 48, 49, 50, 6, 51, 52, 53, 54, 55, 56, 57, 58, 59, 60, 61, 62, 63, 64, 65, 66, 67, 68, 69, 70, 71, 72, 73, 74, 75, 76, 77, 78, 79, 80, 81, 82, 83, 84, 85, 86, 87, 88, 89, 90, 91, 9, 92, 93, 94, 95, 96, 97, 98, 99, 100, 101, 102, 103, 104, 105, 106, 107, 108, 109, 110, 111, 112, 113, 114, 115, 116, 117, 118, 119, 120, 121, 122, 123, 124, 125, 126, 127, 128, 129, 130, 131, 132, 136, 137, 138, 139, 140, 141, 142, 143, 144, 145, 146, 147, 148, 149, 150, 151, 152, 153, 154, 155, 156, 157, 158, 159, 160, 161, 162, 163, 164, 165, 166, 167, 168, 169, 170, 171] (by decide +kernel) (by decide +kernel)
set_option maxRecDepth 20000 in
theorem gX1_record_X9_keep_n21 : GoodIn wsX1_record (wsX9_keep) := ggX1_record_X9_keep
theorem dX1_record_0 : decode cX1_record 0 = .ok (.aload_n 0, 1) := by decide +kernel
theorem dX1_record_1 : decode cX1_record 1 = .ok (.getfield 11, 3) := by decide +kernel
theorem dX1_record_4 : decode cX1_record 4 = .ok (.aload_n 0, 1) := by decide +kernel
theorem dX1_record_5 : decode cX1_record 5 = .ok (.getfield 17, 3) := by decide +kernel
theorem dX1_record_8 : decode cX1_record 8 = .ok (.aload_n 1, 1) := by decide +kernel
theorem dX1_record_9 : decode cX1_record 9 = .ok (.invokestatic 21, 3) := by decide +kernel
theorem dX1_record_12 : decode cX1_record 12 = .ok (.aload_n 0, 1) := by decide +kernel
theorem dX1_record_13 : decode cX1_record 13 = .ok (.aload_n 0, 1) := by decide +kernel
theorem dX1_record_14 : decode cX1_record 14 = .ok (.getfield 17, 3) := by decide +kernel
theorem dX1_record_17 : decode cX1_record 17 = .ok (.iconst 1, 1) := by decide +kernel
theorem dX1_record_18 : decode cX1_record 18 = .ok (.iadd, 1) := by decide +kernel
theorem dX1_record_19 : decode cX1_record 19 = .ok (.bipush 6, 2) := by decide +kernel
theorem dX1_record_21 : decode cX1_record 21 = .ok (.irem, 1) := by decide +kernel
theorem dX1_record_22 : decode cX1_record 22 = .ok (.putfield 17, 3) := by decide +kernel
theorem dX1_record_25 : decode cX1_record 25 = .ok (.aload_n 0, 1) := by decide +kernel
theorem dX1_record_26 : decode cX1_record 26 = .ok (.aload_n 0, 1) := by decide +kernel
theorem dX1_record_27 : decode cX1_record 27 = .ok (.getfield 25, 3) := by decide +kernel
theorem dX1_record_30 : decode cX1_record 30 = .ok (.iconst 1, 1) := by decide +kernel
theorem dX1_record_31 : decode cX1_record 31 = .ok (.iadd, 1) := by decide +kernel
theorem dX1_record_32 : decode cX1_record 32 = .ok (.bipush 6, 2) := by decide +kernel
theorem dX1_record_34 : decode cX1_record 34 = .ok (.invokestatic 28, 3) := by decide +kernel
theorem dX1_record_37 : decode cX1_record 37 = .ok (.putfield 25, 3) := by decide +kernel
theorem dX1_record_40 : decode cX1_record 40 = .ok (.return_, 1) := by decide +kernel
set_option maxRecDepth 20000 in
theorem ggX1_takeBack_X7_copyFrom : GoodIn wsX1_takeBack wsX7_copyFrom := goodIn_r _ [8, 9, 10, 11, 12, 13, 14, 15, 16, 17, 18, 19, 20, 21, 22, 23, 24, 25, 26, 27, 28, 29, 30, 31, 32, 33, 34, 35, 36, 37, 38, 39, 40, 41, 42, 43, 44, 45, 46, 47, 48, 49, 50, 51, 52, 53, 54, 55, 56, 57, 58, 59, 60, 61, 62, 63, 64, 65, 66, 67, 68, 69, 70, 71, 72, 73, 74, 75, 76, 77, 78, 82, 83, 84, 85, 86, 87, 88, 89, 90, 91, 92, 93, 94, 95, 96, 97, 98, 99, 100, 101, 102, 103, 104, 105, 106, 107, 108, 109, 110, 111, 112, 113, 114, 115, 116, 117] (by decide +kernel) (by decide +kernel)
set_option maxRecDepth 20000 in
theorem gX1_takeBack_X7_copyFrom : GoodIn wsX1_takeBack (wsV RX1 34 RX7 yX7_copyFrom wsX7_copyFrom) := goodIn_app (goodIn_of _ (by decide +kernel)) ggX1_takeBack_X7_copyFrom
theorem dX1_takeBack_0 : decode cX1_takeBack 0 = .ok (.aload_n 0, 1) := by decide +kernel
theorem dX1_takeBack_1 : decode cX1_takeBack 1 = .ok (.getfield 17, 3) := by decide +kernel
theorem dX1_takeBack_4 : decode cX1_takeBack 4 = .ok (.bipush 6, 2) := by decide +kernel
theorem dX1_takeBack_6 : decode cX1_takeBack 6 = .ok (.iadd, 1) := by decide +kernel
theorem dX1_takeBack_7 : decode cX1_takeBack 7 = .ok (.iconst 1, 1) := by decide +kernel
theorem dX1_takeBack_8 : decode cX1_takeBack 8 = .ok (.isub, 1) := by decide +kernel
theorem dX1_takeBack_9 : decode cX1_takeBack 9 = .ok (.bipush 6, 2) := by decide +kernel
theorem dX1_takeBack_11 : decode cX1_takeBack 11 = .ok (.irem, 1) := by decide +kernel
theorem dX1_takeBack_12 : decode cX1_takeBack 12 = .ok (.istore_n 2, 1) := by decide +kernel
theorem dX1_takeBack_13 : decode cX1_takeBack 13 = .ok (.aload_n 0, 1) := by decide +kernel
theorem dX1_takeBack_14 : decode cX1_takeBack 14 = .ok (.getfield 25, 3) := by decide +kernel
theorem dX1_takeBack_17 : decode cX1_takeBack 17 = .ok (.ifCond .le 16, 3) := by decide +kernel
theorem dX1_takeBack_20 : decode cX1_takeBack 20 = .ok (.iload_n 2, 1) := by decide +kernel
theorem dX1_takeBack_21 : decode cX1_takeBack 21 = .ok (.ifCond .lt 12, 3) := by decide +kernel
theorem dX1_takeBack_24 : decode cX1_takeBack 24 = .ok (.iload_n 2, 1) := by decide +kernel
theorem dX1_takeBack_25 : decode cX1_takeBack 25 = .ok (.aload_n 0, 1) := by decide +kernel
theorem dX1_takeBack_26 : decode cX1_takeBack 26 = .ok (.getfield 11, 3) := by decide +kernel
theorem dX1_takeBack_29 : decode cX1_takeBack 29 = .ok (.arraylength, 1) := by decide +kernel
theorem dX1_takeBack_30 : decode cX1_takeBack 30 = .ok (.if_icmp .lt 4, 3) := by decide +kernel
theorem dX1_takeBack_33 : decode cX1_takeBack 33 = .ok (.return_, 1) := by decide +kernel
theorem dX1_takeBack_34 : decode cX1_takeBack 34 = .ok (.aload_n 0, 1) := by decide +kernel
theorem dX1_takeBack_35 : decode cX1_takeBack 35 = .ok (.getfield 11, 3) := by decide +kernel
theorem dX1_takeBack_38 : decode cX1_takeBack 38 = .ok (.iload_n 2, 1) := by decide +kernel
theorem dX1_takeBack_39 : decode cX1_takeBack 39 = .ok (.aaload, 1) := by decide +kernel
theorem dX1_takeBack_40 : decode cX1_takeBack 40 = .ok (.astore_n 3, 1) := by decide +kernel
theorem dX1_takeBack_41 : decode cX1_takeBack 41 = .ok (.aload_n 3, 1) := by decide +kernel
theorem dX1_takeBack_42 : decode cX1_takeBack 42 = .ok (.ifnonnull 4, 3) := by decide +kernel
theorem dX1_takeBack_45 : decode cX1_takeBack 45 = .ok (.return_, 1) := by decide +kernel
theorem dX1_takeBack_46 : decode cX1_takeBack 46 = .ok (.aload_n 1, 1) := by decide +kernel
theorem dX1_takeBack_47 : decode cX1_takeBack 47 = .ok (.aload_n 3, 1) := by decide +kernel
theorem dX1_takeBack_48 : decode cX1_takeBack 48 = .ok (.invokevirtual 34, 3) := by decide +kernel
theorem dX1_takeBack_51 : decode cX1_takeBack 51 = .ok (.aload_n 0, 1) := by decide +kernel
theorem dX1_takeBack_52 : decode cX1_takeBack 52 = .ok (.iload_n 2, 1) := by decide +kernel
theorem dX1_takeBack_53 : decode cX1_takeBack 53 = .ok (.putfield 17, 3) := by decide +kernel
theorem dX1_takeBack_56 : decode cX1_takeBack 56 = .ok (.aload_n 0, 1) := by decide +kernel
theorem dX1_takeBack_57 : decode cX1_takeBack 57 = .ok (.dup, 1) := by decide +kernel
theorem dX1_takeBack_58 : decode cX1_takeBack 58 = .ok (.getfield 25, 3) := by decide +kernel
theorem dX1_takeBack_61 : decode cX1_takeBack 61 = .ok (.iconst 1, 1) := by decide +kernel
theorem dX1_takeBack_62 : decode cX1_takeBack 62 = .ok (.isub, 1) := by decide +kernel
theorem dX1_takeBack_63 : decode cX1_takeBack 63 = .ok (.putfield 25, 3) := by decide +kernel
theorem dX1_takeBack_66 : decode cX1_takeBack 66 = .ok (.return_, 1) := by decide +kernel
theorem dX2_init_0 : decode cX2_init 0 = .ok (.aload_n 0, 1) := by decide +kernel
theorem dX2_init_1 : decode cX2_init 1 = .ok (.invokespecial 1, 3) := by decide +kernel
theorem dX2_init_4 : decode cX2_init 4 = .ok (.aload_n 0, 1) := by decide +kernel
theorem dX2_init_5 : decode cX2_init 5 = .ok (.iconst 0, 1) := by decide +kernel
theorem dX2_init_6 : decode cX2_init 6 = .ok (.iload_n 1, 1) := by decide +kernel
theorem dX2_init_7 : decode cX2_init 7 = .ok (.invokestatic 7, 3) := by decide +kernel
theorem dX2_init_10 : decode cX2_init 10 = .ok (.newarray .long, 2) := by decide +kernel
theorem dX2_init_12 : decode cX2_init 12 = .ok (.putfield 13, 3) := by decide +kernel
theorem dX2_init_15 : decode cX2_init 15 = .ok (.return_, 1) := by decide +kernel
set_option maxRecDepth 20000 in
theorem ggX2_copyFrom_X9_copy : GoodIn wsX2_copyFrom wsX9_copy := goodIn_r _ [5] (by decide +kernel) (by decide +kernel)
set_option maxRecDepth 20000 in
theorem gX2_copyFrom_X9_copy_n19 : GoodIn wsX2_copyFrom (wsX9_copy) := ggX2_copyFrom_X9_copy
theorem dX2_copyFrom_0 : decode cX2_copyFrom 0 = .ok (.aload_n 1, 1) := by decide +kernel
theorem dX2_copyFrom_1 : decode cX2_copyFrom 1 = .ok (.getfield 13, 3) := by decide +kernel
theorem dX2_copyFrom_4 : decode cX2_copyFrom 4 = .ok (.aload_n 0, 1) := by decide +kernel
theorem dX2_copyFrom_5 : decode cX2_copyFrom 5 = .ok (.getfield 13, 3) := by decide +kernel
theorem dX2_copyFrom_8 : decode cX2_copyFrom 8 = .ok (.invokestatic 19, 3) := by decide +kernel
theorem dX2_copyFrom_11 : decode cX2_copyFrom 11 = .ok (.aload_n 0, 1) := by decide +kernel
theorem dX2_copyFrom_12 : decode cX2_copyFrom 12 = .ok (.aload_n 1, 1) := by decide +kernel
theorem dX2_copyFrom_13 : decode cX2_copyFrom 13 = .ok (.getfield 25, 3) := by decide +kernel
theorem dX2_copyFrom_16 : decode cX2_copyFrom 16 = .ok (.putfield 25, 3) := by decide +kernel
theorem dX2_copyFrom_19 : decode cX2_copyFrom 19 = .ok (.return_, 1) := by decide +kernel
theorem dX2_clear_0 : decode cX2_clear 0 = .ok (.aload_n 0, 1) := by decide +kernel
theorem dX2_clear_1 : decode cX2_clear 1 = .ok (.iconst 0, 1) := by decide +kernel
theorem dX2_clear_2 : decode cX2_clear 2 = .ok (.putfield 25, 3) := by decide +kernel
theorem dX2_clear_5 : decode cX2_clear 5 = .ok (.return_, 1) := by decide +kernel
set_option maxRecDepth 20000 in
theorem ggX2_add_X9_write : GoodIn wsX2_add wsX9_write := goodIn_r _ [9] (by decide +kernel) (by decide +kernel)
set_option maxRecDepth 20000 in
theorem gX2_add_X9_write_n29 : GoodIn wsX2_add (wsX9_write) := ggX2_add_X9_write
theorem dX2_add_0 : decode cX2_add 0 = .ok (.aload_n 0, 1) := by decide +kernel
theorem dX2_add_1 : decode cX2_add 1 = .ok (.getfield 13, 3) := by decide +kernel
theorem dX2_add_4 : decode cX2_add 4 = .ok (.arraylength, 1) := by decide +kernel
theorem dX2_add_5 : decode cX2_add 5 = .ok (.iconst 1, 1) := by decide +kernel
theorem dX2_add_6 : decode cX2_add 6 = .ok (.isub, 1) := by decide +kernel
theorem dX2_add_7 : decode cX2_add 7 = .ok (.istore_n 3, 1) := by decide +kernel
theorem dX2_add_8 : decode cX2_add 8 = .ok (.iload_n 3, 1) := by decide +kernel
theorem dX2_add_9 : decode cX2_add 9 = .ok (.ifCond .le 23, 3) := by decide +kernel
theorem dX2_add_12 : decode cX2_add 12 = .ok (.aload_n 0, 1) := by decide +kernel
theorem dX2_add_13 : decode cX2_add 13 = .ok (.getfield 13, 3) := by decide +kernel
theorem dX2_add_16 : decode cX2_add 16 = .ok (.iload_n 3, 1) := by decide +kernel
theorem dX2_add_17 : decode cX2_add 17 = .ok (.aload_n 0, 1) := by decide +kernel
theorem dX2_add_18 : decode cX2_add 18 = .ok (.getfield 13, 3) := by decide +kernel
theorem dX2_add_21 : decode cX2_add 21 = .ok (.iload_n 3, 1) := by decide +kernel
theorem dX2_add_22 : decode cX2_add 22 = .ok (.iconst 1, 1) := by decide +kernel
theorem dX2_add_23 : decode cX2_add 23 = .ok (.isub, 1) := by decide +kernel
theorem dX2_add_24 : decode cX2_add 24 = .ok (.laload, 1) := by decide +kernel
theorem dX2_add_25 : decode cX2_add 25 = .ok (.lastore, 1) := by decide +kernel
theorem dX2_add_26 : decode cX2_add 26 = .ok (.iinc 3 (-1), 3) := by decide +kernel
theorem dX2_add_29 : decode cX2_add 29 = .ok (.goto (-21), 3) := by decide +kernel
theorem dX2_add_32 : decode cX2_add 32 = .ok (.aload_n 0, 1) := by decide +kernel
theorem dX2_add_33 : decode cX2_add 33 = .ok (.getfield 13, 3) := by decide +kernel
theorem dX2_add_36 : decode cX2_add 36 = .ok (.iconst 0, 1) := by decide +kernel
theorem dX2_add_37 : decode cX2_add 37 = .ok (.lload_n 1, 1) := by decide +kernel
theorem dX2_add_38 : decode cX2_add 38 = .ok (.invokestatic 29, 3) := by decide +kernel
theorem dX2_add_41 : decode cX2_add 41 = .ok (.aload_n 0, 1) := by decide +kernel
theorem dX2_add_42 : decode cX2_add 42 = .ok (.aload_n 0, 1) := by decide +kernel
theorem dX2_add_43 : decode cX2_add 43 = .ok (.getfield 25, 3) := by decide +kernel
theorem dX2_add_46 : decode cX2_add 46 = .ok (.iconst 1, 1) := by decide +kernel
theorem dX2_add_47 : decode cX2_add 47 = .ok (.iadd, 1) := by decide +kernel
theorem dX2_add_48 : decode cX2_add 48 = .ok (.aload_n 0, 1) := by decide +kernel
theorem dX2_add_49 : decode cX2_add 49 = .ok (.getfield 13, 3) := by decide +kernel
theorem dX2_add_52 : decode cX2_add 52 = .ok (.arraylength, 1) := by decide +kernel
theorem dX2_add_53 : decode cX2_add 53 = .ok (.invokestatic 33, 3) := by decide +kernel
theorem dX2_add_56 : decode cX2_add 56 = .ok (.putfield 25, 3) := by decide +kernel
theorem dX2_add_59 : decode cX2_add 59 = .ok (.return_, 1) := by decide +kernel
set_option maxRecDepth 20000 in
theorem ggX2_sumOf_X9_at : GoodIn wsX2_sumOf wsX9_at := goodIn_r _ [5] (by decide +kernel) (by decide +kernel)
set_option maxRecDepth 20000 in
theorem gX2_sumOf_X9_at_n36 : GoodIn wsX2_sumOf (wsX9_at) := ggX2_sumOf_X9_at
theorem dX2_sumOf_0 : decode cX2_sumOf 0 = .ok (.lconst 0, 1) := by decide +kernel
theorem dX2_sumOf_1 : decode cX2_sumOf 1 = .ok (.lstore_n 2, 1) := by decide +kernel
theorem dX2_sumOf_2 : decode cX2_sumOf 2 = .ok (.iconst 0, 1) := by decide +kernel
theorem dX2_sumOf_3 : decode cX2_sumOf 3 = .ok (.istore 4, 2) := by decide +kernel
theorem dX2_sumOf_5 : decode cX2_sumOf 5 = .ok (.iload 4, 2) := by decide +kernel
theorem dX2_sumOf_7 : decode cX2_sumOf 7 = .ok (.aload_n 0, 1) := by decide +kernel
theorem dX2_sumOf_8 : decode cX2_sumOf 8 = .ok (.getfield 25, 3) := by decide +kernel
theorem dX2_sumOf_11 : decode cX2_sumOf 11 = .ok (.if_icmp .ge 27, 3) := by decide +kernel
theorem dX2_sumOf_14 : decode cX2_sumOf 14 = .ok (.iload 4, 2) := by decide +kernel
theorem dX2_sumOf_16 : decode cX2_sumOf 16 = .ok (.iload_n 1, 1) := by decide +kernel
theorem dX2_sumOf_17 : decode cX2_sumOf 17 = .ok (.if_icmp .ge 21, 3) := by decide +kernel
theorem dX2_sumOf_20 : decode cX2_sumOf 20 = .ok (.lload_n 2, 1) := by decide +kernel
theorem dX2_sumOf_21 : decode cX2_sumOf 21 = .ok (.aload_n 0, 1) := by decide +kernel
theorem dX2_sumOf_22 : decode cX2_sumOf 22 = .ok (.getfield 13, 3) := by decide +kernel
theorem dX2_sumOf_25 : decode cX2_sumOf 25 = .ok (.iload 4, 2) := by decide +kernel
theorem dX2_sumOf_27 : decode cX2_sumOf 27 = .ok (.invokestatic 36, 3) := by decide +kernel
theorem dX2_sumOf_30 : decode cX2_sumOf 30 = .ok (.ladd, 1) := by decide +kernel
theorem dX2_sumOf_31 : decode cX2_sumOf 31 = .ok (.lstore_n 2, 1) := by decide +kernel
theorem dX2_sumOf_32 : decode cX2_sumOf 32 = .ok (.iinc 4 1, 3) := by decide +kernel
theorem dX2_sumOf_35 : decode cX2_sumOf 35 = .ok (.goto (-30), 3) := by decide +kernel
theorem dX2_sumOf_38 : decode cX2_sumOf 38 = .ok (.lload_n 2, 1) := by decide +kernel
theorem dX2_sumOf_39 : decode cX2_sumOf 39 = .ok (.lreturn, 1) := by decide +kernel
theorem dX3_init_0 : decode cX3_init 0 = .ok (.aload_n 0, 1) := by decide +kernel
theorem dX3_init_1 : decode cX3_init 1 = .ok (.invokespecial 1, 3) := by decide +kernel
theorem dX3_init_4 : decode cX3_init 4 = .ok (.iconst 0, 1) := by decide +kernel
theorem dX3_init_5 : decode cX3_init 5 = .ok (.iload_n 1, 1) := by decide +kernel
theorem dX3_init_6 : decode cX3_init 6 = .ok (.invokestatic 7, 3) := by decide +kernel
theorem dX3_init_9 : decode cX3_init 9 = .ok (.istore_n 2, 1) := by decide +kernel
theorem dX3_init_10 : decode cX3_init 10 = .ok (.aload_n 0, 1) := by decide +kernel
theorem dX3_init_11 : decode cX3_init 11 = .ok (.iload_n 2, 1) := by decide +kernel
theorem dX3_init_12 : decode cX3_init 12 = .ok (.newarray .long, 2) := by decide +kernel
theorem dX3_init_14 : decode cX3_init 14 = .ok (.putfield 13, 3) := by decide +kernel
theorem dX3_init_17 : decode cX3_init 17 = .ok (.aload_n 0, 1) := by decide +kernel
theorem dX3_init_18 : decode cX3_init 18 = .ok (.iload_n 2, 1) := by decide +kernel
theorem dX3_init_19 : decode cX3_init 19 = .ok (.newarray .long, 2) := by decide +kernel
theorem dX3_init_21 : decode cX3_init 21 = .ok (.putfield 19, 3) := by decide +kernel
theorem dX3_init_24 : decode cX3_init 24 = .ok (.aload_n 0, 1) := by decide +kernel
theorem dX3_init_25 : decode cX3_init 25 = .ok (.iload_n 2, 1) := by decide +kernel
theorem dX3_init_26 : decode cX3_init 26 = .ok (.newarray .long, 2) := by decide +kernel
theorem dX3_init_28 : decode cX3_init 28 = .ok (.putfield 22, 3) := by decide +kernel
theorem dX3_init_31 : decode cX3_init 31 = .ok (.return_, 1) := by decide +kernel
set_option maxRecDepth 20000 in
theorem ggX3_copyFrom_X9_copy : GoodIn wsX3_copyFrom wsX9_copy := goodIn_r _ [7] (by decide +kernel) (by decide +kernel)
set_option maxRecDepth 20000 in
theorem gX3_copyFrom_X9_copy_n25 : GoodIn wsX3_copyFrom (wsX9_copy) := ggX3_copyFrom_X9_copy
theorem dX3_copyFrom_0 : decode cX3_copyFrom 0 = .ok (.aload_n 1, 1) := by decide +kernel
theorem dX3_copyFrom_1 : decode cX3_copyFrom 1 = .ok (.getfield 13, 3) := by decide +kernel
theorem dX3_copyFrom_4 : decode cX3_copyFrom 4 = .ok (.aload_n 0, 1) := by decide +kernel
theorem dX3_copyFrom_5 : decode cX3_copyFrom 5 = .ok (.getfield 13, 3) := by decide +kernel
theorem dX3_copyFrom_8 : decode cX3_copyFrom 8 = .ok (.invokestatic 25, 3) := by decide +kernel
theorem dX3_copyFrom_11 : decode cX3_copyFrom 11 = .ok (.aload_n 1, 1) := by decide +kernel
theorem dX3_copyFrom_12 : decode cX3_copyFrom 12 = .ok (.getfield 19, 3) := by decide +kernel
theorem dX3_copyFrom_15 : decode cX3_copyFrom 15 = .ok (.aload_n 0, 1) := by decide +kernel
theorem dX3_copyFrom_16 : decode cX3_copyFrom 16 = .ok (.getfield 19, 3) := by decide +kernel
theorem dX3_copyFrom_19 : decode cX3_copyFrom 19 = .ok (.invokestatic 25, 3) := by decide +kernel
theorem dX3_copyFrom_22 : decode cX3_copyFrom 22 = .ok (.aload_n 1, 1) := by decide +kernel
theorem dX3_copyFrom_23 : decode cX3_copyFrom 23 = .ok (.getfield 22, 3) := by decide +kernel
theorem dX3_copyFrom_26 : decode cX3_copyFrom 26 = .ok (.aload_n 0, 1) := by decide +kernel
theorem dX3_copyFrom_27 : decode cX3_copyFrom 27 = .ok (.getfield 22, 3) := by decide +kernel
theorem dX3_copyFrom_30 : decode cX3_copyFrom 30 = .ok (.invokestatic 25, 3) := by decide +kernel
theorem dX3_copyFrom_33 : decode cX3_copyFrom 33 = .ok (.aload_n 0, 1) := by decide +kernel
theorem dX3_copyFrom_34 : decode cX3_copyFrom 34 = .ok (.aload_n 1, 1) := by decide +kernel
theorem dX3_copyFrom_35 : decode cX3_copyFrom 35 = .ok (.getfield 31, 3) := by decide +kernel
theorem dX3_copyFrom_38 : decode cX3_copyFrom 38 = .ok (.putfield 31, 3) := by decide +kernel
theorem dX3_copyFrom_41 : decode cX3_copyFrom 41 = .ok (.return_, 1) := by decide +kernel
theorem dX3_clear_0 : decode cX3_clear 0 = .ok (.aload_n 0, 1) := by decide +kernel
theorem dX3_clear_1 : decode cX3_clear 1 = .ok (.iconst 0, 1) := by decide +kernel
theorem dX3_clear_2 : decode cX3_clear 2 = .ok (.putfield 31, 3) := by decide +kernel
theorem dX3_clear_5 : decode cX3_clear 5 = .ok (.return_, 1) := by decide +kernel
set_option maxRecDepth 20000 in
theorem ggX3_add_X9_write : GoodIn wsX3_add wsX9_write := goodIn_r _ [7] (by decide +kernel) (by decide +kernel)
set_option maxRecDepth 20000 in
theorem gX3_add_X9_write_n35 : GoodIn wsX3_add (wsX9_write) := ggX3_add_X9_write
theorem dX3_add_0 : decode cX3_add 0 = .ok (.aload_n 0, 1) := by decide +kernel
theorem dX3_add_1 : decode cX3_add 1 = .ok (.getfield 31, 3) := by decide +kernel
theorem dX3_add_4 : decode cX3_add 4 = .ok (.aload_n 0, 1) := by decide +kernel
theorem dX3_add_5 : decode cX3_add 5 = .ok (.getfield 13, 3) := by decide +kernel
theorem dX3_add_8 : decode cX3_add 8 = .ok (.arraylength, 1) := by decide +kernel
theorem dX3_add_9 : decode cX3_add 9 = .ok (.if_icmp .lt 4, 3) := by decide +kernel
theorem dX3_add_12 : decode cX3_add 12 = .ok (.return_, 1) := by decide +kernel
theorem dX3_add_13 : decode cX3_add 13 = .ok (.aload_n 0, 1) := by decide +kernel
theorem dX3_add_14 : decode cX3_add 14 = .ok (.getfield 13, 3) := by decide +kernel
theorem dX3_add_17 : decode cX3_add 17 = .ok (.aload_n 0, 1) := by decide +kernel
theorem dX3_add_18 : decode cX3_add 18 = .ok (.getfield 31, 3) := by decide +kernel
theorem dX3_add_21 : decode cX3_add 21 = .ok (.lload_n 1, 1) := by decide +kernel
theorem dX3_add_22 : decode cX3_add 22 = .ok (.invokestatic 35, 3) := by decide +kernel
theorem dX3_add_25 : decode cX3_add 25 = .ok (.aload_n 0, 1) := by decide +kernel
theorem dX3_add_26 : decode cX3_add 26 = .ok (.getfield 19, 3) := by decide +kernel
theorem dX3_add_29 : decode cX3_add 29 = .ok (.aload_n 0, 1) := by decide +kernel
theorem dX3_add_30 : decode cX3_add 30 = .ok (.getfield 31, 3) := by decide +kernel
theorem dX3_add_33 : decode cX3_add 33 = .ok (.lload_n 3, 1) := by decide +kernel
theorem dX3_add_34 : decode cX3_add 34 = .ok (.invokestatic 35, 3) := by decide +kernel
theorem dX3_add_37 : decode cX3_add 37 = .ok (.aload_n 0, 1) := by decide +kernel
theorem dX3_add_38 : decode cX3_add 38 = .ok (.getfield 22, 3) := by decide +kernel
theorem dX3_add_41 : decode cX3_add 41 = .ok (.aload_n 0, 1) := by decide +kernel
theorem dX3_add_42 : decode cX3_add 42 = .ok (.getfield 31, 3) := by decide +kernel
theorem dX3_add_45 : decode cX3_add 45 = .ok (.lload 5, 2) := by decide +kernel
theorem dX3_add_47 : decode cX3_add 47 = .ok (.invokestatic 35, 3) := by decide +kernel
theorem dX3_add_50 : decode cX3_add 50 = .ok (.aload_n 0, 1) := by decide +kernel
theorem dX3_add_51 : decode cX3_add 51 = .ok (.dup, 1) := by decide +kernel
theorem dX3_add_52 : decode cX3_add 52 = .ok (.getfield 31, 3) := by decide +kernel
theorem dX3_add_55 : decode cX3_add 55 = .ok (.iconst 1, 1) := by decide +kernel
theorem dX3_add_56 : decode cX3_add 56 = .ok (.iadd, 1) := by decide +kernel
theorem dX3_add_57 : decode cX3_add 57 = .ok (.putfield 31, 3) := by decide +kernel
theorem dX3_add_60 : decode cX3_add 60 = .ok (.return_, 1) := by decide +kernel
set_option maxRecDepth 20000 in
theorem ggX3_dropFirst_X9_at : GoodIn wsX3_dropFirst wsX9_at := goodIn_r _ [11] (by decide +kernel) (by decide +kernel)
set_option maxRecDepth 20000 in
theorem gX3_dropFirst_X9_at_n39 : GoodIn wsX3_dropFirst (wsX9_at) := ggX3_dropFirst_X9_at
set_option maxRecDepth 20000 in
theorem ggX3_dropFirst_X9_write : GoodIn wsX3_dropFirst wsX9_write := goodIn_r _ [13] (by decide +kernel) (by decide +kernel)
set_option maxRecDepth 20000 in
theorem gX3_dropFirst_X9_write_n35 : GoodIn wsX3_dropFirst (wsX9_write) := ggX3_dropFirst_X9_write
theorem dX3_dropFirst_0 : decode cX3_dropFirst 0 = .ok (.iconst 1, 1) := by decide +kernel
theorem dX3_dropFirst_1 : decode cX3_dropFirst 1 = .ok (.istore_n 1, 1) := by decide +kernel
theorem dX3_dropFirst_2 : decode cX3_dropFirst 2 = .ok (.iload_n 1, 1) := by decide +kernel
theorem dX3_dropFirst_3 : decode cX3_dropFirst 3 = .ok (.aload_n 0, 1) := by decide +kernel
theorem dX3_dropFirst_4 : decode cX3_dropFirst 4 = .ok (.getfield 31, 3) := by decide +kernel
theorem dX3_dropFirst_7 : decode cX3_dropFirst 7 = .ok (.if_icmp .ge 63, 3) := by decide +kernel
theorem dX3_dropFirst_10 : decode cX3_dropFirst 10 = .ok (.aload_n 0, 1) := by decide +kernel
theorem dX3_dropFirst_11 : decode cX3_dropFirst 11 = .ok (.getfield 13, 3) := by decide +kernel
theorem dX3_dropFirst_14 : decode cX3_dropFirst 14 = .ok (.iload_n 1, 1) := by decide +kernel
theorem dX3_dropFirst_15 : decode cX3_dropFirst 15 = .ok (.iconst 1, 1) := by decide +kernel
theorem dX3_dropFirst_16 : decode cX3_dropFirst 16 = .ok (.isub, 1) := by decide +kernel
theorem dX3_dropFirst_17 : decode cX3_dropFirst 17 = .ok (.aload_n 0, 1) := by decide +kernel
theorem dX3_dropFirst_18 : decode cX3_dropFirst 18 = .ok (.getfield 13, 3) := by decide +kernel
theorem dX3_dropFirst_21 : decode cX3_dropFirst 21 = .ok (.iload_n 1, 1) := by decide +kernel
theorem dX3_dropFirst_22 : decode cX3_dropFirst 22 = .ok (.invokestatic 39, 3) := by decide +kernel
theorem dX3_dropFirst_25 : decode cX3_dropFirst 25 = .ok (.invokestatic 35, 3) := by decide +kernel
theorem dX3_dropFirst_28 : decode cX3_dropFirst 28 = .ok (.aload_n 0, 1) := by decide +kernel
theorem dX3_dropFirst_29 : decode cX3_dropFirst 29 = .ok (.getfield 19, 3) := by decide +kernel
theorem dX3_dropFirst_32 : decode cX3_dropFirst 32 = .ok (.iload_n 1, 1) := by decide +kernel
theorem dX3_dropFirst_33 : decode cX3_dropFirst 33 = .ok (.iconst 1, 1) := by decide +kernel
theorem dX3_dropFirst_34 : decode cX3_dropFirst 34 = .ok (.isub, 1) := by decide +kernel
theorem dX3_dropFirst_35 : decode cX3_dropFirst 35 = .ok (.aload_n 0, 1) := by decide +kernel
theorem dX3_dropFirst_36 : decode cX3_dropFirst 36 = .ok (.getfield 19, 3) := by decide +kernel
theorem dX3_dropFirst_39 : decode cX3_dropFirst 39 = .ok (.iload_n 1, 1) := by decide +kernel
theorem dX3_dropFirst_40 : decode cX3_dropFirst 40 = .ok (.invokestatic 39, 3) := by decide +kernel
theorem dX3_dropFirst_43 : decode cX3_dropFirst 43 = .ok (.invokestatic 35, 3) := by decide +kernel
theorem dX3_dropFirst_46 : decode cX3_dropFirst 46 = .ok (.aload_n 0, 1) := by decide +kernel
theorem dX3_dropFirst_47 : decode cX3_dropFirst 47 = .ok (.getfield 22, 3) := by decide +kernel
theorem dX3_dropFirst_50 : decode cX3_dropFirst 50 = .ok (.iload_n 1, 1) := by decide +kernel
theorem dX3_dropFirst_51 : decode cX3_dropFirst 51 = .ok (.iconst 1, 1) := by decide +kernel
theorem dX3_dropFirst_52 : decode cX3_dropFirst 52 = .ok (.isub, 1) := by decide +kernel
theorem dX3_dropFirst_53 : decode cX3_dropFirst 53 = .ok (.aload_n 0, 1) := by decide +kernel
theorem dX3_dropFirst_54 : decode cX3_dropFirst 54 = .ok (.getfield 22, 3) := by decide +kernel
theorem dX3_dropFirst_57 : decode cX3_dropFirst 57 = .ok (.iload_n 1, 1) := by decide +kernel
theorem dX3_dropFirst_58 : decode cX3_dropFirst 58 = .ok (.invokestatic 39, 3) := by decide +kernel
theorem dX3_dropFirst_61 : decode cX3_dropFirst 61 = .ok (.invokestatic 35, 3) := by decide +kernel
theorem dX3_dropFirst_64 : decode cX3_dropFirst 64 = .ok (.iinc 1 1, 3) := by decide +kernel
theorem dX3_dropFirst_67 : decode cX3_dropFirst 67 = .ok (.goto (-65), 3) := by decide +kernel
theorem dX3_dropFirst_70 : decode cX3_dropFirst 70 = .ok (.aload_n 0, 1) := by decide +kernel
theorem dX3_dropFirst_71 : decode cX3_dropFirst 71 = .ok (.iconst 0, 1) := by decide +kernel
theorem dX3_dropFirst_72 : decode cX3_dropFirst 72 = .ok (.aload_n 0, 1) := by decide +kernel
theorem dX3_dropFirst_73 : decode cX3_dropFirst 73 = .ok (.getfield 31, 3) := by decide +kernel
theorem dX3_dropFirst_76 : decode cX3_dropFirst 76 = .ok (.iconst 1, 1) := by decide +kernel
theorem dX3_dropFirst_77 : decode cX3_dropFirst 77 = .ok (.isub, 1) := by decide +kernel
theorem dX3_dropFirst_78 : decode cX3_dropFirst 78 = .ok (.invokestatic 7, 3) := by decide +kernel
theorem dX3_dropFirst_81 : decode cX3_dropFirst 81 = .ok (.putfield 31, 3) := by decide +kernel
theorem dX3_dropFirst_84 : decode cX3_dropFirst 84 = .ok (.return_, 1) := by decide +kernel
set_option maxRecDepth 20000 in
theorem ggX4_init_X3_init : GoodIn wsX4_init wsX3_init := goodIn_r _ [12, 13, 2, 3, 14, 15, 16, 17, 18, 19, 20, 21, 27, 28, 29, 30] (by decide +kernel) (by decide +kernel)
set_option maxRecDepth 20000 in
theorem gX4_init_X3_init : GoodIn wsX4_init (wsX3_init) := ggX4_init_X3_init
theorem dX4_init_0 : decode cX4_init 0 = .ok (.aload_n 0, 1) := by decide +kernel
theorem dX4_init_1 : decode cX4_init 1 = .ok (.invokespecial 3, 3) := by decide +kernel
theorem dX4_init_4 : decode cX4_init 4 = .ok (.aload_n 0, 1) := by decide +kernel
theorem dX4_init_5 : decode cX4_init 5 = .ok (.bipush 80, 2) := by decide +kernel
theorem dX4_init_7 : decode cX4_init 7 = .ok (.newarray .char, 2) := by decide +kernel
theorem dX4_init_9 : decode cX4_init 9 = .ok (.putfield 9, 3) := by decide +kernel
theorem dX4_init_12 : decode cX4_init 12 = .ok (.aload_n 0, 1) := by decide +kernel
theorem dX4_init_13 : decode cX4_init 13 = .ok (.new 15, 3) := by decide +kernel
theorem dX4_init_16 : decode cX4_init 16 = .ok (.dup, 1) := by decide +kernel
theorem dX4_init_17 : decode cX4_init 17 = .ok (.bipush 13, 2) := by decide +kernel
theorem dX4_init_19 : decode cX4_init 19 = .ok (.invokespecial 17, 3) := by decide +kernel
theorem dX4_init_22 : decode cX4_init 22 = .ok (.putfield 20, 3) := by decide +kernel
theorem dX4_init_25 : decode cX4_init 25 = .ok (.return_, 1) := by decide +kernel
theorem dX4_append_0 : decode cX4_append 0 = .ok (.aload_n 0, 1) := by decide +kernel
theorem dX4_append_1 : decode cX4_append 1 = .ok (.getfield 24, 3) := by decide +kernel
theorem dX4_append_4 : decode cX4_append 4 = .ok (.ifCond .lt 15, 3) := by decide +kernel
theorem dX4_append_7 : decode cX4_append 7 = .ok (.aload_n 0, 1) := by decide +kernel
theorem dX4_append_8 : decode cX4_append 8 = .ok (.getfield 24, 3) := by decide +kernel
theorem dX4_append_11 : decode cX4_append 11 = .ok (.aload_n 0, 1) := by decide +kernel
theorem dX4_append_12 : decode cX4_append 12 = .ok (.getfield 9, 3) := by decide +kernel
theorem dX4_append_15 : decode cX4_append 15 = .ok (.arraylength, 1) := by decide +kernel
theorem dX4_append_16 : decode cX4_append 16 = .ok (.if_icmp .lt 4, 3) := by decide +kernel
theorem dX4_append_19 : decode cX4_append 19 = .ok (.return_, 1) := by decide +kernel
theorem dX4_append_20 : decode cX4_append 20 = .ok (.aload_n 0, 1) := by decide +kernel
theorem dX4_append_21 : decode cX4_append 21 = .ok (.getfield 9, 3) := by decide +kernel
theorem dX4_append_24 : decode cX4_append 24 = .ok (.aload_n 0, 1) := by decide +kernel
theorem dX4_append_25 : decode cX4_append 25 = .ok (.getfield 24, 3) := by decide +kernel
theorem dX4_append_28 : decode cX4_append 28 = .ok (.iload_n 1, 1) := by decide +kernel
theorem dX4_append_29 : decode cX4_append 29 = .ok (.castore, 1) := by decide +kernel
theorem dX4_append_30 : decode cX4_append 30 = .ok (.aload_n 0, 1) := by decide +kernel
theorem dX4_append_31 : decode cX4_append 31 = .ok (.dup, 1) := by decide +kernel
theorem dX4_append_32 : decode cX4_append 32 = .ok (.getfield 24, 3) := by decide +kernel
theorem dX4_append_35 : decode cX4_append 35 = .ok (.iconst 1, 1) := by decide +kernel
theorem dX4_append_36 : decode cX4_append 36 = .ok (.iadd, 1) := by decide +kernel
theorem dX4_append_37 : decode cX4_append 37 = .ok (.putfield 24, 3) := by decide +kernel
theorem dX4_append_40 : decode cX4_append 40 = .ok (.return_, 1) := by decide +kernel
set_option maxRecDepth 20000 in
theorem ggX4_readLegs_X3_clear : GoodIn wsX4_readLegs wsX3_clear := goodIn_r _ [8, 9, 50, 51, 52, 53] (by decide +kernel) (by decide +kernel)
set_option maxRecDepth 20000 in
theorem gX4_readLegs_X3_clear : GoodIn wsX4_readLegs (wsV RX4 31 RX3 yX3_clear wsX3_clear) := goodIn_app (goodIn_of _ (by decide +kernel)) ggX4_readLegs_X3_clear
set_option maxRecDepth 20000 in
theorem ggX4_readLegs_X4_readOneLeg : GoodIn wsX4_readLegs wsX4_readOneLeg := goodIn_r _ [14, 15, 16, 2, 17, 18, 19, 13, 20, 1, 21, 22, 23, 24, 3, 25, 26, 27, 28, 29, 30, 31, 32, 33, 34, 35, 36, 37, 7, 38, 9, 39, 40, 41, 42, 43, 44, 45, 46, 47, 48, 49, 50, 51, 52, 53] (by decide +kernel) (by decide +kernel)
set_option maxRecDepth 20000 in
theorem gX4_readLegs_X4_readOneLeg : GoodIn wsX4_readLegs (wsV RX4 34 RX4 yX4_readOneLeg wsX4_readOneLeg) := goodIn_app (goodIn_of _ (by decide +kernel)) ggX4_readLegs_X4_readOneLeg
set_option maxRecDepth 20000 in
theorem ggX4_readLegs_X4_readSign : GoodIn wsX4_readLegs wsX4_readSign := goodIn_r _ [20, 1, 21, 22, 23, 13, 24, 3, 25, 45, 46, 47, 48, 49] (by decide +kernel) (by decide +kernel)
set_option maxRecDepth 20000 in
theorem gX4_readLegs_X4_readSign : GoodIn wsX4_readLegs (wsV RX4 38 RX4 yX4_readSign wsX4_readSign) := goodIn_app (goodIn_of _ (by decide +kernel)) ggX4_readLegs_X4_readSign
theorem dX4_readLegs_0 : decode cX4_readLegs 0 = .ok (.aload_n 0, 1) := by decide +kernel
theorem dX4_readLegs_1 : decode cX4_readLegs 1 = .ok (.iconst 0, 1) := by decide +kernel
theorem dX4_readLegs_2 : decode cX4_readLegs 2 = .ok (.putfield 28, 3) := by decide +kernel
theorem dX4_readLegs_5 : decode cX4_readLegs 5 = .ok (.aload_n 0, 1) := by decide +kernel
theorem dX4_readLegs_6 : decode cX4_readLegs 6 = .ok (.getfield 20, 3) := by decide +kernel
theorem dX4_readLegs_9 : decode cX4_readLegs 9 = .ok (.invokevirtual 31, 3) := by decide +kernel
theorem dX4_readLegs_12 : decode cX4_readLegs 12 = .ok (.iconst 0, 1) := by decide +kernel
theorem dX4_readLegs_13 : decode cX4_readLegs 13 = .ok (.istore_n 1, 1) := by decide +kernel
theorem dX4_readLegs_14 : decode cX4_readLegs 14 = .ok (.iload_n 1, 1) := by decide +kernel
theorem dX4_readLegs_15 : decode cX4_readLegs 15 = .ok (.bipush 80, 2) := by decide +kernel
theorem dX4_readLegs_17 : decode cX4_readLegs 17 = .ok (.if_icmp .gt 49, 3) := by decide +kernel
theorem dX4_readLegs_20 : decode cX4_readLegs 20 = .ok (.aload_n 0, 1) := by decide +kernel
theorem dX4_readLegs_21 : decode cX4_readLegs 21 = .ok (.invokevirtual 34, 3) := by decide +kernel
theorem dX4_readLegs_24 : decode cX4_readLegs 24 = .ok (.ifCond .ne 8, 3) := by decide +kernel
theorem dX4_readLegs_27 : decode cX4_readLegs 27 = .ok (.aload_n 0, 1) := by decide +kernel
theorem dX4_readLegs_28 : decode cX4_readLegs 28 = .ok (.getfield 28, 3) := by decide +kernel
theorem dX4_readLegs_31 : decode cX4_readLegs 31 = .ok (.ireturn, 1) := by decide +kernel
theorem dX4_readLegs_32 : decode cX4_readLegs 32 = .ok (.aload_n 0, 1) := by decide +kernel
theorem dX4_readLegs_33 : decode cX4_readLegs 33 = .ok (.getfield 28, 3) := by decide +kernel
theorem dX4_readLegs_36 : decode cX4_readLegs 36 = .ok (.aload_n 0, 1) := by decide +kernel
theorem dX4_readLegs_37 : decode cX4_readLegs 37 = .ok (.getfield 24, 3) := by decide +kernel
theorem dX4_readLegs_40 : decode cX4_readLegs 40 = .ok (.if_icmp .lt 6, 3) := by decide +kernel
theorem dX4_readLegs_43 : decode cX4_readLegs 43 = .ok (.bipush (-6), 2) := by decide +kernel
theorem dX4_readLegs_45 : decode cX4_readLegs 45 = .ok (.ireturn, 1) := by decide +kernel
theorem dX4_readLegs_46 : decode cX4_readLegs 46 = .ok (.aload_n 0, 1) := by decide +kernel
theorem dX4_readLegs_47 : decode cX4_readLegs 47 = .ok (.bipush 59, 2) := by decide +kernel
theorem dX4_readLegs_49 : decode cX4_readLegs 49 = .ok (.invokevirtual 38, 3) := by decide +kernel
theorem dX4_readLegs_52 : decode cX4_readLegs 52 = .ok (.ifCond .ne 8, 3) := by decide +kernel
theorem dX4_readLegs_55 : decode cX4_readLegs 55 = .ok (.aload_n 0, 1) := by decide +kernel
theorem dX4_readLegs_56 : decode cX4_readLegs 56 = .ok (.getfield 28, 3) := by decide +kernel
theorem dX4_readLegs_59 : decode cX4_readLegs 59 = .ok (.ireturn, 1) := by decide +kernel
theorem dX4_readLegs_60 : decode cX4_readLegs 60 = .ok (.iinc 1 1, 3) := by decide +kernel
theorem dX4_readLegs_63 : decode cX4_readLegs 63 = .ok (.goto (-49), 3) := by decide +kernel
theorem dX4_readLegs_66 : decode cX4_readLegs 66 = .ok (.aload_n 0, 1) := by decide +kernel
theorem dX4_readLegs_67 : decode cX4_readLegs 67 = .ok (.getfield 28, 3) := by decide +kernel
theorem dX4_readLegs_70 : decode cX4_readLegs 70 = .ok (.ireturn, 1) := by decide +kernel
set_option maxRecDepth 20000 in
theorem ggX4_readOneLeg_X4_readSign : GoodIn wsX4_readOneLeg wsX4_readSign := goodIn_r _ [8, 9, 10, 11, 12, 7, 13, 14, 15, 37, 38, 39, 40, 41] (by decide +kernel) (by decide +kernel)
set_option maxRecDepth 20000 in
theorem gX4_readOneLeg_X4_readSign : GoodIn wsX4_readOneLeg (wsV RX4 38 RX4 yX4_readSign wsX4_readSign) := goodIn_app (goodIn_of _ (by decide +kernel)) ggX4_readOneLeg_X4_readSign
set_option maxRecDepth 20000 in
theorem ggX4_readOneLeg_X4_readNumber : GoodIn wsX4_readOneLeg wsX4_readNumber := goodIn_r _ [19, 1, 9, 20, 10, 11, 12, 7, 13, 14, 15, 4, 5, 6, 8, 21, 22, 23, 24, 37, 38, 39, 40, 41] (by decide +kernel) (by decide +kernel)
set_option maxRecDepth 20000 in
theorem gX4_readOneLeg_X4_readNumber : GoodIn wsX4_readOneLeg (wsV RX4 42 RX4 yX4_readNumber wsX4_readNumber) := goodIn_app (goodIn_of _ (by decide +kernel)) ggX4_readOneLeg_X4_readNumber
set_option maxRecDepth 20000 in
theorem ggX4_readOneLeg_X3_add : GoodIn wsX4_readOneLeg wsX3_add := goodIn_r _ [29, 30, 31, 32, 33, 34, 35, 36, 42, 43, 44, 45] (by decide +kernel) (by decide +kernel)
set_option maxRecDepth 20000 in
theorem gX4_readOneLeg_X3_add : GoodIn wsX4_readOneLeg (wsV RX4 52 RX3 yX3_add wsX3_add) := goodIn_app (goodIn_of _ (by decide +kernel)) ggX4_readOneLeg_X3_add
theorem dX4_readOneLeg_0 : decode cX4_readOneLeg 0 = .ok (.aload_n 0, 1) := by decide +kernel
theorem dX4_readOneLeg_1 : decode cX4_readOneLeg 1 = .ok (.bipush 99, 2) := by decide +kernel
theorem dX4_readOneLeg_3 : decode cX4_readOneLeg 3 = .ok (.invokevirtual 38, 3) := by decide +kernel
theorem dX4_readOneLeg_6 : decode cX4_readOneLeg 6 = .ok (.ifCond .eq 14, 3) := by decide +kernel
theorem dX4_readOneLeg_9 : decode cX4_readOneLeg 9 = .ok (.aload_n 0, 1) := by decide +kernel
theorem dX4_readOneLeg_10 : decode cX4_readOneLeg 10 = .ok (.iconst 0, 1) := by decide +kernel
theorem dX4_readOneLeg_11 : decode cX4_readOneLeg 11 = .ok (.sipush 359, 3) := by decide +kernel
theorem dX4_readOneLeg_14 : decode cX4_readOneLeg 14 = .ok (.invokevirtual 42, 3) := by decide +kernel
theorem dX4_readOneLeg_17 : decode cX4_readOneLeg 17 = .ok (.ifCond .ne 5, 3) := by decide +kernel
theorem dX4_readOneLeg_20 : decode cX4_readOneLeg 20 = .ok (.iconst 0, 1) := by decide +kernel
theorem dX4_readOneLeg_21 : decode cX4_readOneLeg 21 = .ok (.ireturn, 1) := by decide +kernel
theorem dX4_readOneLeg_22 : decode cX4_readOneLeg 22 = .ok (.aload_n 0, 1) := by decide +kernel
theorem dX4_readOneLeg_23 : decode cX4_readOneLeg 23 = .ok (.getfield 46, 3) := by decide +kernel
theorem dX4_readOneLeg_26 : decode cX4_readOneLeg 26 = .ok (.ldc2_w 50, 3) := by decide +kernel
theorem dX4_readOneLeg_29 : decode cX4_readOneLeg 29 = .ok (.lmul, 1) := by decide +kernel
theorem dX4_readOneLeg_30 : decode cX4_readOneLeg 30 = .ok (.lstore_n 1, 1) := by decide +kernel
theorem dX4_readOneLeg_31 : decode cX4_readOneLeg 31 = .ok (.aload_n 0, 1) := by decide +kernel
theorem dX4_readOneLeg_32 : decode cX4_readOneLeg 32 = .ok (.bipush 118, 2) := by decide +kernel
theorem dX4_readOneLeg_34 : decode cX4_readOneLeg 34 = .ok (.invokevirtual 38, 3) := by decide +kernel
theorem dX4_readOneLeg_37 : decode cX4_readOneLeg 37 = .ok (.ifCond .eq 14, 3) := by decide +kernel
theorem dX4_readOneLeg_40 : decode cX4_readOneLeg 40 = .ok (.aload_n 0, 1) := by decide +kernel
theorem dX4_readOneLeg_41 : decode cX4_readOneLeg 41 = .ok (.iconst 0, 1) := by decide +kernel
theorem dX4_readOneLeg_42 : decode cX4_readOneLeg 42 = .ok (.sipush 400, 3) := by decide +kernel
theorem dX4_readOneLeg_45 : decode cX4_readOneLeg 45 = .ok (.invokevirtual 42, 3) := by decide +kernel
theorem dX4_readOneLeg_48 : decode cX4_readOneLeg 48 = .ok (.ifCond .ne 5, 3) := by decide +kernel
theorem dX4_readOneLeg_51 : decode cX4_readOneLeg 51 = .ok (.iconst 0, 1) := by decide +kernel
theorem dX4_readOneLeg_52 : decode cX4_readOneLeg 52 = .ok (.ireturn, 1) := by decide +kernel
theorem dX4_readOneLeg_53 : decode cX4_readOneLeg 53 = .ok (.aload_n 0, 1) := by decide +kernel
theorem dX4_readOneLeg_54 : decode cX4_readOneLeg 54 = .ok (.getfield 46, 3) := by decide +kernel
theorem dX4_readOneLeg_57 : decode cX4_readOneLeg 57 = .ok (.lstore_n 3, 1) := by decide +kernel
theorem dX4_readOneLeg_58 : decode cX4_readOneLeg 58 = .ok (.aload_n 0, 1) := by decide +kernel
theorem dX4_readOneLeg_59 : decode cX4_readOneLeg 59 = .ok (.bipush 109, 2) := by decide +kernel
theorem dX4_readOneLeg_61 : decode cX4_readOneLeg 61 = .ok (.invokevirtual 38, 3) := by decide +kernel
theorem dX4_readOneLeg_64 : decode cX4_readOneLeg 64 = .ok (.ifCond .eq 14, 3) := by decide +kernel
theorem dX4_readOneLeg_67 : decode cX4_readOneLeg 67 = .ok (.aload_n 0, 1) := by decide +kernel
theorem dX4_readOneLeg_68 : decode cX4_readOneLeg 68 = .ok (.iconst 1, 1) := by decide +kernel
theorem dX4_readOneLeg_69 : decode cX4_readOneLeg 69 = .ok (.sipush 600, 3) := by decide +kernel
theorem dX4_readOneLeg_72 : decode cX4_readOneLeg 72 = .ok (.invokevirtual 42, 3) := by decide +kernel
theorem dX4_readOneLeg_75 : decode cX4_readOneLeg 75 = .ok (.ifCond .ne 5, 3) := by decide +kernel
theorem dX4_readOneLeg_78 : decode cX4_readOneLeg 78 = .ok (.iconst 0, 1) := by decide +kernel
theorem dX4_readOneLeg_79 : decode cX4_readOneLeg 79 = .ok (.ireturn, 1) := by decide +kernel
theorem dX4_readOneLeg_80 : decode cX4_readOneLeg 80 = .ok (.aload_n 0, 1) := by decide +kernel
theorem dX4_readOneLeg_81 : decode cX4_readOneLeg 81 = .ok (.getfield 20, 3) := by decide +kernel
theorem dX4_readOneLeg_84 : decode cX4_readOneLeg 84 = .ok (.lload_n 1, 1) := by decide +kernel
theorem dX4_readOneLeg_85 : decode cX4_readOneLeg 85 = .ok (.lload_n 3, 1) := by decide +kernel
theorem dX4_readOneLeg_86 : decode cX4_readOneLeg 86 = .ok (.aload_n 0, 1) := by decide +kernel
theorem dX4_readOneLeg_87 : decode cX4_readOneLeg 87 = .ok (.getfield 46, 3) := by decide +kernel
theorem dX4_readOneLeg_90 : decode cX4_readOneLeg 90 = .ok (.invokevirtual 52, 3) := by decide +kernel
theorem dX4_readOneLeg_93 : decode cX4_readOneLeg 93 = .ok (.iconst 1, 1) := by decide +kernel
theorem dX4_readOneLeg_94 : decode cX4_readOneLeg 94 = .ok (.ireturn, 1) := by decide +kernel
set_option maxRecDepth 20000 in
theorem ggX4_readSign_X4_signAtIndex : GoodIn wsX4_readSign wsX4_signAtIndex := goodIn_r _ [6, 1, 7, 8, 9, 10, 11, 12, 13] (by decide +kernel) (by decide +kernel)
set_option maxRecDepth 20000 in
theorem gX4_readSign_X4_signAtIndex : GoodIn wsX4_readSign (wsV RX4 56 RX4 yX4_signAtIndex wsX4_signAtIndex) := goodIn_app (goodIn_of _ (by decide +kernel)) ggX4_readSign_X4_signAtIndex
theorem dX4_readSign_0 : decode cX4_readSign 0 = .ok (.aload_n 0, 1) := by decide +kernel
theorem dX4_readSign_1 : decode cX4_readSign 1 = .ok (.invokevirtual 56, 3) := by decide +kernel
theorem dX4_readSign_4 : decode cX4_readSign 4 = .ok (.iload_n 1, 1) := by decide +kernel
theorem dX4_readSign_5 : decode cX4_readSign 5 = .ok (.if_icmp .eq 5, 3) := by decide +kernel
theorem dX4_readSign_8 : decode cX4_readSign 8 = .ok (.iconst 0, 1) := by decide +kernel
theorem dX4_readSign_9 : decode cX4_readSign 9 = .ok (.ireturn, 1) := by decide +kernel
theorem dX4_readSign_10 : decode cX4_readSign 10 = .ok (.aload_n 0, 1) := by decide +kernel
theorem dX4_readSign_11 : decode cX4_readSign 11 = .ok (.dup, 1) := by decide +kernel
theorem dX4_readSign_12 : decode cX4_readSign 12 = .ok (.getfield 28, 3) := by decide +kernel
theorem dX4_readSign_15 : decode cX4_readSign 15 = .ok (.iconst 1, 1) := by decide +kernel
theorem dX4_readSign_16 : decode cX4_readSign 16 = .ok (.iadd, 1) := by decide +kernel
theorem dX4_readSign_17 : decode cX4_readSign 17 = .ok (.putfield 28, 3) := by decide +kernel
theorem dX4_readSign_20 : decode cX4_readSign 20 = .ok (.iconst 1, 1) := by decide +kernel
theorem dX4_readSign_21 : decode cX4_readSign 21 = .ok (.ireturn, 1) := by decide +kernel
set_option maxRecDepth 20000 in
theorem ggX4_readNumber_X4_signAtIndex : GoodIn wsX4_readNumber wsX4_signAtIndex := goodIn_r _ [8, 2, 9, 10, 19, 20, 21, 22, 23] (by decide +kernel) (by decide +kernel)
set_option maxRecDepth 20000 in
theorem gX4_readNumber_X4_signAtIndex : GoodIn wsX4_readNumber (wsV RX4 56 RX4 yX4_signAtIndex wsX4_signAtIndex) := goodIn_app (goodIn_of _ (by decide +kernel)) ggX4_readNumber_X4_signAtIndex
set_option maxRecDepth 20000 in
theorem ggX4_readNumber_X4_readSign : GoodIn wsX4_readNumber wsX4_readSign := goodIn_r _ [14, 2, 4, 5, 6, 7, 8, 9, 10, 19, 20, 21, 22, 23] (by decide +kernel) (by decide +kernel)
set_option maxRecDepth 20000 in
theorem gX4_readNumber_X4_readSign : GoodIn wsX4_readNumber (wsV RX4 38 RX4 yX4_readSign wsX4_readSign) := goodIn_app (goodIn_of _ (by decide +kernel)) ggX4_readNumber_X4_readSign
set_option maxRecDepth 20000 in
theorem ggX4_readNumber_X4_canTakeDigit : GoodIn wsX4_readNumber wsX4_canTakeDigit := goodIn_r _ [18, 1, 3, 4, 5, 6, 7, 8, 2, 9, 10, 19, 20, 21, 22, 23] (by decide +kernel) (by decide +kernel)
set_option maxRecDepth 20000 in
theorem gX4_readNumber_X4_canTakeDigit : GoodIn wsX4_readNumber (wsV RX4 60 RX4 yX4_canTakeDigit wsX4_canTakeDigit) := goodIn_app (goodIn_of _ (by decide +kernel)) ggX4_readNumber_X4_canTakeDigit
theorem dX4_readNumber_0 : decode cX4_readNumber 0 = .ok (.aload_n 0, 1) := by decide +kernel
theorem dX4_readNumber_1 : decode cX4_readNumber 1 = .ok (.lconst 0, 1) := by decide +kernel
theorem dX4_readNumber_2 : decode cX4_readNumber 2 = .ok (.putfield 46, 3) := by decide +kernel
theorem dX4_readNumber_5 : decode cX4_readNumber 5 = .ok (.aload_n 0, 1) := by decide +kernel
theorem dX4_readNumber_6 : decode cX4_readNumber 6 = .ok (.invokevirtual 56, 3) := by decide +kernel
theorem dX4_readNumber_9 : decode cX4_readNumber 9 = .ok (.bipush 48, 2) := by decide +kernel
theorem dX4_readNumber_11 : decode cX4_readNumber 11 = .ok (.if_icmp .ne 22, 3) := by decide +kernel
theorem dX4_readNumber_14 : decode cX4_readNumber 14 = .ok (.iload_n 1, 1) := by decide +kernel
theorem dX4_readNumber_15 : decode cX4_readNumber 15 = .ok (.ifCond .ne 16, 3) := by decide +kernel
theorem dX4_readNumber_18 : decode cX4_readNumber 18 = .ok (.aload_n 0, 1) := by decide +kernel
theorem dX4_readNumber_19 : decode cX4_readNumber 19 = .ok (.bipush 48, 2) := by decide +kernel
theorem dX4_readNumber_21 : decode cX4_readNumber 21 = .ok (.invokevirtual 38, 3) := by decide +kernel
theorem dX4_readNumber_24 : decode cX4_readNumber 24 = .ok (.ifCond .eq 7, 3) := by decide +kernel
theorem dX4_readNumber_27 : decode cX4_readNumber 27 = .ok (.iconst 1, 1) := by decide +kernel
theorem dX4_readNumber_28 : decode cX4_readNumber 28 = .ok (.goto 4, 3) := by decide +kernel
theorem dX4_readNumber_31 : decode cX4_readNumber 31 = .ok (.iconst 0, 1) := by decide +kernel
theorem dX4_readNumber_32 : decode cX4_readNumber 32 = .ok (.ireturn, 1) := by decide +kernel
theorem dX4_readNumber_33 : decode cX4_readNumber 33 = .ok (.aload_n 0, 1) := by decide +kernel
theorem dX4_readNumber_34 : decode cX4_readNumber 34 = .ok (.getfield 28, 3) := by decide +kernel
theorem dX4_readNumber_37 : decode cX4_readNumber 37 = .ok (.istore_n 3, 1) := by decide +kernel
theorem dX4_readNumber_38 : decode cX4_readNumber 38 = .ok (.iconst 0, 1) := by decide +kernel
theorem dX4_readNumber_39 : decode cX4_readNumber 39 = .ok (.istore 4, 2) := by decide +kernel
theorem dX4_readNumber_41 : decode cX4_readNumber 41 = .ok (.iload 4, 2) := by decide +kernel
theorem dX4_readNumber_43 : decode cX4_readNumber 43 = .ok (.bipush 80, 2) := by decide +kernel
theorem dX4_readNumber_45 : decode cX4_readNumber 45 = .ok (.if_icmp .ge 48, 3) := by decide +kernel
theorem dX4_readNumber_48 : decode cX4_readNumber 48 = .ok (.aload_n 0, 1) := by decide +kernel
theorem dX4_readNumber_49 : decode cX4_readNumber 49 = .ok (.iload_n 2, 1) := by decide +kernel
theorem dX4_readNumber_50 : decode cX4_readNumber 50 = .ok (.invokevirtual 60, 3) := by decide +kernel
theorem dX4_readNumber_53 : decode cX4_readNumber 53 = .ok (.ifCond .eq 40, 3) := by decide +kernel
theorem dX4_readNumber_56 : decode cX4_readNumber 56 = .ok (.aload_n 0, 1) := by decide +kernel
theorem dX4_readNumber_57 : decode cX4_readNumber 57 = .ok (.aload_n 0, 1) := by decide +kernel
theorem dX4_readNumber_58 : decode cX4_readNumber 58 = .ok (.getfield 46, 3) := by decide +kernel
theorem dX4_readNumber_61 : decode cX4_readNumber 61 = .ok (.ldc2_w 64, 3) := by decide +kernel
theorem dX4_readNumber_64 : decode cX4_readNumber 64 = .ok (.lmul, 1) := by decide +kernel
theorem dX4_readNumber_65 : decode cX4_readNumber 65 = .ok (.aload_n 0, 1) := by decide +kernel
theorem dX4_readNumber_66 : decode cX4_readNumber 66 = .ok (.invokevirtual 56, 3) := by decide +kernel
theorem dX4_readNumber_69 : decode cX4_readNumber 69 = .ok (.bipush 48, 2) := by decide +kernel
theorem dX4_readNumber_71 : decode cX4_readNumber 71 = .ok (.isub, 1) := by decide +kernel
theorem dX4_readNumber_72 : decode cX4_readNumber 72 = .ok (.i2l, 1) := by decide +kernel
theorem dX4_readNumber_73 : decode cX4_readNumber 73 = .ok (.ladd, 1) := by decide +kernel
theorem dX4_readNumber_74 : decode cX4_readNumber 74 = .ok (.putfield 46, 3) := by decide +kernel
theorem dX4_readNumber_77 : decode cX4_readNumber 77 = .ok (.aload_n 0, 1) := by decide +kernel
theorem dX4_readNumber_78 : decode cX4_readNumber 78 = .ok (.dup, 1) := by decide +kernel
theorem dX4_readNumber_79 : decode cX4_readNumber 79 = .ok (.getfield 28, 3) := by decide +kernel
theorem dX4_readNumber_82 : decode cX4_readNumber 82 = .ok (.iconst 1, 1) := by decide +kernel
theorem dX4_readNumber_83 : decode cX4_readNumber 83 = .ok (.iadd, 1) := by decide +kernel
theorem dX4_readNumber_84 : decode cX4_readNumber 84 = .ok (.putfield 28, 3) := by decide +kernel
theorem dX4_readNumber_87 : decode cX4_readNumber 87 = .ok (.iinc 4 1, 3) := by decide +kernel
theorem dX4_readNumber_90 : decode cX4_readNumber 90 = .ok (.goto (-49), 3) := by decide +kernel
theorem dX4_readNumber_93 : decode cX4_readNumber 93 = .ok (.aload_n 0, 1) := by decide +kernel
theorem dX4_readNumber_94 : decode cX4_readNumber 94 = .ok (.getfield 28, 3) := by decide +kernel
theorem dX4_readNumber_97 : decode cX4_readNumber 97 = .ok (.iload_n 3, 1) := by decide +kernel
theorem dX4_readNumber_98 : decode cX4_readNumber 98 = .ok (.if_icmp .le 7, 3) := by decide +kernel
theorem dX4_readNumber_101 : decode cX4_readNumber 101 = .ok (.iconst 1, 1) := by decide +kernel
theorem dX4_readNumber_102 : decode cX4_readNumber 102 = .ok (.goto 4, 3) := by decide +kernel
theorem dX4_readNumber_105 : decode cX4_readNumber 105 = .ok (.iconst 0, 1) := by decide +kernel
theorem dX4_readNumber_106 : decode cX4_readNumber 106 = .ok (.ireturn, 1) := by decide +kernel
set_option maxRecDepth 20000 in
theorem ggX4_canTakeDigit_X4_signAtIndex : GoodIn wsX4_canTakeDigit wsX4_signAtIndex := goodIn_r _ [7, 8, 9, 10, 11, 12, 13, 14, 15] (by decide +kernel) (by decide +kernel)
set_option maxRecDepth 20000 in
theorem gX4_canTakeDigit_X4_signAtIndex : GoodIn wsX4_canTakeDigit (wsV RX4 56 RX4 yX4_signAtIndex wsX4_signAtIndex) := goodIn_app (goodIn_of _ (by decide +kernel)) ggX4_canTakeDigit_X4_signAtIndex
theorem dX4_canTakeDigit_0 : decode cX4_canTakeDigit 0 = .ok (.aload_n 0, 1) := by decide +kernel
theorem dX4_canTakeDigit_1 : decode cX4_canTakeDigit 1 = .ok (.invokevirtual 56, 3) := by decide +kernel
theorem dX4_canTakeDigit_4 : decode cX4_canTakeDigit 4 = .ok (.istore_n 2, 1) := by decide +kernel
theorem dX4_canTakeDigit_5 : decode cX4_canTakeDigit 5 = .ok (.iload_n 2, 1) := by decide +kernel
theorem dX4_canTakeDigit_6 : decode cX4_canTakeDigit 6 = .ok (.bipush 48, 2) := by decide +kernel
theorem dX4_canTakeDigit_8 : decode cX4_canTakeDigit 8 = .ok (.if_icmp .lt 33, 3) := by decide +kernel
theorem dX4_canTakeDigit_11 : decode cX4_canTakeDigit 11 = .ok (.iload_n 2, 1) := by decide +kernel
theorem dX4_canTakeDigit_12 : decode cX4_canTakeDigit 12 = .ok (.bipush 57, 2) := by decide +kernel
theorem dX4_canTakeDigit_14 : decode cX4_canTakeDigit 14 = .ok (.if_icmp .gt 27, 3) := by decide +kernel
theorem dX4_canTakeDigit_17 : decode cX4_canTakeDigit 17 = .ok (.aload_n 0, 1) := by decide +kernel
theorem dX4_canTakeDigit_18 : decode cX4_canTakeDigit 18 = .ok (.getfield 46, 3) := by decide +kernel
theorem dX4_canTakeDigit_21 : decode cX4_canTakeDigit 21 = .ok (.ldc2_w 64, 3) := by decide +kernel
theorem dX4_canTakeDigit_24 : decode cX4_canTakeDigit 24 = .ok (.lmul, 1) := by decide +kernel
theorem dX4_canTakeDigit_25 : decode cX4_canTakeDigit 25 = .ok (.iload_n 2, 1) := by decide +kernel
theorem dX4_canTakeDigit_26 : decode cX4_canTakeDigit 26 = .ok (.bipush 48, 2) := by decide +kernel
theorem dX4_canTakeDigit_28 : decode cX4_canTakeDigit 28 = .ok (.isub, 1) := by decide +kernel
theorem dX4_canTakeDigit_29 : decode cX4_canTakeDigit 29 = .ok (.i2l, 1) := by decide +kernel
theorem dX4_canTakeDigit_30 : decode cX4_canTakeDigit 30 = .ok (.ladd, 1) := by decide +kernel
theorem dX4_canTakeDigit_31 : decode cX4_canTakeDigit 31 = .ok (.iload_n 1, 1) := by decide +kernel
theorem dX4_canTakeDigit_32 : decode cX4_canTakeDigit 32 = .ok (.i2l, 1) := by decide +kernel
theorem dX4_canTakeDigit_33 : decode cX4_canTakeDigit 33 = .ok (.lcmp, 1) := by decide +kernel
theorem dX4_canTakeDigit_34 : decode cX4_canTakeDigit 34 = .ok (.ifCond .gt 7, 3) := by decide +kernel
theorem dX4_canTakeDigit_37 : decode cX4_canTakeDigit 37 = .ok (.iconst 1, 1) := by decide +kernel
theorem dX4_canTakeDigit_38 : decode cX4_canTakeDigit 38 = .ok (.goto 4, 3) := by decide +kernel
theorem dX4_canTakeDigit_41 : decode cX4_canTakeDigit 41 = .ok (.iconst 0, 1) := by decide +kernel
theorem dX4_canTakeDigit_42 : decode cX4_canTakeDigit 42 = .ok (.ireturn, 1) := by decide +kernel
theorem dX4_signAtIndex_0 : decode cX4_signAtIndex 0 = .ok (.aload_n 0, 1) := by decide +kernel
theorem dX4_signAtIndex_1 : decode cX4_signAtIndex 1 = .ok (.getfield 28, 3) := by decide +kernel
theorem dX4_signAtIndex_4 : decode cX4_signAtIndex 4 = .ok (.ifCond .lt 38, 3) := by decide +kernel
theorem dX4_signAtIndex_7 : decode cX4_signAtIndex 7 = .ok (.aload_n 0, 1) := by decide +kernel
theorem dX4_signAtIndex_8 : decode cX4_signAtIndex 8 = .ok (.getfield 28, 3) := by decide +kernel
theorem dX4_signAtIndex_11 : decode cX4_signAtIndex 11 = .ok (.aload_n 0, 1) := by decide +kernel
theorem dX4_signAtIndex_12 : decode cX4_signAtIndex 12 = .ok (.getfield 24, 3) := by decide +kernel
theorem dX4_signAtIndex_15 : decode cX4_signAtIndex 15 = .ok (.if_icmp .ge 27, 3) := by decide +kernel
theorem dX4_signAtIndex_18 : decode cX4_signAtIndex 18 = .ok (.aload_n 0, 1) := by decide +kernel
theorem dX4_signAtIndex_19 : decode cX4_signAtIndex 19 = .ok (.getfield 28, 3) := by decide +kernel
theorem dX4_signAtIndex_22 : decode cX4_signAtIndex 22 = .ok (.aload_n 0, 1) := by decide +kernel
theorem dX4_signAtIndex_23 : decode cX4_signAtIndex 23 = .ok (.getfield 9, 3) := by decide +kernel
theorem dX4_signAtIndex_26 : decode cX4_signAtIndex 26 = .ok (.arraylength, 1) := by decide +kernel
theorem dX4_signAtIndex_27 : decode cX4_signAtIndex 27 = .ok (.if_icmp .ge 15, 3) := by decide +kernel
theorem dX4_signAtIndex_30 : decode cX4_signAtIndex 30 = .ok (.aload_n 0, 1) := by decide +kernel
theorem dX4_signAtIndex_31 : decode cX4_signAtIndex 31 = .ok (.getfield 9, 3) := by decide +kernel
theorem dX4_signAtIndex_34 : decode cX4_signAtIndex 34 = .ok (.aload_n 0, 1) := by decide +kernel
theorem dX4_signAtIndex_35 : decode cX4_signAtIndex 35 = .ok (.getfield 28, 3) := by decide +kernel
theorem dX4_signAtIndex_38 : decode cX4_signAtIndex 38 = .ok (.caload, 1) := by decide +kernel
theorem dX4_signAtIndex_39 : decode cX4_signAtIndex 39 = .ok (.goto 4, 3) := by decide +kernel
theorem dX4_signAtIndex_42 : decode cX4_signAtIndex 42 = .ok (.iconst 0, 1) := by decide +kernel
theorem dX4_signAtIndex_43 : decode cX4_signAtIndex 43 = .ok (.ireturn, 1) := by decide +kernel
set_option maxRecDepth 20000 in
theorem ggX5_init_X3_init : GoodIn wsX5_init wsX3_init := goodIn_r _ [10, 11, 2, 3, 12, 13, 14, 15, 16, 17, 18, 19, 20, 21, 22, 23] (by decide +kernel) (by decide +kernel)
set_option maxRecDepth 20000 in
theorem gX5_init_X3_init : GoodIn wsX5_init (wsX3_init) := ggX5_init_X3_init
theorem dX5_init_0 : decode cX5_init 0 = .ok (.aload_n 0, 1) := by decide +kernel
theorem dX5_init_1 : decode cX5_init 1 = .ok (.invokespecial 3, 3) := by decide +kernel
theorem dX5_init_4 : decode cX5_init 4 = .ok (.aload_n 0, 1) := by decide +kernel
theorem dX5_init_5 : decode cX5_init 5 = .ok (.new 9, 3) := by decide +kernel
theorem dX5_init_8 : decode cX5_init 8 = .ok (.dup, 1) := by decide +kernel
theorem dX5_init_9 : decode cX5_init 9 = .ok (.bipush 8, 2) := by decide +kernel
theorem dX5_init_11 : decode cX5_init 11 = .ok (.invokespecial 11, 3) := by decide +kernel
theorem dX5_init_14 : decode cX5_init 14 = .ok (.putfield 14, 3) := by decide +kernel
theorem dX5_init_17 : decode cX5_init 17 = .ok (.return_, 1) := by decide +kernel
set_option maxRecDepth 20000 in
theorem ggX5_copyFrom_X3_copyFrom : GoodIn wsX5_copyFrom wsX3_copyFrom := goodIn_r _ [10, 11, 12, 13, 14, 15, 16, 17, 23, 24, 25, 26] (by decide +kernel) (by decide +kernel)
set_option maxRecDepth 20000 in
theorem gX5_copyFrom_X3_copyFrom : GoodIn wsX5_copyFrom (wsV RX5 20 RX3 yX3_copyFrom wsX3_copyFrom) := goodIn_app (goodIn_of _ (by decide +kernel)) ggX5_copyFrom_X3_copyFrom
theorem dX5_copyFrom_0 : decode cX5_copyFrom 0 = .ok (.aload_n 0, 1) := by decide +kernel
theorem dX5_copyFrom_1 : decode cX5_copyFrom 1 = .ok (.getfield 14, 3) := by decide +kernel
theorem dX5_copyFrom_4 : decode cX5_copyFrom 4 = .ok (.aload_n 1, 1) := by decide +kernel
theorem dX5_copyFrom_5 : decode cX5_copyFrom 5 = .ok (.getfield 14, 3) := by decide +kernel
theorem dX5_copyFrom_8 : decode cX5_copyFrom 8 = .ok (.invokevirtual 20, 3) := by decide +kernel
theorem dX5_copyFrom_11 : decode cX5_copyFrom 11 = .ok (.aload_n 0, 1) := by decide +kernel
theorem dX5_copyFrom_12 : decode cX5_copyFrom 12 = .ok (.aload_n 1, 1) := by decide +kernel
theorem dX5_copyFrom_13 : decode cX5_copyFrom 13 = .ok (.getfield 24, 3) := by decide +kernel
theorem dX5_copyFrom_16 : decode cX5_copyFrom 16 = .ok (.putfield 24, 3) := by decide +kernel
theorem dX5_copyFrom_19 : decode cX5_copyFrom 19 = .ok (.aload_n 0, 1) := by decide +kernel
theorem dX5_copyFrom_20 : decode cX5_copyFrom 20 = .ok (.aload_n 1, 1) := by decide +kernel
theorem dX5_copyFrom_21 : decode cX5_copyFrom 21 = .ok (.getfield 28, 3) := by decide +kernel
theorem dX5_copyFrom_24 : decode cX5_copyFrom 24 = .ok (.putfield 28, 3) := by decide +kernel
theorem dX5_copyFrom_27 : decode cX5_copyFrom 27 = .ok (.aload_n 0, 1) := by decide +kernel
theorem dX5_copyFrom_28 : decode cX5_copyFrom 28 = .ok (.aload_n 1, 1) := by decide +kernel
theorem dX5_copyFrom_29 : decode cX5_copyFrom 29 = .ok (.getfield 31, 3) := by decide +kernel
theorem dX5_copyFrom_32 : decode cX5_copyFrom 32 = .ok (.putfield 31, 3) := by decide +kernel
theorem dX5_copyFrom_35 : decode cX5_copyFrom 35 = .ok (.aload_n 0, 1) := by decide +kernel
theorem dX5_copyFrom_36 : decode cX5_copyFrom 36 = .ok (.aload_n 1, 1) := by decide +kernel
theorem dX5_copyFrom_37 : decode cX5_copyFrom 37 = .ok (.getfield 34, 3) := by decide +kernel
theorem dX5_copyFrom_40 : decode cX5_copyFrom 40 = .ok (.putfield 34, 3) := by decide +kernel
theorem dX5_copyFrom_43 : decode cX5_copyFrom 43 = .ok (.return_, 1) := by decide +kernel
set_option maxRecDepth 20000 in
theorem ggX5_addLeg_X3_add : GoodIn wsX5_addLeg wsX3_add := goodIn_r _ [6, 7, 8, 9, 10, 11, 12, 13, 31, 32, 33, 34] (by decide +kernel) (by decide +kernel)
set_option maxRecDepth 20000 in
theorem gX5_addLeg_X3_add : GoodIn wsX5_addLeg (wsV RX5 37 RX3 yX3_add wsX3_add) := goodIn_app (goodIn_of _ (by decide +kernel)) ggX5_addLeg_X3_add
set_option maxRecDepth 20000 in
theorem ggX5_addLeg_X5_takeFirstLeg : GoodIn wsX5_addLeg wsX5_takeFirstLeg := goodIn_r _ [18, 1, 19, 20, 21, 22, 23, 24, 12, 25, 26, 27, 28, 29, 30, 31, 32, 33, 34] (by decide +kernel) (by decide +kernel)
set_option maxRecDepth 20000 in
theorem gX5_addLeg_X5_takeFirstLeg : GoodIn wsX5_addLeg (wsV RX5 41 RX5 yX5_takeFirstLeg wsX5_takeFirstLeg) := goodIn_app (goodIn_of _ (by decide +kernel)) ggX5_addLeg_X5_takeFirstLeg
theorem dX5_addLeg_0 : decode cX5_addLeg 0 = .ok (.aload_n 0, 1) := by decide +kernel
theorem dX5_addLeg_1 : decode cX5_addLeg 1 = .ok (.getfield 14, 3) := by decide +kernel
theorem dX5_addLeg_4 : decode cX5_addLeg 4 = .ok (.lload_n 1, 1) := by decide +kernel
theorem dX5_addLeg_5 : decode cX5_addLeg 5 = .ok (.lload_n 3, 1) := by decide +kernel
theorem dX5_addLeg_6 : decode cX5_addLeg 6 = .ok (.lload 5, 2) := by decide +kernel
theorem dX5_addLeg_8 : decode cX5_addLeg 8 = .ok (.invokevirtual 37, 3) := by decide +kernel
theorem dX5_addLeg_11 : decode cX5_addLeg 11 = .ok (.aload_n 0, 1) := by decide +kernel
theorem dX5_addLeg_12 : decode cX5_addLeg 12 = .ok (.invokevirtual 41, 3) := by decide +kernel
theorem dX5_addLeg_15 : decode cX5_addLeg 15 = .ok (.return_, 1) := by decide +kernel
set_option maxRecDepth 20000 in
theorem ggX5_minutesLeft_X9_at : GoodIn wsX5_minutesLeft wsX9_at := goodIn_r _ [6] (by decide +kernel) (by decide +kernel)
set_option maxRecDepth 20000 in
theorem gX5_minutesLeft_X9_at_n52 : GoodIn wsX5_minutesLeft (wsX9_at) := ggX5_minutesLeft_X9_at
theorem dX5_minutesLeft_0 : decode cX5_minutesLeft 0 = .ok (.aload_n 0, 1) := by decide +kernel
theorem dX5_minutesLeft_1 : decode cX5_minutesLeft 1 = .ok (.getfield 14, 3) := by decide +kernel
theorem dX5_minutesLeft_4 : decode cX5_minutesLeft 4 = .ok (.getfield 44, 3) := by decide +kernel
theorem dX5_minutesLeft_7 : decode cX5_minutesLeft 7 = .ok (.ifCond .le 17, 3) := by decide +kernel
theorem dX5_minutesLeft_10 : decode cX5_minutesLeft 10 = .ok (.aload_n 0, 1) := by decide +kernel
theorem dX5_minutesLeft_11 : decode cX5_minutesLeft 11 = .ok (.getfield 14, 3) := by decide +kernel
theorem dX5_minutesLeft_14 : decode cX5_minutesLeft 14 = .ok (.getfield 48, 3) := by decide +kernel
theorem dX5_minutesLeft_17 : decode cX5_minutesLeft 17 = .ok (.iconst 0, 1) := by decide +kernel
theorem dX5_minutesLeft_18 : decode cX5_minutesLeft 18 = .ok (.invokestatic 52, 3) := by decide +kernel
theorem dX5_minutesLeft_21 : decode cX5_minutesLeft 21 = .ok (.goto 4, 3) := by decide +kernel
theorem dX5_minutesLeft_24 : decode cX5_minutesLeft 24 = .ok (.lconst 0, 1) := by decide +kernel
theorem dX5_minutesLeft_25 : decode cX5_minutesLeft 25 = .ok (.lreturn, 1) := by decide +kernel
set_option maxRecDepth 20000 in
theorem ggX5_sailMinute_X9_cosine : GoodIn wsX5_sailMinute wsX9_cosine := goodIn_r _ [12, 13, 14, 15, 16, 11, 17, 18, 19, 20] (by decide +kernel) (by decide +kernel)
set_option maxRecDepth 20000 in
theorem gX5_sailMinute_X9_cosine_n58 : GoodIn wsX5_sailMinute (wsX9_cosine) := ggX5_sailMinute_X9_cosine
set_option maxRecDepth 20000 in
theorem ggX5_sailMinute_X9_limited : GoodIn wsX5_sailMinute wsX9_limited := goodIn_r _ [22, 23, 24, 25, 26, 27, 28, 29] (by decide +kernel) (by decide +kernel)
set_option maxRecDepth 20000 in
theorem gX5_sailMinute_X9_limited_n66 : GoodIn wsX5_sailMinute (wsX9_limited) := ggX5_sailMinute_X9_limited
set_option maxRecDepth 20000 in
theorem ggX5_sailMinute_X5_sailMinuteOfLeg : GoodIn wsX5_sailMinute wsX5_sailMinuteOfLeg := goodIn_r _ [34, 8, 35, 9, 2, 36, 11, 37, 38, 39, 40, 41, 42, 43, 44, 45, 46, 47, 48, 49, 50, 25, 51, 52, 53, 54, 33, 55, 56, 4, 57, 58, 59, 60, 61, 62, 63, 64, 65, 66] (by decide +kernel) (by decide +kernel)
set_option maxRecDepth 20000 in
theorem gX5_sailMinute_X5_sailMinuteOfLeg : GoodIn wsX5_sailMinute (wsV RX5 70 RX5 yX5_sailMinuteOfLeg wsX5_sailMinuteOfLeg) := goodIn_app (goodIn_of _ (by decide +kernel)) ggX5_sailMinute_X5_sailMinuteOfLeg
theorem dX5_sailMinute_0 : decode cX5_sailMinute 0 = .ok (.aload_n 0, 1) := by decide +kernel
theorem dX5_sailMinute_1 : decode cX5_sailMinute 1 = .ok (.aload_n 0, 1) := by decide +kernel
theorem dX5_sailMinute_2 : decode cX5_sailMinute 2 = .ok (.getfield 24, 3) := by decide +kernel
theorem dX5_sailMinute_5 : decode cX5_sailMinute 5 = .ok (.aload_n 0, 1) := by decide +kernel
theorem dX5_sailMinute_6 : decode cX5_sailMinute 6 = .ok (.getfield 31, 3) := by decide +kernel
theorem dX5_sailMinute_9 : decode cX5_sailMinute 9 = .ok (.ldc2_w 56, 3) := by decide +kernel
theorem dX5_sailMinute_12 : decode cX5_sailMinute 12 = .ok (.lmul, 1) := by decide +kernel
theorem dX5_sailMinute_13 : decode cX5_sailMinute 13 = .ok (.aload_n 0, 1) := by decide +kernel
theorem dX5_sailMinute_14 : decode cX5_sailMinute 14 = .ok (.getfield 28, 3) := by decide +kernel
theorem dX5_sailMinute_17 : decode cX5_sailMinute 17 = .ok (.invokestatic 58, 3) := by decide +kernel
theorem dX5_sailMinute_20 : decode cX5_sailMinute 20 = .ok (.lmul, 1) := by decide +kernel
theorem dX5_sailMinute_21 : decode cX5_sailMinute 21 = .ok (.ldc2_w 62, 3) := by decide +kernel
theorem dX5_sailMinute_24 : decode cX5_sailMinute 24 = .ok (.ldiv, 1) := by decide +kernel
theorem dX5_sailMinute_25 : decode cX5_sailMinute 25 = .ok (.ladd, 1) := by decide +kernel
theorem dX5_sailMinute_26 : decode cX5_sailMinute 26 = .ok (.ldc2_w 64, 3) := by decide +kernel
theorem dX5_sailMinute_29 : decode cX5_sailMinute 29 = .ok (.invokestatic 66, 3) := by decide +kernel
theorem dX5_sailMinute_32 : decode cX5_sailMinute 32 = .ok (.putfield 24, 3) := by decide +kernel
theorem dX5_sailMinute_35 : decode cX5_sailMinute 35 = .ok (.aload_n 0, 1) := by decide +kernel
theorem dX5_sailMinute_36 : decode cX5_sailMinute 36 = .ok (.dup, 1) := by decide +kernel
theorem dX5_sailMinute_37 : decode cX5_sailMinute 37 = .ok (.getfield 34, 3) := by decide +kernel
theorem dX5_sailMinute_40 : decode cX5_sailMinute 40 = .ok (.aload_n 0, 1) := by decide +kernel
theorem dX5_sailMinute_41 : decode cX5_sailMinute 41 = .ok (.getfield 31, 3) := by decide +kernel
theorem dX5_sailMinute_44 : decode cX5_sailMinute 44 = .ok (.ladd, 1) := by decide +kernel
theorem dX5_sailMinute_45 : decode cX5_sailMinute 45 = .ok (.putfield 34, 3) := by decide +kernel
theorem dX5_sailMinute_48 : decode cX5_sailMinute 48 = .ok (.aload_n 0, 1) := by decide +kernel
theorem dX5_sailMinute_49 : decode cX5_sailMinute 49 = .ok (.getfield 14, 3) := by decide +kernel
theorem dX5_sailMinute_52 : decode cX5_sailMinute 52 = .ok (.getfield 44, 3) := by decide +kernel
theorem dX5_sailMinute_55 : decode cX5_sailMinute 55 = .ok (.ifCond .le 7, 3) := by decide +kernel
theorem dX5_sailMinute_58 : decode cX5_sailMinute 58 = .ok (.aload_n 0, 1) := by decide +kernel
theorem dX5_sailMinute_59 : decode cX5_sailMinute 59 = .ok (.invokevirtual 70, 3) := by decide +kernel
theorem dX5_sailMinute_62 : decode cX5_sailMinute 62 = .ok (.return_, 1) := by decide +kernel
set_option maxRecDepth 20000 in
theorem ggX5_sailMinuteOfLeg_X9_at : GoodIn wsX5_sailMinuteOfLeg wsX9_at := goodIn_r _ [7] (by decide +kernel) (by decide +kernel)
set_option maxRecDepth 20000 in
theorem gX5_sailMinuteOfLeg_X9_at_n52 : GoodIn wsX5_sailMinuteOfLeg (wsX9_at) := ggX5_sailMinuteOfLeg_X9_at
set_option maxRecDepth 20000 in
theorem ggX5_sailMinuteOfLeg_X9_write : GoodIn wsX5_sailMinuteOfLeg wsX9_write := goodIn_r _ [9] (by decide +kernel) (by decide +kernel)
set_option maxRecDepth 20000 in
theorem gX5_sailMinuteOfLeg_X9_write_n73 : GoodIn wsX5_sailMinuteOfLeg (wsX9_write) := ggX5_sailMinuteOfLeg_X9_write
set_option maxRecDepth 20000 in
theorem ggX5_sailMinuteOfLeg_X3_dropFirst : GoodIn wsX5_sailMinuteOfLeg wsX3_dropFirst := goodIn_r _ [14, 15, 16, 17, 18, 19, 20, 21, 22, 5, 6, 7, 8, 9, 36, 37, 38, 39] (by decide +kernel) (by decide +kernel)
set_option maxRecDepth 20000 in
theorem gX5_sailMinuteOfLeg_X3_dropFirst : GoodIn wsX5_sailMinuteOfLeg (wsV RX5 77 RX3 yX3_dropFirst wsX3_dropFirst) := goodIn_app (goodIn_of _ (by decide +kernel)) ggX5_sailMinuteOfLeg_X3_dropFirst
set_option maxRecDepth 20000 in
theorem ggX5_sailMinuteOfLeg_X5_takeFirstLeg : GoodIn wsX5_sailMinuteOfLeg wsX5_takeFirstLeg := goodIn_r _ [27, 1, 3, 28, 29, 30, 4, 5, 6, 7, 31, 32, 33, 34, 35, 36, 37, 38, 39] (by decide +kernel) (by decide +kernel)
set_option maxRecDepth 20000 in
theorem gX5_sailMinuteOfLeg_X5_takeFirstLeg : GoodIn wsX5_sailMinuteOfLeg (wsV RX5 41 RX5 yX5_takeFirstLeg wsX5_takeFirstLeg) := goodIn_app (goodIn_of _ (by decide +kernel)) ggX5_sailMinuteOfLeg_X5_takeFirstLeg
theorem dX5_sailMinuteOfLeg_0 : decode cX5_sailMinuteOfLeg 0 = .ok (.aload_n 0, 1) := by decide +kernel
theorem dX5_sailMinuteOfLeg_1 : decode cX5_sailMinuteOfLeg 1 = .ok (.getfield 14, 3) := by decide +kernel
theorem dX5_sailMinuteOfLeg_4 : decode cX5_sailMinuteOfLeg 4 = .ok (.getfield 48, 3) := by decide +kernel
theorem dX5_sailMinuteOfLeg_7 : decode cX5_sailMinuteOfLeg 7 = .ok (.iconst 0, 1) := by decide +kernel
theorem dX5_sailMinuteOfLeg_8 : decode cX5_sailMinuteOfLeg 8 = .ok (.invokestatic 52, 3) := by decide +kernel
theorem dX5_sailMinuteOfLeg_11 : decode cX5_sailMinuteOfLeg 11 = .ok (.lconst 1, 1) := by decide +kernel
theorem dX5_sailMinuteOfLeg_12 : decode cX5_sailMinuteOfLeg 12 = .ok (.lsub, 1) := by decide +kernel
theorem dX5_sailMinuteOfLeg_13 : decode cX5_sailMinuteOfLeg 13 = .ok (.lstore_n 1, 1) := by decide +kernel
theorem dX5_sailMinuteOfLeg_14 : decode cX5_sailMinuteOfLeg 14 = .ok (.aload_n 0, 1) := by decide +kernel
theorem dX5_sailMinuteOfLeg_15 : decode cX5_sailMinuteOfLeg 15 = .ok (.getfield 14, 3) := by decide +kernel
theorem dX5_sailMinuteOfLeg_18 : decode cX5_sailMinuteOfLeg 18 = .ok (.getfield 48, 3) := by decide +kernel
theorem dX5_sailMinuteOfLeg_21 : decode cX5_sailMinuteOfLeg 21 = .ok (.iconst 0, 1) := by decide +kernel
theorem dX5_sailMinuteOfLeg_22 : decode cX5_sailMinuteOfLeg 22 = .ok (.lload_n 1, 1) := by decide +kernel
theorem dX5_sailMinuteOfLeg_23 : decode cX5_sailMinuteOfLeg 23 = .ok (.invokestatic 73, 3) := by decide +kernel
theorem dX5_sailMinuteOfLeg_26 : decode cX5_sailMinuteOfLeg 26 = .ok (.lload_n 1, 1) := by decide +kernel
theorem dX5_sailMinuteOfLeg_27 : decode cX5_sailMinuteOfLeg 27 = .ok (.lconst 0, 1) := by decide +kernel
theorem dX5_sailMinuteOfLeg_28 : decode cX5_sailMinuteOfLeg 28 = .ok (.lcmp, 1) := by decide +kernel
theorem dX5_sailMinuteOfLeg_29 : decode cX5_sailMinuteOfLeg 29 = .ok (.ifCond .le 4, 3) := by decide +kernel
theorem dX5_sailMinuteOfLeg_32 : decode cX5_sailMinuteOfLeg 32 = .ok (.return_, 1) := by decide +kernel
theorem dX5_sailMinuteOfLeg_33 : decode cX5_sailMinuteOfLeg 33 = .ok (.aload_n 0, 1) := by decide +kernel
theorem dX5_sailMinuteOfLeg_34 : decode cX5_sailMinuteOfLeg 34 = .ok (.getfield 14, 3) := by decide +kernel
theorem dX5_sailMinuteOfLeg_37 : decode cX5_sailMinuteOfLeg 37 = .ok (.invokevirtual 77, 3) := by decide +kernel
theorem dX5_sailMinuteOfLeg_40 : decode cX5_sailMinuteOfLeg 40 = .ok (.aload_n 0, 1) := by decide +kernel
theorem dX5_sailMinuteOfLeg_41 : decode cX5_sailMinuteOfLeg 41 = .ok (.getfield 14, 3) := by decide +kernel
theorem dX5_sailMinuteOfLeg_44 : decode cX5_sailMinuteOfLeg 44 = .ok (.getfield 44, 3) := by decide +kernel
theorem dX5_sailMinuteOfLeg_47 : decode cX5_sailMinuteOfLeg 47 = .ok (.ifCond .ne 8, 3) := by decide +kernel
theorem dX5_sailMinuteOfLeg_50 : decode cX5_sailMinuteOfLeg 50 = .ok (.aload_n 0, 1) := by decide +kernel
theorem dX5_sailMinuteOfLeg_51 : decode cX5_sailMinuteOfLeg 51 = .ok (.lconst 0, 1) := by decide +kernel
theorem dX5_sailMinuteOfLeg_52 : decode cX5_sailMinuteOfLeg 52 = .ok (.putfield 31, 3) := by decide +kernel
theorem dX5_sailMinuteOfLeg_55 : decode cX5_sailMinuteOfLeg 55 = .ok (.aload_n 0, 1) := by decide +kernel
theorem dX5_sailMinuteOfLeg_56 : decode cX5_sailMinuteOfLeg 56 = .ok (.invokevirtual 41, 3) := by decide +kernel
theorem dX5_sailMinuteOfLeg_59 : decode cX5_sailMinuteOfLeg 59 = .ok (.return_, 1) := by decide +kernel
set_option maxRecDepth 20000 in
theorem ggX5_takeFirstLeg_X9_at : GoodIn wsX5_takeFirstLeg wsX9_at := goodIn_r _ [9] (by decide +kernel) (by decide +kernel)
set_option maxRecDepth 20000 in
theorem gX5_takeFirstLeg_X9_at_n52 : GoodIn wsX5_takeFirstLeg (wsX9_at) := ggX5_takeFirstLeg_X9_at
theorem dX5_takeFirstLeg_0 : decode cX5_takeFirstLeg 0 = .ok (.aload_n 0, 1) := by decide +kernel
theorem dX5_takeFirstLeg_1 : decode cX5_takeFirstLeg 1 = .ok (.getfield 14, 3) := by decide +kernel
theorem dX5_takeFirstLeg_4 : decode cX5_takeFirstLeg 4 = .ok (.getfield 44, 3) := by decide +kernel
theorem dX5_takeFirstLeg_7 : decode cX5_takeFirstLeg 7 = .ok (.ifCond .le 33, 3) := by decide +kernel
theorem dX5_takeFirstLeg_10 : decode cX5_takeFirstLeg 10 = .ok (.aload_n 0, 1) := by decide +kernel
theorem dX5_takeFirstLeg_11 : decode cX5_takeFirstLeg 11 = .ok (.aload_n 0, 1) := by decide +kernel
theorem dX5_takeFirstLeg_12 : decode cX5_takeFirstLeg 12 = .ok (.getfield 14, 3) := by decide +kernel
theorem dX5_takeFirstLeg_15 : decode cX5_takeFirstLeg 15 = .ok (.getfield 80, 3) := by decide +kernel
theorem dX5_takeFirstLeg_18 : decode cX5_takeFirstLeg 18 = .ok (.iconst 0, 1) := by decide +kernel
theorem dX5_takeFirstLeg_19 : decode cX5_takeFirstLeg 19 = .ok (.invokestatic 52, 3) := by decide +kernel
theorem dX5_takeFirstLeg_22 : decode cX5_takeFirstLeg 22 = .ok (.putfield 28, 3) := by decide +kernel
theorem dX5_takeFirstLeg_25 : decode cX5_takeFirstLeg 25 = .ok (.aload_n 0, 1) := by decide +kernel
theorem dX5_takeFirstLeg_26 : decode cX5_takeFirstLeg 26 = .ok (.aload_n 0, 1) := by decide +kernel
theorem dX5_takeFirstLeg_27 : decode cX5_takeFirstLeg 27 = .ok (.getfield 14, 3) := by decide +kernel
theorem dX5_takeFirstLeg_30 : decode cX5_takeFirstLeg 30 = .ok (.getfield 83, 3) := by decide +kernel
theorem dX5_takeFirstLeg_33 : decode cX5_takeFirstLeg 33 = .ok (.iconst 0, 1) := by decide +kernel
theorem dX5_takeFirstLeg_34 : decode cX5_takeFirstLeg 34 = .ok (.invokestatic 52, 3) := by decide +kernel
theorem dX5_takeFirstLeg_37 : decode cX5_takeFirstLeg 37 = .ok (.putfield 31, 3) := by decide +kernel
theorem dX5_takeFirstLeg_40 : decode cX5_takeFirstLeg 40 = .ok (.return_, 1) := by decide +kernel
set_option maxRecDepth 20000 in
theorem ggX6_init_X2_init : GoodIn wsX6_init wsX2_init := goodIn_r _ [12, 13, 2, 3, 14, 15, 16, 17, 4, 18, 23, 24] (by decide +kernel) (by decide +kernel)
set_option maxRecDepth 20000 in
theorem gX6_init_X2_init : GoodIn wsX6_init (wsX2_init) := ggX6_init_X2_init
theorem dX6_init_0 : decode cX6_init 0 = .ok (.aload_n 0, 1) := by decide +kernel
theorem dX6_init_1 : decode cX6_init 1 = .ok (.invokespecial 3, 3) := by decide +kernel
theorem dX6_init_4 : decode cX6_init 4 = .ok (.aload_n 0, 1) := by decide +kernel
theorem dX6_init_5 : decode cX6_init 5 = .ok (.bipush 6, 2) := by decide +kernel
theorem dX6_init_7 : decode cX6_init 7 = .ok (.newarray .long, 2) := by decide +kernel
theorem dX6_init_9 : decode cX6_init 9 = .ok (.putfield 9, 3) := by decide +kernel
theorem dX6_init_12 : decode cX6_init 12 = .ok (.aload_n 0, 1) := by decide +kernel
theorem dX6_init_13 : decode cX6_init 13 = .ok (.new 15, 3) := by decide +kernel
theorem dX6_init_16 : decode cX6_init 16 = .ok (.dup, 1) := by decide +kernel
theorem dX6_init_17 : decode cX6_init 17 = .ok (.iconst 5, 1) := by decide +kernel
theorem dX6_init_18 : decode cX6_init 18 = .ok (.invokespecial 17, 3) := by decide +kernel
theorem dX6_init_21 : decode cX6_init 21 = .ok (.putfield 20, 3) := by decide +kernel
theorem dX6_init_24 : decode cX6_init 24 = .ok (.return_, 1) := by decide +kernel
set_option maxRecDepth 20000 in
theorem ggX6_copyFrom_X9_copy : GoodIn wsX6_copyFrom wsX9_copy := goodIn_r _ [7] (by decide +kernel) (by decide +kernel)
set_option maxRecDepth 20000 in
theorem gX6_copyFrom_X9_copy_n24 : GoodIn wsX6_copyFrom (wsX9_copy) := ggX6_copyFrom_X9_copy
set_option maxRecDepth 20000 in
theorem ggX6_copyFrom_X2_copyFrom : GoodIn wsX6_copyFrom wsX2_copyFrom := goodIn_r _ [12, 13, 14, 5, 6, 7, 19, 20] (by decide +kernel) (by decide +kernel)
set_option maxRecDepth 20000 in
theorem gX6_copyFrom_X2_copyFrom : GoodIn wsX6_copyFrom (wsV RX6 28 RX2 yX2_copyFrom wsX2_copyFrom) := goodIn_app (goodIn_of _ (by decide +kernel)) ggX6_copyFrom_X2_copyFrom
theorem dX6_copyFrom_0 : decode cX6_copyFrom 0 = .ok (.aload_n 1, 1) := by decide +kernel
theorem dX6_copyFrom_1 : decode cX6_copyFrom 1 = .ok (.getfield 9, 3) := by decide +kernel
theorem dX6_copyFrom_4 : decode cX6_copyFrom 4 = .ok (.aload_n 0, 1) := by decide +kernel
theorem dX6_copyFrom_5 : decode cX6_copyFrom 5 = .ok (.getfield 9, 3) := by decide +kernel
theorem dX6_copyFrom_8 : decode cX6_copyFrom 8 = .ok (.invokestatic 24, 3) := by decide +kernel
theorem dX6_copyFrom_11 : decode cX6_copyFrom 11 = .ok (.aload_n 0, 1) := by decide +kernel
theorem dX6_copyFrom_12 : decode cX6_copyFrom 12 = .ok (.getfield 20, 3) := by decide +kernel
theorem dX6_copyFrom_15 : decode cX6_copyFrom 15 = .ok (.aload_n 1, 1) := by decide +kernel
theorem dX6_copyFrom_16 : decode cX6_copyFrom 16 = .ok (.getfield 20, 3) := by decide +kernel
theorem dX6_copyFrom_19 : decode cX6_copyFrom 19 = .ok (.invokevirtual 28, 3) := by decide +kernel
theorem dX6_copyFrom_22 : decode cX6_copyFrom 22 = .ok (.aload_n 0, 1) := by decide +kernel
theorem dX6_copyFrom_23 : decode cX6_copyFrom 23 = .ok (.aload_n 1, 1) := by decide +kernel
theorem dX6_copyFrom_24 : decode cX6_copyFrom 24 = .ok (.getfield 32, 3) := by decide +kernel
theorem dX6_copyFrom_27 : decode cX6_copyFrom 27 = .ok (.putfield 32, 3) := by decide +kernel
theorem dX6_copyFrom_30 : decode cX6_copyFrom 30 = .ok (.aload_n 0, 1) := by decide +kernel
theorem dX6_copyFrom_31 : decode cX6_copyFrom 31 = .ok (.aload_n 1, 1) := by decide +kernel
theorem dX6_copyFrom_32 : decode cX6_copyFrom 32 = .ok (.getfield 36, 3) := by decide +kernel
theorem dX6_copyFrom_35 : decode cX6_copyFrom 35 = .ok (.putfield 36, 3) := by decide +kernel
theorem dX6_copyFrom_38 : decode cX6_copyFrom 38 = .ok (.return_, 1) := by decide +kernel
set_option maxRecDepth 20000 in
theorem ggX6_addLine_X9_write : GoodIn wsX6_addLine wsX9_write := goodIn_r _ [5] (by decide +kernel) (by decide +kernel)
set_option maxRecDepth 20000 in
theorem gX6_addLine_X9_write_n39 : GoodIn wsX6_addLine (wsX9_write) := ggX6_addLine_X9_write
theorem dX6_addLine_0 : decode cX6_addLine 0 = .ok (.aload_n 0, 1) := by decide +kernel
theorem dX6_addLine_1 : decode cX6_addLine 1 = .ok (.getfield 32, 3) := by decide +kernel
theorem dX6_addLine_4 : decode cX6_addLine 4 = .ok (.istore_n 3, 1) := by decide +kernel
theorem dX6_addLine_5 : decode cX6_addLine 5 = .ok (.aload_n 0, 1) := by decide +kernel
theorem dX6_addLine_6 : decode cX6_addLine 6 = .ok (.getfield 9, 3) := by decide +kernel
theorem dX6_addLine_9 : decode cX6_addLine 9 = .ok (.iload_n 3, 1) := by decide +kernel
theorem dX6_addLine_10 : decode cX6_addLine 10 = .ok (.lload_n 1, 1) := by decide +kernel
theorem dX6_addLine_11 : decode cX6_addLine 11 = .ok (.invokestatic 39, 3) := by decide +kernel
theorem dX6_addLine_14 : decode cX6_addLine 14 = .ok (.aload_n 0, 1) := by decide +kernel
theorem dX6_addLine_15 : decode cX6_addLine 15 = .ok (.dup, 1) := by decide +kernel
theorem dX6_addLine_16 : decode cX6_addLine 16 = .ok (.getfield 32, 3) := by decide +kernel
theorem dX6_addLine_19 : decode cX6_addLine 19 = .ok (.iconst 1, 1) := by decide +kernel
theorem dX6_addLine_20 : decode cX6_addLine 20 = .ok (.iadd, 1) := by decide +kernel
theorem dX6_addLine_21 : decode cX6_addLine 21 = .ok (.putfield 32, 3) := by decide +kernel
theorem dX6_addLine_24 : decode cX6_addLine 24 = .ok (.iload_n 3, 1) := by decide +kernel
theorem dX6_addLine_25 : decode cX6_addLine 25 = .ok (.ireturn, 1) := by decide +kernel
set_option maxRecDepth 20000 in
theorem ggX6_addCheck_X2_add : GoodIn wsX6_addCheck wsX2_add := goodIn_r _ [7, 8, 9, 10, 11, 12, 13, 14, 15, 16, 21, 22] (by decide +kernel) (by decide +kernel)
set_option maxRecDepth 20000 in
theorem gX6_addCheck_X2_add : GoodIn wsX6_addCheck (wsV RX6 43 RX2 yX2_add wsX2_add) := goodIn_app (goodIn_of _ (by decide +kernel)) ggX6_addCheck_X2_add
theorem dX6_addCheck_0 : decode cX6_addCheck 0 = .ok (.aload_n 0, 1) := by decide +kernel
theorem dX6_addCheck_1 : decode cX6_addCheck 1 = .ok (.getfield 20, 3) := by decide +kernel
theorem dX6_addCheck_4 : decode cX6_addCheck 4 = .ok (.lload_n 1, 1) := by decide +kernel
theorem dX6_addCheck_5 : decode cX6_addCheck 5 = .ok (.invokevirtual 43, 3) := by decide +kernel
theorem dX6_addCheck_8 : decode cX6_addCheck 8 = .ok (.aload_n 0, 1) := by decide +kernel
theorem dX6_addCheck_9 : decode cX6_addCheck 9 = .ok (.dup, 1) := by decide +kernel
theorem dX6_addCheck_10 : decode cX6_addCheck 10 = .ok (.getfield 36, 3) := by decide +kernel
theorem dX6_addCheck_13 : decode cX6_addCheck 13 = .ok (.iconst 1, 1) := by decide +kernel
theorem dX6_addCheck_14 : decode cX6_addCheck 14 = .ok (.iadd, 1) := by decide +kernel
theorem dX6_addCheck_15 : decode cX6_addCheck 15 = .ok (.putfield 36, 3) := by decide +kernel
theorem dX6_addCheck_18 : decode cX6_addCheck 18 = .ok (.return_, 1) := by decide +kernel
set_option maxRecDepth 20000 in
theorem ggX7_init_X5_init : GoodIn wsX7_init wsX5_init := goodIn_r _ [23, 24, 2, 3, 25, 26, 27, 28, 29, 30, 31, 32, 33, 34, 35, 36, 4, 37, 38, 39, 99, 100, 101, 102, 77, 78, 79, 80, 81] (by decide +kernel) (by decide +kernel)
set_option maxRecDepth 20000 in
theorem gX7_init_X5_init_n17 : GoodIn wsX7_init (wsX5_init) := ggX7_init_X5_init
set_option maxRecDepth 20000 in
theorem ggX7_init_X0_init : GoodIn wsX7_init wsX0_init := goodIn_r _ [41, 42, 2, 3, 4, 43, 44, 45, 46, 82, 83, 84, 85, 86, 87, 88] (by decide +kernel) (by decide +kernel)
set_option maxRecDepth 20000 in
theorem gX7_init_X0_init_n24 : GoodIn wsX7_init (wsX0_init) := ggX7_init_X0_init
set_option maxRecDepth 20000 in
theorem ggX7_init_X8_init : GoodIn wsX7_init wsX8_init := goodIn_r _ [48, 49, 2, 3, 50, 51, 52, 53, 54, 55, 56, 57, 58, 59, 60, 34, 35, 36, 4, 61, 103, 104, 89, 90, 91, 92, 93, 94] (by decide +kernel) (by decide +kernel)
set_option maxRecDepth 20000 in
theorem gX7_init_X8_init_n31 : GoodIn wsX7_init (wsX8_init) := ggX7_init_X8_init
set_option maxRecDepth 20000 in
theorem ggX7_init_X6_init : GoodIn wsX7_init wsX6_init := goodIn_r _ [63, 64, 2, 3, 4, 65, 66, 51, 52, 67, 68, 57, 58, 59, 60, 34, 35, 36, 61, 95, 96, 97, 98, 103, 104] (by decide +kernel) (by decide +kernel)
set_option maxRecDepth 20000 in
theorem gX7_init_X6_init_n38 : GoodIn wsX7_init (wsX6_init) := ggX7_init_X6_init
theorem dX7_init_0 : decode cX7_init 0 = .ok (.aload_n 0, 1) := by decide +kernel
theorem dX7_init_1 : decode cX7_init 1 = .ok (.invokespecial 3, 3) := by decide +kernel
theorem dX7_init_4 : decode cX7_init 4 = .ok (.aload_n 0, 1) := by decide +kernel
theorem dX7_init_5 : decode cX7_init 5 = .ok (.bipush 9, 2) := by decide +kernel
theorem dX7_init_7 : decode cX7_init 7 = .ok (.newarray .long, 2) := by decide +kernel
theorem dX7_init_9 : decode cX7_init 9 = .ok (.putfield 9, 3) := by decide +kernel
theorem dX7_init_12 : decode cX7_init 12 = .ok (.aload_n 0, 1) := by decide +kernel
theorem dX7_init_13 : decode cX7_init 13 = .ok (.new 15, 3) := by decide +kernel
theorem dX7_init_16 : decode cX7_init 16 = .ok (.dup, 1) := by decide +kernel
theorem dX7_init_17 : decode cX7_init 17 = .ok (.invokespecial 17, 3) := by decide +kernel
theorem dX7_init_20 : decode cX7_init 20 = .ok (.putfield 18, 3) := by decide +kernel
theorem dX7_init_23 : decode cX7_init 23 = .ok (.aload_n 0, 1) := by decide +kernel
theorem dX7_init_24 : decode cX7_init 24 = .ok (.new 22, 3) := by decide +kernel
theorem dX7_init_27 : decode cX7_init 27 = .ok (.dup, 1) := by decide +kernel
theorem dX7_init_28 : decode cX7_init 28 = .ok (.invokespecial 24, 3) := by decide +kernel
theorem dX7_init_31 : decode cX7_init 31 = .ok (.putfield 25, 3) := by decide +kernel
theorem dX7_init_34 : decode cX7_init 34 = .ok (.aload_n 0, 1) := by decide +kernel
theorem dX7_init_35 : decode cX7_init 35 = .ok (.new 29, 3) := by decide +kernel
theorem dX7_init_38 : decode cX7_init 38 = .ok (.dup, 1) := by decide +kernel
theorem dX7_init_39 : decode cX7_init 39 = .ok (.invokespecial 31, 3) := by decide +kernel
theorem dX7_init_42 : decode cX7_init 42 = .ok (.putfield 32, 3) := by decide +kernel
theorem dX7_init_45 : decode cX7_init 45 = .ok (.aload_n 0, 1) := by decide +kernel
theorem dX7_init_46 : decode cX7_init 46 = .ok (.new 36, 3) := by decide +kernel
theorem dX7_init_49 : decode cX7_init 49 = .ok (.dup, 1) := by decide +kernel
theorem dX7_init_50 : decode cX7_init 50 = .ok (.invokespecial 38, 3) := by decide +kernel
theorem dX7_init_53 : decode cX7_init 53 = .ok (.putfield 39, 3) := by decide +kernel
theorem dX7_init_56 : decode cX7_init 56 = .ok (.iconst 0, 1) := by decide +kernel
theorem dX7_init_57 : decode cX7_init 57 = .ok (.istore_n 1, 1) := by decide +kernel
theorem dX7_init_58 : decode cX7_init 58 = .ok (.iload_n 1, 1) := by decide +kernel
theorem dX7_init_59 : decode cX7_init 59 = .ok (.aload_n 0, 1) := by decide +kernel
theorem dX7_init_60 : decode cX7_init 60 = .ok (.getfield 9, 3) := by decide +kernel
theorem dX7_init_63 : decode cX7_init 63 = .ok (.arraylength, 1) := by decide +kernel
theorem dX7_init_64 : decode cX7_init 64 = .ok (.if_icmp .ge 28, 3) := by decide +kernel
theorem dX7_init_67 : decode cX7_init 67 = .ok (.iload_n 1, 1) := by decide +kernel
theorem dX7_init_68 : decode cX7_init 68 = .ok (.getstatic 43, 3) := by decide +kernel
theorem dX7_init_71 : decode cX7_init 71 = .ok (.arraylength, 1) := by decide +kernel
theorem dX7_init_72 : decode cX7_init 72 = .ok (.if_icmp .ge 20, 3) := by decide +kernel
theorem dX7_init_75 : decode cX7_init 75 = .ok (.aload_n 0, 1) := by decide +kernel
theorem dX7_init_76 : decode cX7_init 76 = .ok (.getfield 9, 3) := by decide +kernel
theorem dX7_init_79 : decode cX7_init 79 = .ok (.iload_n 1, 1) := by decide +kernel
theorem dX7_init_80 : decode cX7_init 80 = .ok (.getstatic 43, 3) := by decide +kernel
theorem dX7_init_83 : decode cX7_init 83 = .ok (.iload_n 1, 1) := by decide +kernel
theorem dX7_init_84 : decode cX7_init 84 = .ok (.laload, 1) := by decide +kernel
theorem dX7_init_85 : decode cX7_init 85 = .ok (.lastore, 1) := by decide +kernel
theorem dX7_init_86 : decode cX7_init 86 = .ok (.iinc 1 1, 3) := by decide +kernel
theorem dX7_init_89 : decode cX7_init 89 = .ok (.goto (-31), 3) := by decide +kernel
theorem dX7_init_92 : decode cX7_init 92 = .ok (.return_, 1) := by decide +kernel
set_option maxRecDepth 20000 in
theorem ggX7_copyFrom_X9_copy : GoodIn wsX7_copyFrom wsX9_copy := goodIn_r _ [11] (by decide +kernel) (by decide +kernel)
set_option maxRecDepth 20000 in
theorem gX7_copyFrom_X9_copy_n46 : GoodIn wsX7_copyFrom (wsX9_copy) := ggX7_copyFrom_X9_copy
set_option maxRecDepth 20000 in
theorem ggX7_copyFrom_X5_copyFrom : GoodIn wsX7_copyFrom wsX5_copyFrom := goodIn_r _ [16, 17, 18, 19, 20, 21, 22, 23, 24, 25, 26, 27, 28, 29, 30, 9, 10, 11, 79, 80, 81, 82, 83, 84, 85, 86, 87] (by decide +kernel) (by decide +kernel)
set_option maxRecDepth 20000 in
theorem gX7_copyFrom_X5_copyFrom : GoodIn wsX7_copyFrom (wsV RX7 50 RX5 yX5_copyFrom wsX5_copyFrom) := goodIn_app (goodIn_of _ (by decide +kernel)) ggX7_copyFrom_X5_copyFrom
set_option maxRecDepth 20000 in
theorem ggX7_copyFrom_X0_copyFrom : GoodIn wsX7_copyFrom wsX0_copyFrom := goodIn_r _ [35, 36, 37, 38, 39, 40, 41, 42, 9, 10, 11, 88, 89, 90, 91, 92, 93, 94] (by decide +kernel) (by decide +kernel)
set_option maxRecDepth 20000 in
theorem gX7_copyFrom_X0_copyFrom : GoodIn wsX7_copyFrom (wsV RX7 54 RX0 yX0_copyFrom wsX0_copyFrom) := goodIn_app (goodIn_of _ (by decide +kernel)) ggX7_copyFrom_X0_copyFrom
set_option maxRecDepth 20000 in
theorem ggX7_copyFrom_X8_copyFrom : GoodIn wsX7_copyFrom wsX8_copyFrom := goodIn_r _ [47, 48, 49, 50, 51, 52, 53, 54, 55, 56, 57, 58, 59, 60, 9, 10, 11, 95, 96, 97, 98, 99, 100, 101, 102] (by decide +kernel) (by decide +kernel)
set_option maxRecDepth 20000 in
theorem gX7_copyFrom_X8_copyFrom : GoodIn wsX7_copyFrom (wsV RX7 57 RX8 yX8_copyFrom wsX8_copyFrom) := goodIn_app (goodIn_of _ (by decide +kernel)) ggX7_copyFrom_X8_copyFrom
set_option maxRecDepth 20000 in
theorem ggX7_copyFrom_X6_copyFrom : GoodIn wsX7_copyFrom wsX6_copyFrom := goodIn_r _ [65, 66, 67, 68, 69, 9, 10, 11, 70, 55, 56, 57, 58, 59, 60, 103, 104, 105, 106, 101, 102] (by decide +kernel) (by decide +kernel)
set_option maxRecDepth 20000 in
theorem gX7_copyFrom_X6_copyFrom : GoodIn wsX7_copyFrom (wsV RX7 60 RX6 yX6_copyFrom wsX6_copyFrom) := goodIn_app (goodIn_of _ (by decide +kernel)) ggX7_copyFrom_X6_copyFrom
theorem dX7_copyFrom_0 : decode cX7_copyFrom 0 = .ok (.aload_n 1, 1) := by decide +kernel
theorem dX7_copyFrom_1 : decode cX7_copyFrom 1 = .ok (.getfield 9, 3) := by decide +kernel
theorem dX7_copyFrom_4 : decode cX7_copyFrom 4 = .ok (.aload_n 0, 1) := by decide +kernel
theorem dX7_copyFrom_5 : decode cX7_copyFrom 5 = .ok (.getfield 9, 3) := by decide +kernel
theorem dX7_copyFrom_8 : decode cX7_copyFrom 8 = .ok (.invokestatic 46, 3) := by decide +kernel
theorem dX7_copyFrom_11 : decode cX7_copyFrom 11 = .ok (.aload_n 0, 1) := by decide +kernel
theorem dX7_copyFrom_12 : decode cX7_copyFrom 12 = .ok (.getfield 18, 3) := by decide +kernel
theorem dX7_copyFrom_15 : decode cX7_copyFrom 15 = .ok (.aload_n 1, 1) := by decide +kernel
theorem dX7_copyFrom_16 : decode cX7_copyFrom 16 = .ok (.getfield 18, 3) := by decide +kernel
theorem dX7_copyFrom_19 : decode cX7_copyFrom 19 = .ok (.invokevirtual 50, 3) := by decide +kernel
theorem dX7_copyFrom_22 : decode cX7_copyFrom 22 = .ok (.aload_n 0, 1) := by decide +kernel
theorem dX7_copyFrom_23 : decode cX7_copyFrom 23 = .ok (.getfield 25, 3) := by decide +kernel
theorem dX7_copyFrom_26 : decode cX7_copyFrom 26 = .ok (.aload_n 1, 1) := by decide +kernel
theorem dX7_copyFrom_27 : decode cX7_copyFrom 27 = .ok (.getfield 25, 3) := by decide +kernel
theorem dX7_copyFrom_30 : decode cX7_copyFrom 30 = .ok (.invokevirtual 54, 3) := by decide +kernel
theorem dX7_copyFrom_33 : decode cX7_copyFrom 33 = .ok (.aload_n 0, 1) := by decide +kernel
theorem dX7_copyFrom_34 : decode cX7_copyFrom 34 = .ok (.getfield 32, 3) := by decide +kernel
theorem dX7_copyFrom_37 : decode cX7_copyFrom 37 = .ok (.aload_n 1, 1) := by decide +kernel
theorem dX7_copyFrom_38 : decode cX7_copyFrom 38 = .ok (.getfield 32, 3) := by decide +kernel
theorem dX7_copyFrom_41 : decode cX7_copyFrom 41 = .ok (.invokevirtual 57, 3) := by decide +kernel
theorem dX7_copyFrom_44 : decode cX7_copyFrom 44 = .ok (.aload_n 0, 1) := by decide +kernel
theorem dX7_copyFrom_45 : decode cX7_copyFrom 45 = .ok (.getfield 39, 3) := by decide +kernel
theorem dX7_copyFrom_48 : decode cX7_copyFrom 48 = .ok (.aload_n 1, 1) := by decide +kernel
theorem dX7_copyFrom_49 : decode cX7_copyFrom 49 = .ok (.getfield 39, 3) := by decide +kernel
theorem dX7_copyFrom_52 : decode cX7_copyFrom 52 = .ok (.invokevirtual 60, 3) := by decide +kernel
theorem dX7_copyFrom_55 : decode cX7_copyFrom 55 = .ok (.aload_n 0, 1) := by decide +kernel
theorem dX7_copyFrom_56 : decode cX7_copyFrom 56 = .ok (.aload_n 1, 1) := by decide +kernel
theorem dX7_copyFrom_57 : decode cX7_copyFrom 57 = .ok (.getfield 63, 3) := by decide +kernel
theorem dX7_copyFrom_60 : decode cX7_copyFrom 60 = .ok (.putfield 63, 3) := by decide +kernel
theorem dX7_copyFrom_63 : decode cX7_copyFrom 63 = .ok (.aload_n 0, 1) := by decide +kernel
theorem dX7_copyFrom_64 : decode cX7_copyFrom 64 = .ok (.aload_n 1, 1) := by decide +kernel
theorem dX7_copyFrom_65 : decode cX7_copyFrom 65 = .ok (.getfield 67, 3) := by decide +kernel
theorem dX7_copyFrom_68 : decode cX7_copyFrom 68 = .ok (.putfield 67, 3) := by decide +kernel
theorem dX7_copyFrom_71 : decode cX7_copyFrom 71 = .ok (.aload_n 0, 1) := by decide +kernel
theorem dX7_copyFrom_72 : decode cX7_copyFrom 72 = .ok (.aload_n 1, 1) := by decide +kernel
theorem dX7_copyFrom_73 : decode cX7_copyFrom 73 = .ok (.getfield 71, 3) := by decide +kernel
theorem dX7_copyFrom_76 : decode cX7_copyFrom 76 = .ok (.putfield 71, 3) := by decide +kernel
theorem dX7_copyFrom_79 : decode cX7_copyFrom 79 = .ok (.return_, 1) := by decide +kernel
set_option maxRecDepth 20000 in
theorem ggX7_liveMinute_X9_courseOfLatitude : GoodIn wsX7_liveMinute wsX9_courseOfLatitude := goodIn_r _ [12, 13, 14, 15, 16, 17] (by decide +kernel) (by decide +kernel)
set_option maxRecDepth 20000 in
theorem gX7_liveMinute_X9_courseOfLatitude_n80 : GoodIn wsX7_liveMinute (wsX9_courseOfLatitude) := ggX7_liveMinute_X9_courseOfLatitude
set_option maxRecDepth 20000 in
theorem ggX7_liveMinute_X9_cosine : GoodIn wsX7_liveMinute wsX9_cosine := goodIn_r _ [19, 20, 21, 22, 23, 11, 24, 25, 26, 27] (by decide +kernel) (by decide +kernel)
set_option maxRecDepth 20000 in
theorem gX7_liveMinute_X9_cosine_n84 : GoodIn wsX7_liveMinute (wsX9_cosine) := ggX7_liveMinute_X9_cosine
set_option maxRecDepth 20000 in
theorem ggX7_liveMinute_X9_at : GoodIn wsX7_liveMinute wsX9_at := goodIn_r _ [29] (by decide +kernel) (by decide +kernel)
set_option maxRecDepth 20000 in
theorem gX7_liveMinute_X9_at_n87 : GoodIn wsX7_liveMinute (wsX9_at) := ggX7_liveMinute_X9_at
set_option maxRecDepth 20000 in
theorem ggX7_liveMinute_X7_rest : GoodIn wsX7_liveMinute wsX7_rest := goodIn_r _ [34, 5, 3, 4, 35, 36, 1, 37, 38, 39, 28, 11, 29, 40, 41, 42, 43, 10, 12, 13, 14, 15, 16, 17, 22, 23, 24, 25, 26, 27, 44, 18, 19, 20, 21, 45, 46, 47, 128, 129, 130, 131, 132, 133, 134, 135, 143, 144, 145, 146, 147, 136, 137, 138, 139, 140, 141, 142] (by decide +kernel) (by decide +kernel)
set_option maxRecDepth 20000 in
theorem gX7_liveMinute_X7_rest : GoodIn wsX7_liveMinute (wsV RX7 91 RX7 yX7_rest wsX7_rest) := goodIn_app (goodIn_of _ (by decide +kernel)) ggX7_liveMinute_X7_rest
set_option maxRecDepth 20000 in
theorem ggX7_liveMinute_X0_swing : GoodIn wsX7_liveMinute wsX0_swing := goodIn_r _ [52, 53, 54, 55, 56, 57, 58, 59, 28, 11, 29, 60, 61, 62, 63, 15, 64, 65, 66, 67, 136, 137, 138, 139, 140, 141, 142] (by decide +kernel) (by decide +kernel)
set_option maxRecDepth 20000 in
theorem gX7_liveMinute_X0_swing : GoodIn wsX7_liveMinute (wsV RX7 95 RX0 yX0_swing wsX0_swing) := goodIn_app (goodIn_of _ (by decide +kernel)) ggX7_liveMinute_X0_swing
set_option maxRecDepth 20000 in
theorem ggX7_liveMinute_X8_follow : GoodIn wsX7_liveMinute wsX8_follow := goodIn_r _ [72, 73, 74, 75, 76, 77, 78, 79, 80, 81, 82, 83, 84, 85, 86, 87, 15, 88, 89, 11, 90, 148, 149, 150, 151, 152, 153, 154, 155] (by decide +kernel) (by decide +kernel)
set_option maxRecDepth 20000 in
theorem gX7_liveMinute_X8_follow : GoodIn wsX7_liveMinute (wsV RX7 99 RX8 yX8_follow wsX8_follow) := goodIn_app (goodIn_of _ (by decide +kernel)) ggX7_liveMinute_X8_follow
set_option maxRecDepth 20000 in
theorem ggX7_liveMinute_X5_sailMinute : GoodIn wsX7_liveMinute wsX5_sailMinute := goodIn_r _ [95, 96, 97, 98, 99, 100, 101, 102, 103, 104, 18, 11, 19, 20, 21, 22, 23, 24, 25, 26, 27, 60, 61, 62, 63, 15, 64, 65, 66, 67, 105, 106, 107, 94, 108, 109, 28, 29, 89, 90, 110, 111, 112, 113, 114, 115, 116, 117, 118, 119, 120, 121, 122, 123, 124, 125, 126, 127, 143, 144, 145, 146, 147, 156, 157, 158, 159] (by decide +kernel) (by decide +kernel)
set_option maxRecDepth 20000 in
theorem gX7_liveMinute_X5_sailMinute : GoodIn wsX7_liveMinute (wsV RX7 103 RX5 yX5_sailMinute wsX5_sailMinute) := goodIn_app (goodIn_of _ (by decide +kernel)) ggX7_liveMinute_X5_sailMinute
set_option maxRecDepth 20000 in
theorem ggX7_liveMinute_X9_write : GoodIn wsX7_liveMinute wsX9_write := goodIn_r _ [90] (by decide +kernel) (by decide +kernel)
set_option maxRecDepth 20000 in
theorem gX7_liveMinute_X9_write_n112 : GoodIn wsX7_liveMinute (wsX9_write) := ggX7_liveMinute_X9_write
theorem dX7_liveMinute_0 : decode cX7_liveMinute 0 = .ok (.aload_n 0, 1) := by decide +kernel
theorem dX7_liveMinute_1 : decode cX7_liveMinute 1 = .ok (.getfield 25, 3) := by decide +kernel
theorem dX7_liveMinute_4 : decode cX7_liveMinute 4 = .ok (.getfield 74, 3) := by decide +kernel
theorem dX7_liveMinute_7 : decode cX7_liveMinute 7 = .ok (.lstore_n 1, 1) := by decide +kernel
theorem dX7_liveMinute_8 : decode cX7_liveMinute 8 = .ok (.aload_n 0, 1) := by decide +kernel
theorem dX7_liveMinute_9 : decode cX7_liveMinute 9 = .ok (.getfield 18, 3) := by decide +kernel
theorem dX7_liveMinute_12 : decode cX7_liveMinute 12 = .ok (.getfield 77, 3) := by decide +kernel
theorem dX7_liveMinute_15 : decode cX7_liveMinute 15 = .ok (.invokestatic 80, 3) := by decide +kernel
theorem dX7_liveMinute_18 : decode cX7_liveMinute 18 = .ok (.invokestatic 84, 3) := by decide +kernel
theorem dX7_liveMinute_21 : decode cX7_liveMinute 21 = .ok (.lstore_n 3, 1) := by decide +kernel
theorem dX7_liveMinute_22 : decode cX7_liveMinute 22 = .ok (.aload_n 0, 1) := by decide +kernel
theorem dX7_liveMinute_23 : decode cX7_liveMinute 23 = .ok (.getfield 25, 3) := by decide +kernel
theorem dX7_liveMinute_26 : decode cX7_liveMinute 26 = .ok (.aload_n 0, 1) := by decide +kernel
theorem dX7_liveMinute_27 : decode cX7_liveMinute 27 = .ok (.getfield 9, 3) := by decide +kernel
theorem dX7_liveMinute_30 : decode cX7_liveMinute 30 = .ok (.iconst 0, 1) := by decide +kernel
theorem dX7_liveMinute_31 : decode cX7_liveMinute 31 = .ok (.invokestatic 87, 3) := by decide +kernel
theorem dX7_liveMinute_34 : decode cX7_liveMinute 34 = .ok (.aload_n 0, 1) := by decide +kernel
theorem dX7_liveMinute_35 : decode cX7_liveMinute 35 = .ok (.getfield 9, 3) := by decide +kernel
theorem dX7_liveMinute_38 : decode cX7_liveMinute 38 = .ok (.iconst 1, 1) := by decide +kernel
theorem dX7_liveMinute_39 : decode cX7_liveMinute 39 = .ok (.invokestatic 87, 3) := by decide +kernel
theorem dX7_liveMinute_42 : decode cX7_liveMinute 42 = .ok (.aload_n 0, 1) := by decide +kernel
theorem dX7_liveMinute_43 : decode cX7_liveMinute 43 = .ok (.invokevirtual 91, 3) := by decide +kernel
theorem dX7_liveMinute_46 : decode cX7_liveMinute 46 = .ok (.lload_n 3, 1) := by decide +kernel
theorem dX7_liveMinute_47 : decode cX7_liveMinute 47 = .ok (.invokevirtual 95, 3) := by decide +kernel
theorem dX7_liveMinute_50 : decode cX7_liveMinute 50 = .ok (.aload_n 0, 1) := by decide +kernel
theorem dX7_liveMinute_51 : decode cX7_liveMinute 51 = .ok (.getfield 32, 3) := by decide +kernel
theorem dX7_liveMinute_54 : decode cX7_liveMinute 54 = .ok (.lload_n 1, 1) := by decide +kernel
theorem dX7_liveMinute_55 : decode cX7_liveMinute 55 = .ok (.aload_n 0, 1) := by decide +kernel
theorem dX7_liveMinute_56 : decode cX7_liveMinute 56 = .ok (.getfield 25, 3) := by decide +kernel
theorem dX7_liveMinute_59 : decode cX7_liveMinute 59 = .ok (.getfield 74, 3) := by decide +kernel
theorem dX7_liveMinute_62 : decode cX7_liveMinute 62 = .ok (.aload_n 0, 1) := by decide +kernel
theorem dX7_liveMinute_63 : decode cX7_liveMinute 63 = .ok (.getfield 63, 3) := by decide +kernel
theorem dX7_liveMinute_66 : decode cX7_liveMinute 66 = .ok (.invokevirtual 99, 3) := by decide +kernel
theorem dX7_liveMinute_69 : decode cX7_liveMinute 69 = .ok (.aload_n 0, 1) := by decide +kernel
theorem dX7_liveMinute_70 : decode cX7_liveMinute 70 = .ok (.getfield 18, 3) := by decide +kernel
theorem dX7_liveMinute_73 : decode cX7_liveMinute 73 = .ok (.invokevirtual 103, 3) := by decide +kernel
theorem dX7_liveMinute_76 : decode cX7_liveMinute 76 = .ok (.aload_n 0, 1) := by decide +kernel
theorem dX7_liveMinute_77 : decode cX7_liveMinute 77 = .ok (.dup, 1) := by decide +kernel
theorem dX7_liveMinute_78 : decode cX7_liveMinute 78 = .ok (.getfield 63, 3) := by decide +kernel
theorem dX7_liveMinute_81 : decode cX7_liveMinute 81 = .ok (.lconst 1, 1) := by decide +kernel
theorem dX7_liveMinute_82 : decode cX7_liveMinute 82 = .ok (.ladd, 1) := by decide +kernel
theorem dX7_liveMinute_83 : decode cX7_liveMinute 83 = .ok (.putfield 63, 3) := by decide +kernel
theorem dX7_liveMinute_86 : decode cX7_liveMinute 86 = .ok (.aload_n 0, 1) := by decide +kernel
theorem dX7_liveMinute_87 : decode cX7_liveMinute 87 = .ok (.getfield 25, 3) := by decide +kernel
theorem dX7_liveMinute_90 : decode cX7_liveMinute 90 = .ok (.getfield 106, 3) := by decide +kernel
theorem dX7_liveMinute_93 : decode cX7_liveMinute 93 = .ok (.aload_n 0, 1) := by decide +kernel
theorem dX7_liveMinute_94 : decode cX7_liveMinute 94 = .ok (.getfield 25, 3) := by decide +kernel
theorem dX7_liveMinute_97 : decode cX7_liveMinute 97 = .ok (.getfield 109, 3) := by decide +kernel
theorem dX7_liveMinute_100 : decode cX7_liveMinute 100 = .ok (.aload_n 0, 1) := by decide +kernel
theorem dX7_liveMinute_101 : decode cX7_liveMinute 101 = .ok (.getfield 25, 3) := by decide +kernel
theorem dX7_liveMinute_104 : decode cX7_liveMinute 104 = .ok (.getfield 106, 3) := by decide +kernel
theorem dX7_liveMinute_107 : decode cX7_liveMinute 107 = .ok (.aload_n 0, 1) := by decide +kernel
theorem dX7_liveMinute_108 : decode cX7_liveMinute 108 = .ok (.getfield 25, 3) := by decide +kernel
theorem dX7_liveMinute_111 : decode cX7_liveMinute 111 = .ok (.getfield 109, 3) := by decide +kernel
theorem dX7_liveMinute_114 : decode cX7_liveMinute 114 = .ok (.invokestatic 87, 3) := by decide +kernel
theorem dX7_liveMinute_117 : decode cX7_liveMinute 117 = .ok (.lconst 1, 1) := by decide +kernel
theorem dX7_liveMinute_118 : decode cX7_liveMinute 118 = .ok (.ladd, 1) := by decide +kernel
theorem dX7_liveMinute_119 : decode cX7_liveMinute 119 = .ok (.invokestatic 112, 3) := by decide +kernel
theorem dX7_liveMinute_122 : decode cX7_liveMinute 122 = .ok (.return_, 1) := by decide +kernel
set_option maxRecDepth 20000 in
theorem ggX7_rest_X9_at : GoodIn wsX7_rest wsX9_at := goodIn_r _ [12] (by decide +kernel) (by decide +kernel)
set_option maxRecDepth 20000 in
theorem gX7_rest_X9_at_n87 : GoodIn wsX7_rest (wsX9_at) := ggX7_rest_X9_at
set_option maxRecDepth 20000 in
theorem ggX7_rest_X9_freeRest : GoodIn wsX7_rest wsX9_freeRest := goodIn_r _ [14, 15, 16, 17, 11, 18, 19, 20, 21, 22, 23, 24, 25, 26, 27, 28, 29, 30, 31, 32, 33, 34, 35, 36, 37] (by decide +kernel) (by decide +kernel)
set_option maxRecDepth 20000 in
theorem gX7_rest_X9_freeRest_n122 : GoodIn wsX7_rest (wsX9_freeRest) := ggX7_rest_X9_freeRest
theorem dX7_rest_0 : decode cX7_rest 0 = .ok (.aload_n 0, 1) := by decide +kernel
theorem dX7_rest_1 : decode cX7_rest 1 = .ok (.getfield 9, 3) := by decide +kernel
theorem dX7_rest_4 : decode cX7_rest 4 = .ok (.iconst 2, 1) := by decide +kernel
theorem dX7_rest_5 : decode cX7_rest 5 = .ok (.invokestatic 87, 3) := by decide +kernel
theorem dX7_rest_8 : decode cX7_rest 8 = .ok (.lstore_n 1, 1) := by decide +kernel
theorem dX7_rest_9 : decode cX7_rest 9 = .ok (.lload_n 1, 1) := by decide +kernel
theorem dX7_rest_10 : decode cX7_rest 10 = .ok (.aload_n 0, 1) := by decide +kernel
theorem dX7_rest_11 : decode cX7_rest 11 = .ok (.getfield 18, 3) := by decide +kernel
theorem dX7_rest_14 : decode cX7_rest 14 = .ok (.getfield 77, 3) := by decide +kernel
theorem dX7_rest_17 : decode cX7_rest 17 = .ok (.aload_n 0, 1) := by decide +kernel
theorem dX7_rest_18 : decode cX7_rest 18 = .ok (.getfield 18, 3) := by decide +kernel
theorem dX7_rest_21 : decode cX7_rest 21 = .ok (.getfield 116, 3) := by decide +kernel
theorem dX7_rest_24 : decode cX7_rest 24 = .ok (.aload_n 0, 1) := by decide +kernel
theorem dX7_rest_25 : decode cX7_rest 25 = .ok (.getfield 18, 3) := by decide +kernel
theorem dX7_rest_28 : decode cX7_rest 28 = .ok (.getfield 119, 3) := by decide +kernel
theorem dX7_rest_31 : decode cX7_rest 31 = .ok (.invokestatic 122, 3) := by decide +kernel
theorem dX7_rest_34 : decode cX7_rest 34 = .ok (.lload_n 1, 1) := by decide +kernel
theorem dX7_rest_35 : decode cX7_rest 35 = .ok (.aload_n 0, 1) := by decide +kernel
theorem dX7_rest_36 : decode cX7_rest 36 = .ok (.getfield 25, 3) := by decide +kernel
theorem dX7_rest_39 : decode cX7_rest 39 = .ok (.getfield 126, 3) := by decide +kernel
theorem dX7_rest_42 : decode cX7_rest 42 = .ok (.i2l, 1) := by decide +kernel
theorem dX7_rest_43 : decode cX7_rest 43 = .ok (.ldc2_w 129, 3) := by decide +kernel
theorem dX7_rest_46 : decode cX7_rest 46 = .ok (.lmul, 1) := by decide +kernel
theorem dX7_rest_47 : decode cX7_rest 47 = .ok (.aload_n 0, 1) := by decide +kernel
theorem dX7_rest_48 : decode cX7_rest 48 = .ok (.getfield 25, 3) := by decide +kernel
theorem dX7_rest_51 : decode cX7_rest 51 = .ok (.getfield 131, 3) := by decide +kernel
theorem dX7_rest_54 : decode cX7_rest 54 = .ok (.i2l, 1) := by decide +kernel
theorem dX7_rest_55 : decode cX7_rest 55 = .ok (.aload_n 0, 1) := by decide +kernel
theorem dX7_rest_56 : decode cX7_rest 56 = .ok (.getfield 18, 3) := by decide +kernel
theorem dX7_rest_59 : decode cX7_rest 59 = .ok (.getfield 119, 3) := by decide +kernel
theorem dX7_rest_62 : decode cX7_rest 62 = .ok (.invokestatic 122, 3) := by decide +kernel
theorem dX7_rest_65 : decode cX7_rest 65 = .ok (.lsub, 1) := by decide +kernel
theorem dX7_rest_66 : decode cX7_rest 66 = .ok (.lreturn, 1) := by decide +kernel
set_option maxRecDepth 20000 in
theorem ggX7_isCalm_X7_rest : GoodIn wsX7_isCalm wsX7_rest := goodIn_r _ [12, 13, 14, 15, 16, 17, 1, 18, 19, 20, 21, 22, 23, 24, 25, 26, 27, 28, 29, 30, 4, 5, 6, 31, 32, 33, 34, 35, 36, 37, 38, 39, 40, 41, 42, 43, 44, 45, 46, 47, 48, 49, 50, 51, 52, 53, 61, 62, 63, 64, 65, 54, 55, 56, 57, 58, 59, 60] (by decide +kernel) (by decide +kernel)
set_option maxRecDepth 20000 in
theorem gX7_isCalm_X7_rest : GoodIn wsX7_isCalm (wsV RX7 91 RX7 yX7_rest wsX7_rest) := goodIn_app (goodIn_of _ (by decide +kernel)) ggX7_isCalm_X7_rest
theorem dX7_isCalm_0 : decode cX7_isCalm 0 = .ok (.aload_n 0, 1) := by decide +kernel
theorem dX7_isCalm_1 : decode cX7_isCalm 1 = .ok (.getfield 25, 3) := by decide +kernel
theorem dX7_isCalm_4 : decode cX7_isCalm 4 = .ok (.getfield 74, 3) := by decide +kernel
theorem dX7_isCalm_7 : decode cX7_isCalm 7 = .ok (.aload_n 0, 1) := by decide +kernel
theorem dX7_isCalm_8 : decode cX7_isCalm 8 = .ok (.invokevirtual 91, 3) := by decide +kernel
theorem dX7_isCalm_11 : decode cX7_isCalm 11 = .ok (.lsub, 1) := by decide +kernel
theorem dX7_isCalm_12 : decode cX7_isCalm 12 = .ok (.invokestatic 134, 3) := by decide +kernel
theorem dX7_isCalm_15 : decode cX7_isCalm 15 = .ok (.lload_n 1, 1) := by decide +kernel
theorem dX7_isCalm_16 : decode cX7_isCalm 16 = .ok (.lcmp, 1) := by decide +kernel
theorem dX7_isCalm_17 : decode cX7_isCalm 17 = .ok (.ifCond .gt 22, 3) := by decide +kernel
theorem dX7_isCalm_20 : decode cX7_isCalm 20 = .ok (.aload_n 0, 1) := by decide +kernel
theorem dX7_isCalm_21 : decode cX7_isCalm 21 = .ok (.getfield 25, 3) := by decide +kernel
theorem dX7_isCalm_24 : decode cX7_isCalm 24 = .ok (.getfield 139, 3) := by decide +kernel
theorem dX7_isCalm_27 : decode cX7_isCalm 27 = .ok (.invokestatic 134, 3) := by decide +kernel
theorem dX7_isCalm_30 : decode cX7_isCalm 30 = .ok (.lload_n 1, 1) := by decide +kernel
theorem dX7_isCalm_31 : decode cX7_isCalm 31 = .ok (.lcmp, 1) := by decide +kernel
theorem dX7_isCalm_32 : decode cX7_isCalm 32 = .ok (.ifCond .gt 7, 3) := by decide +kernel
theorem dX7_isCalm_35 : decode cX7_isCalm 35 = .ok (.iconst 1, 1) := by decide +kernel
theorem dX7_isCalm_36 : decode cX7_isCalm 36 = .ok (.goto 4, 3) := by decide +kernel
theorem dX7_isCalm_39 : decode cX7_isCalm 39 = .ok (.iconst 0, 1) := by decide +kernel
theorem dX7_isCalm_40 : decode cX7_isCalm 40 = .ok (.ireturn, 1) := by decide +kernel
theorem dX7_minutesSinceDamped_0 : decode cX7_minutesSinceDamped 0 = .ok (.aload_n 0, 1) := by decide +kernel
theorem dX7_minutesSinceDamped_1 : decode cX7_minutesSinceDamped 1 = .ok (.getfield 25, 3) := by decide +kernel
theorem dX7_minutesSinceDamped_4 : decode cX7_minutesSinceDamped 4 = .ok (.getfield 142, 3) := by decide +kernel
theorem dX7_minutesSinceDamped_7 : decode cX7_minutesSinceDamped 7 = .ok (.ldc2_w 145, 3) := by decide +kernel
theorem dX7_minutesSinceDamped_10 : decode cX7_minutesSinceDamped 10 = .ok (.lcmp, 1) := by decide +kernel
theorem dX7_minutesSinceDamped_11 : decode cX7_minutesSinceDamped 11 = .ok (.ifCond .ne 9, 3) := by decide +kernel
theorem dX7_minutesSinceDamped_14 : decode cX7_minutesSinceDamped 14 = .ok (.ldc2_w 147, 3) := by decide +kernel
theorem dX7_minutesSinceDamped_17 : decode cX7_minutesSinceDamped 17 = .ok (.goto 15, 3) := by decide +kernel
theorem dX7_minutesSinceDamped_20 : decode cX7_minutesSinceDamped 20 = .ok (.aload_n 0, 1) := by decide +kernel
theorem dX7_minutesSinceDamped_21 : decode cX7_minutesSinceDamped 21 = .ok (.getfield 63, 3) := by decide +kernel
theorem dX7_minutesSinceDamped_24 : decode cX7_minutesSinceDamped 24 = .ok (.aload_n 0, 1) := by decide +kernel
theorem dX7_minutesSinceDamped_25 : decode cX7_minutesSinceDamped 25 = .ok (.getfield 25, 3) := by decide +kernel
theorem dX7_minutesSinceDamped_28 : decode cX7_minutesSinceDamped 28 = .ok (.getfield 142, 3) := by decide +kernel
theorem dX7_minutesSinceDamped_31 : decode cX7_minutesSinceDamped 31 = .ok (.lsub, 1) := by decide +kernel
theorem dX7_minutesSinceDamped_32 : decode cX7_minutesSinceDamped 32 = .ok (.lreturn, 1) := by decide +kernel
set_option maxRecDepth 20000 in
theorem ggX7_nextNoise_X9_at : GoodIn wsX7_nextNoise wsX9_at := goodIn_r _ [9] (by decide +kernel) (by decide +kernel)
set_option maxRecDepth 20000 in
theorem gX7_nextNoise_X9_at_n87 : GoodIn wsX7_nextNoise (wsX9_at) := ggX7_nextNoise_X9_at
set_option maxRecDepth 20000 in
theorem ggX7_nextNoise_X9_write : GoodIn wsX7_nextNoise wsX9_write := goodIn_r _ [11] (by decide +kernel) (by decide +kernel)
set_option maxRecDepth 20000 in
theorem gX7_nextNoise_X9_write_n112 : GoodIn wsX7_nextNoise (wsX9_write) := ggX7_nextNoise_X9_write
theorem dX7_nextNoise_0 : decode cX7_nextNoise 0 = .ok (.ldc2_w 149, 3) := by decide +kernel
theorem dX7_nextNoise_3 : decode cX7_nextNoise 3 = .ok (.aload_n 0, 1) := by decide +kernel
theorem dX7_nextNoise_4 : decode cX7_nextNoise 4 = .ok (.getfield 9, 3) := by decide +kernel
theorem dX7_nextNoise_7 : decode cX7_nextNoise 7 = .ok (.bipush 7, 2) := by decide +kernel
theorem dX7_nextNoise_9 : decode cX7_nextNoise 9 = .ok (.invokestatic 87, 3) := by decide +kernel
theorem dX7_nextNoise_12 : decode cX7_nextNoise 12 = .ok (.lmul, 1) := by decide +kernel
theorem dX7_nextNoise_13 : decode cX7_nextNoise 13 = .ok (.ldc2_w 151, 3) := by decide +kernel
theorem dX7_nextNoise_16 : decode cX7_nextNoise 16 = .ok (.ladd, 1) := by decide +kernel
theorem dX7_nextNoise_17 : decode cX7_nextNoise 17 = .ok (.ldc2_w 153, 3) := by decide +kernel
theorem dX7_nextNoise_20 : decode cX7_nextNoise 20 = .ok (.lrem, 1) := by decide +kernel
theorem dX7_nextNoise_21 : decode cX7_nextNoise 21 = .ok (.lstore_n 1, 1) := by decide +kernel
theorem dX7_nextNoise_22 : decode cX7_nextNoise 22 = .ok (.lload_n 1, 1) := by decide +kernel
theorem dX7_nextNoise_23 : decode cX7_nextNoise 23 = .ok (.ldc2_w 155, 3) := by decide +kernel
theorem dX7_nextNoise_26 : decode cX7_nextNoise 26 = .ok (.lcmp, 1) := by decide +kernel
theorem dX7_nextNoise_27 : decode cX7_nextNoise 27 = .ok (.ifCond .ne 5, 3) := by decide +kernel
theorem dX7_nextNoise_30 : decode cX7_nextNoise 30 = .ok (.lconst 0, 1) := by decide +kernel
theorem dX7_nextNoise_31 : decode cX7_nextNoise 31 = .ok (.lstore_n 1, 1) := by decide +kernel
theorem dX7_nextNoise_32 : decode cX7_nextNoise 32 = .ok (.aload_n 0, 1) := by decide +kernel
theorem dX7_nextNoise_33 : decode cX7_nextNoise 33 = .ok (.getfield 9, 3) := by decide +kernel
theorem dX7_nextNoise_36 : decode cX7_nextNoise 36 = .ok (.bipush 7, 2) := by decide +kernel
theorem dX7_nextNoise_38 : decode cX7_nextNoise 38 = .ok (.lload_n 1, 1) := by decide +kernel
theorem dX7_nextNoise_39 : decode cX7_nextNoise 39 = .ok (.invokestatic 112, 3) := by decide +kernel
theorem dX7_nextNoise_42 : decode cX7_nextNoise 42 = .ok (.aload_n 0, 1) := by decide +kernel
theorem dX7_nextNoise_43 : decode cX7_nextNoise 43 = .ok (.getfield 9, 3) := by decide +kernel
theorem dX7_nextNoise_46 : decode cX7_nextNoise 46 = .ok (.bipush 6, 2) := by decide +kernel
theorem dX7_nextNoise_48 : decode cX7_nextNoise 48 = .ok (.invokestatic 87, 3) := by decide +kernel
theorem dX7_nextNoise_51 : decode cX7_nextNoise 51 = .ok (.lstore_n 3, 1) := by decide +kernel
theorem dX7_nextNoise_52 : decode cX7_nextNoise 52 = .ok (.ldc2_w 157, 3) := by decide +kernel
theorem dX7_nextNoise_55 : decode cX7_nextNoise 55 = .ok (.lload_n 3, 1) := by decide +kernel
theorem dX7_nextNoise_56 : decode cX7_nextNoise 56 = .ok (.lmul, 1) := by decide +kernel
theorem dX7_nextNoise_57 : decode cX7_nextNoise 57 = .ok (.lconst 1, 1) := by decide +kernel
theorem dX7_nextNoise_58 : decode cX7_nextNoise 58 = .ok (.ladd, 1) := by decide +kernel
theorem dX7_nextNoise_59 : decode cX7_nextNoise 59 = .ok (.lstore 5, 2) := by decide +kernel
theorem dX7_nextNoise_61 : decode cX7_nextNoise 61 = .ok (.lload 5, 2) := by decide +kernel
theorem dX7_nextNoise_63 : decode cX7_nextNoise 63 = .ok (.lconst 0, 1) := by decide +kernel
theorem dX7_nextNoise_64 : decode cX7_nextNoise 64 = .ok (.lcmp, 1) := by decide +kernel
theorem dX7_nextNoise_65 : decode cX7_nextNoise 65 = .ok (.ifCond .gt 7, 3) := by decide +kernel
theorem dX7_nextNoise_68 : decode cX7_nextNoise 68 = .ok (.lconst 0, 1) := by decide +kernel
theorem dX7_nextNoise_69 : decode cX7_nextNoise 69 = .ok (.goto 9, 3) := by decide +kernel
theorem dX7_nextNoise_72 : decode cX7_nextNoise 72 = .ok (.lload_n 1, 1) := by decide +kernel
theorem dX7_nextNoise_73 : decode cX7_nextNoise 73 = .ok (.lload 5, 2) := by decide +kernel
theorem dX7_nextNoise_75 : decode cX7_nextNoise 75 = .ok (.lrem, 1) := by decide +kernel
theorem dX7_nextNoise_76 : decode cX7_nextNoise 76 = .ok (.lload_n 3, 1) := by decide +kernel
theorem dX7_nextNoise_77 : decode cX7_nextNoise 77 = .ok (.lsub, 1) := by decide +kernel
theorem dX7_nextNoise_78 : decode cX7_nextNoise 78 = .ok (.lreturn, 1) := by decide +kernel
set_option maxRecDepth 20000 in
theorem ggX7_reasonOfDistrust_X8_canSettle : GoodIn wsX7_reasonOfDistrust wsX8_canSettle := goodIn_r _ [18, 19, 20, 71, 72, 73, 74, 75, 76, 62, 63] (by decide +kernel) (by decide +kernel)
set_option maxRecDepth 20000 in
theorem gX7_reasonOfDistrust_X8_canSettle : GoodIn wsX7_reasonOfDistrust (wsV RX7 159 RX8 yX8_canSettle wsX8_canSettle) := goodIn_app (goodIn_of _ (by decide +kernel)) ggX7_reasonOfDistrust_X8_canSettle
set_option maxRecDepth 20000 in
theorem ggX7_reasonOfDistrust_X8_settledByTurns : GoodIn wsX7_reasonOfDistrust wsX8_settledByTurns := goodIn_r _ [24, 19, 25, 26, 27, 28, 29, 30, 71, 72, 73, 74, 75, 76, 62, 63] (by decide +kernel) (by decide +kernel)
set_option maxRecDepth 20000 in
theorem gX7_reasonOfDistrust_X8_settledByTurns : GoodIn wsX7_reasonOfDistrust (wsV RX7 163 RX8 yX8_settledByTurns wsX8_settledByTurns) := goodIn_app (goodIn_of _ (by decide +kernel)) ggX7_reasonOfDistrust_X8_settledByTurns
set_option maxRecDepth 20000 in
theorem ggX7_reasonOfDistrust_X9_at : GoodIn wsX7_reasonOfDistrust wsX9_at := goodIn_r _ [30] (by decide +kernel) (by decide +kernel)
set_option maxRecDepth 20000 in
theorem gX7_reasonOfDistrust_X9_at_n87 : GoodIn wsX7_reasonOfDistrust (wsX9_at) := ggX7_reasonOfDistrust_X9_at
set_option maxRecDepth 20000 in
theorem ggX7_reasonOfDistrust_X8_lastSwing : GoodIn wsX7_reasonOfDistrust wsX8_lastSwing := goodIn_r _ [34, 19, 25, 28, 29, 30, 71, 72, 73, 74, 75, 76, 62, 63] (by decide +kernel) (by decide +kernel)
set_option maxRecDepth 20000 in
theorem gX7_reasonOfDistrust_X8_lastSwing : GoodIn wsX7_reasonOfDistrust (wsV RX7 166 RX8 yX8_lastSwing wsX8_lastSwing) := goodIn_app (goodIn_of _ (by decide +kernel)) ggX7_reasonOfDistrust_X8_lastSwing
set_option maxRecDepth 20000 in
theorem ggX7_reasonOfDistrust_X8_settledByMean : GoodIn wsX7_reasonOfDistrust wsX8_settledByMean := goodIn_r _ [38, 39, 25, 40, 28, 29, 30, 41, 42, 71, 72, 73, 74, 75, 76, 62, 63] (by decide +kernel) (by decide +kernel)
set_option maxRecDepth 20000 in
theorem gX7_reasonOfDistrust_X8_settledByMean : GoodIn wsX7_reasonOfDistrust (wsV RX7 169 RX8 yX8_settledByMean wsX8_settledByMean) := goodIn_app (goodIn_of _ (by decide +kernel)) ggX7_reasonOfDistrust_X8_settledByMean
set_option maxRecDepth 20000 in
theorem ggX7_reasonOfDistrust_X2_sumOf : GoodIn wsX7_reasonOfDistrust wsX2_sumOf := goodIn_r _ [47, 48, 49, 28, 29, 30, 62, 63] (by decide +kernel) (by decide +kernel)
set_option maxRecDepth 20000 in
theorem gX7_reasonOfDistrust_X2_sumOf : GoodIn wsX7_reasonOfDistrust (wsV RX7 183 RX2 yX2_sumOf wsX2_sumOf) := goodIn_app (goodIn_of _ (by decide +kernel)) ggX7_reasonOfDistrust_X2_sumOf
theorem dX7_reasonOfDistrust_0 : decode cX7_reasonOfDistrust 0 = .ok (.aload_n 0, 1) := by decide +kernel
theorem dX7_reasonOfDistrust_1 : decode cX7_reasonOfDistrust 1 = .ok (.getfield 32, 3) := by decide +kernel
theorem dX7_reasonOfDistrust_4 : decode cX7_reasonOfDistrust 4 = .ok (.invokevirtual 159, 3) := by decide +kernel
theorem dX7_reasonOfDistrust_7 : decode cX7_reasonOfDistrust 7 = .ok (.ifCond .ne 5, 3) := by decide +kernel
theorem dX7_reasonOfDistrust_10 : decode cX7_reasonOfDistrust 10 = .ok (.iconst 1, 1) := by decide +kernel
theorem dX7_reasonOfDistrust_11 : decode cX7_reasonOfDistrust 11 = .ok (.ireturn, 1) := by decide +kernel
theorem dX7_reasonOfDistrust_12 : decode cX7_reasonOfDistrust 12 = .ok (.aload_n 0, 1) := by decide +kernel
theorem dX7_reasonOfDistrust_13 : decode cX7_reasonOfDistrust 13 = .ok (.getfield 32, 3) := by decide +kernel
theorem dX7_reasonOfDistrust_16 : decode cX7_reasonOfDistrust 16 = .ok (.invokevirtual 163, 3) := by decide +kernel
theorem dX7_reasonOfDistrust_19 : decode cX7_reasonOfDistrust 19 = .ok (.lstore_n 1, 1) := by decide +kernel
theorem dX7_reasonOfDistrust_20 : decode cX7_reasonOfDistrust 20 = .ok (.aload_n 0, 1) := by decide +kernel
theorem dX7_reasonOfDistrust_21 : decode cX7_reasonOfDistrust 21 = .ok (.getfield 9, 3) := by decide +kernel
theorem dX7_reasonOfDistrust_24 : decode cX7_reasonOfDistrust 24 = .ok (.iconst 5, 1) := by decide +kernel
theorem dX7_reasonOfDistrust_25 : decode cX7_reasonOfDistrust 25 = .ok (.invokestatic 87, 3) := by decide +kernel
theorem dX7_reasonOfDistrust_28 : decode cX7_reasonOfDistrust 28 = .ok (.lstore_n 3, 1) := by decide +kernel
theorem dX7_reasonOfDistrust_29 : decode cX7_reasonOfDistrust 29 = .ok (.aload_n 0, 1) := by decide +kernel
theorem dX7_reasonOfDistrust_30 : decode cX7_reasonOfDistrust 30 = .ok (.getfield 32, 3) := by decide +kernel
theorem dX7_reasonOfDistrust_33 : decode cX7_reasonOfDistrust 33 = .ok (.invokevirtual 166, 3) := by decide +kernel
theorem dX7_reasonOfDistrust_36 : decode cX7_reasonOfDistrust 36 = .ok (.invokestatic 134, 3) := by decide +kernel
theorem dX7_reasonOfDistrust_39 : decode cX7_reasonOfDistrust 39 = .ok (.aload_n 0, 1) := by decide +kernel
theorem dX7_reasonOfDistrust_40 : decode cX7_reasonOfDistrust 40 = .ok (.getfield 9, 3) := by decide +kernel
theorem dX7_reasonOfDistrust_43 : decode cX7_reasonOfDistrust 43 = .ok (.iconst 3, 1) := by decide +kernel
theorem dX7_reasonOfDistrust_44 : decode cX7_reasonOfDistrust 44 = .ok (.invokestatic 87, 3) := by decide +kernel
theorem dX7_reasonOfDistrust_47 : decode cX7_reasonOfDistrust 47 = .ok (.lcmp, 1) := by decide +kernel
theorem dX7_reasonOfDistrust_48 : decode cX7_reasonOfDistrust 48 = .ok (.ifCond .le 5, 3) := by decide +kernel
theorem dX7_reasonOfDistrust_51 : decode cX7_reasonOfDistrust 51 = .ok (.iconst 2, 1) := by decide +kernel
theorem dX7_reasonOfDistrust_52 : decode cX7_reasonOfDistrust 52 = .ok (.ireturn, 1) := by decide +kernel
theorem dX7_reasonOfDistrust_53 : decode cX7_reasonOfDistrust 53 = .ok (.lload_n 1, 1) := by decide +kernel
theorem dX7_reasonOfDistrust_54 : decode cX7_reasonOfDistrust 54 = .ok (.aload_n 0, 1) := by decide +kernel
theorem dX7_reasonOfDistrust_55 : decode cX7_reasonOfDistrust 55 = .ok (.getfield 32, 3) := by decide +kernel
theorem dX7_reasonOfDistrust_58 : decode cX7_reasonOfDistrust 58 = .ok (.invokevirtual 169, 3) := by decide +kernel
theorem dX7_reasonOfDistrust_61 : decode cX7_reasonOfDistrust 61 = .ok (.lsub, 1) := by decide +kernel
theorem dX7_reasonOfDistrust_62 : decode cX7_reasonOfDistrust 62 = .ok (.invokestatic 134, 3) := by decide +kernel
theorem dX7_reasonOfDistrust_65 : decode cX7_reasonOfDistrust 65 = .ok (.aload_n 0, 1) := by decide +kernel
theorem dX7_reasonOfDistrust_66 : decode cX7_reasonOfDistrust 66 = .ok (.getfield 9, 3) := by decide +kernel
theorem dX7_reasonOfDistrust_69 : decode cX7_reasonOfDistrust 69 = .ok (.iconst 4, 1) := by decide +kernel
theorem dX7_reasonOfDistrust_70 : decode cX7_reasonOfDistrust 70 = .ok (.invokestatic 87, 3) := by decide +kernel
theorem dX7_reasonOfDistrust_73 : decode cX7_reasonOfDistrust 73 = .ok (.lcmp, 1) := by decide +kernel
theorem dX7_reasonOfDistrust_74 : decode cX7_reasonOfDistrust 74 = .ok (.ifCond .le 5, 3) := by decide +kernel
theorem dX7_reasonOfDistrust_77 : decode cX7_reasonOfDistrust 77 = .ok (.iconst 3, 1) := by decide +kernel
theorem dX7_reasonOfDistrust_78 : decode cX7_reasonOfDistrust 78 = .ok (.ireturn, 1) := by decide +kernel
theorem dX7_reasonOfDistrust_79 : decode cX7_reasonOfDistrust 79 = .ok (.aload_n 0, 1) := by decide +kernel
theorem dX7_reasonOfDistrust_80 : decode cX7_reasonOfDistrust 80 = .ok (.getfield 39, 3) := by decide +kernel
theorem dX7_reasonOfDistrust_83 : decode cX7_reasonOfDistrust 83 = .ok (.getfield 172, 3) := by decide +kernel
theorem dX7_reasonOfDistrust_86 : decode cX7_reasonOfDistrust 86 = .ok (.getfield 176, 3) := by decide +kernel
theorem dX7_reasonOfDistrust_89 : decode cX7_reasonOfDistrust 89 = .ok (.iconst 3, 1) := by decide +kernel
theorem dX7_reasonOfDistrust_90 : decode cX7_reasonOfDistrust 90 = .ok (.if_icmp .ge 5, 3) := by decide +kernel
theorem dX7_reasonOfDistrust_93 : decode cX7_reasonOfDistrust 93 = .ok (.iconst 4, 1) := by decide +kernel
theorem dX7_reasonOfDistrust_94 : decode cX7_reasonOfDistrust 94 = .ok (.ireturn, 1) := by decide +kernel
theorem dX7_reasonOfDistrust_95 : decode cX7_reasonOfDistrust 95 = .ok (.ldc2_w 181, 3) := by decide +kernel
theorem dX7_reasonOfDistrust_98 : decode cX7_reasonOfDistrust 98 = .ok (.aload_n 0, 1) := by decide +kernel
theorem dX7_reasonOfDistrust_99 : decode cX7_reasonOfDistrust 99 = .ok (.getfield 39, 3) := by decide +kernel
theorem dX7_reasonOfDistrust_102 : decode cX7_reasonOfDistrust 102 = .ok (.getfield 172, 3) := by decide +kernel
theorem dX7_reasonOfDistrust_105 : decode cX7_reasonOfDistrust 105 = .ok (.iconst 3, 1) := by decide +kernel
theorem dX7_reasonOfDistrust_106 : decode cX7_reasonOfDistrust 106 = .ok (.invokevirtual 183, 3) := by decide +kernel
theorem dX7_reasonOfDistrust_109 : decode cX7_reasonOfDistrust 109 = .ok (.ldc2_w 187, 3) := by decide +kernel
theorem dX7_reasonOfDistrust_112 : decode cX7_reasonOfDistrust 112 = .ok (.ldiv, 1) := by decide +kernel
theorem dX7_reasonOfDistrust_113 : decode cX7_reasonOfDistrust 113 = .ok (.lmul, 1) := by decide +kernel
theorem dX7_reasonOfDistrust_114 : decode cX7_reasonOfDistrust 114 = .ok (.lload_n 1, 1) := by decide +kernel
theorem dX7_reasonOfDistrust_115 : decode cX7_reasonOfDistrust 115 = .ok (.lsub, 1) := by decide +kernel
theorem dX7_reasonOfDistrust_116 : decode cX7_reasonOfDistrust 116 = .ok (.invokestatic 134, 3) := by decide +kernel
theorem dX7_reasonOfDistrust_119 : decode cX7_reasonOfDistrust 119 = .ok (.lload_n 3, 1) := by decide +kernel
theorem dX7_reasonOfDistrust_120 : decode cX7_reasonOfDistrust 120 = .ok (.lcmp, 1) := by decide +kernel
theorem dX7_reasonOfDistrust_121 : decode cX7_reasonOfDistrust 121 = .ok (.ifCond .le 5, 3) := by decide +kernel
theorem dX7_reasonOfDistrust_124 : decode cX7_reasonOfDistrust 124 = .ok (.iconst 5, 1) := by decide +kernel
theorem dX7_reasonOfDistrust_125 : decode cX7_reasonOfDistrust 125 = .ok (.ireturn, 1) := by decide +kernel
theorem dX7_reasonOfDistrust_126 : decode cX7_reasonOfDistrust 126 = .ok (.lload_n 1, 1) := by decide +kernel
theorem dX7_reasonOfDistrust_127 : decode cX7_reasonOfDistrust 127 = .ok (.invokestatic 134, 3) := by decide +kernel
theorem dX7_reasonOfDistrust_130 : decode cX7_reasonOfDistrust 130 = .ok (.lload_n 3, 1) := by decide +kernel
theorem dX7_reasonOfDistrust_131 : decode cX7_reasonOfDistrust 131 = .ok (.lcmp, 1) := by decide +kernel
theorem dX7_reasonOfDistrust_132 : decode cX7_reasonOfDistrust 132 = .ok (.ifCond .le 6, 3) := by decide +kernel
theorem dX7_reasonOfDistrust_135 : decode cX7_reasonOfDistrust 135 = .ok (.bipush 6, 2) := by decide +kernel
theorem dX7_reasonOfDistrust_137 : decode cX7_reasonOfDistrust 137 = .ok (.ireturn, 1) := by decide +kernel
theorem dX7_reasonOfDistrust_138 : decode cX7_reasonOfDistrust 138 = .ok (.aload_n 0, 1) := by decide +kernel
theorem dX7_reasonOfDistrust_139 : decode cX7_reasonOfDistrust 139 = .ok (.getfield 25, 3) := by decide +kernel
theorem dX7_reasonOfDistrust_142 : decode cX7_reasonOfDistrust 142 = .ok (.getfield 109, 3) := by decide +kernel
theorem dX7_reasonOfDistrust_145 : decode cX7_reasonOfDistrust 145 = .ok (.ifCond .ne 8, 3) := by decide +kernel
theorem dX7_reasonOfDistrust_148 : decode cX7_reasonOfDistrust 148 = .ok (.bipush 7, 2) := by decide +kernel
theorem dX7_reasonOfDistrust_150 : decode cX7_reasonOfDistrust 150 = .ok (.goto 4, 3) := by decide +kernel
theorem dX7_reasonOfDistrust_153 : decode cX7_reasonOfDistrust 153 = .ok (.iconst 0, 1) := by decide +kernel
theorem dX7_reasonOfDistrust_154 : decode cX7_reasonOfDistrust 154 = .ok (.ireturn, 1) := by decide +kernel
set_option maxRecDepth 20000 in
theorem ggX8_init_X2_init : GoodIn wsX8_init wsX2_init := goodIn_r _ [12, 13, 2, 3, 14, 15, 16, 17, 18, 19, 20, 21] (by decide +kernel) (by decide +kernel)
set_option maxRecDepth 20000 in
theorem gX8_init_X2_init : GoodIn wsX8_init (wsX2_init) := ggX8_init_X2_init
theorem dX8_init_0 : decode cX8_init 0 = .ok (.aload_n 0, 1) := by decide +kernel
theorem dX8_init_1 : decode cX8_init 1 = .ok (.invokespecial 3, 3) := by decide +kernel
theorem dX8_init_4 : decode cX8_init 4 = .ok (.aload_n 0, 1) := by decide +kernel
theorem dX8_init_5 : decode cX8_init 5 = .ok (.new 9, 3) := by decide +kernel
theorem dX8_init_8 : decode cX8_init 8 = .ok (.dup, 1) := by decide +kernel
theorem dX8_init_9 : decode cX8_init 9 = .ok (.bipush 8, 2) := by decide +kernel
theorem dX8_init_11 : decode cX8_init 11 = .ok (.invokespecial 11, 3) := by decide +kernel
theorem dX8_init_14 : decode cX8_init 14 = .ok (.putfield 14, 3) := by decide +kernel
theorem dX8_init_17 : decode cX8_init 17 = .ok (.aload_n 0, 1) := by decide +kernel
theorem dX8_init_18 : decode cX8_init 18 = .ok (.new 9, 3) := by decide +kernel
theorem dX8_init_21 : decode cX8_init 21 = .ok (.dup, 1) := by decide +kernel
theorem dX8_init_22 : decode cX8_init 22 = .ok (.bipush 8, 2) := by decide +kernel
theorem dX8_init_24 : decode cX8_init 24 = .ok (.invokespecial 11, 3) := by decide +kernel
theorem dX8_init_27 : decode cX8_init 27 = .ok (.putfield 20, 3) := by decide +kernel
theorem dX8_init_30 : decode cX8_init 30 = .ok (.aload_n 0, 1) := by decide +kernel
theorem dX8_init_31 : decode cX8_init 31 = .ok (.new 9, 3) := by decide +kernel
theorem dX8_init_34 : decode cX8_init 34 = .ok (.dup, 1) := by decide +kernel
theorem dX8_init_35 : decode cX8_init 35 = .ok (.bipush 8, 2) := by decide +kernel
theorem dX8_init_37 : decode cX8_init 37 = .ok (.invokespecial 11, 3) := by decide +kernel
theorem dX8_init_40 : decode cX8_init 40 = .ok (.putfield 23, 3) := by decide +kernel
theorem dX8_init_43 : decode cX8_init 43 = .ok (.return_, 1) := by decide +kernel
set_option maxRecDepth 20000 in
theorem ggX8_copyFrom_X2_copyFrom : GoodIn wsX8_copyFrom wsX2_copyFrom := goodIn_r _ [11, 12, 13, 14, 15, 16, 23, 24] (by decide +kernel) (by decide +kernel)
set_option maxRecDepth 20000 in
theorem gX8_copyFrom_X2_copyFrom : GoodIn wsX8_copyFrom (wsV RX8 26 RX2 yX2_copyFrom wsX2_copyFrom) := goodIn_app (goodIn_of _ (by decide +kernel)) ggX8_copyFrom_X2_copyFrom
theorem dX8_copyFrom_0 : decode cX8_copyFrom 0 = .ok (.aload_n 0, 1) := by decide +kernel
theorem dX8_copyFrom_1 : decode cX8_copyFrom 1 = .ok (.getfield 14, 3) := by decide +kernel
theorem dX8_copyFrom_4 : decode cX8_copyFrom 4 = .ok (.aload_n 1, 1) := by decide +kernel
theorem dX8_copyFrom_5 : decode cX8_copyFrom 5 = .ok (.getfield 14, 3) := by decide +kernel
theorem dX8_copyFrom_8 : decode cX8_copyFrom 8 = .ok (.invokevirtual 26, 3) := by decide +kernel
theorem dX8_copyFrom_11 : decode cX8_copyFrom 11 = .ok (.aload_n 0, 1) := by decide +kernel
theorem dX8_copyFrom_12 : decode cX8_copyFrom 12 = .ok (.getfield 20, 3) := by decide +kernel
theorem dX8_copyFrom_15 : decode cX8_copyFrom 15 = .ok (.aload_n 1, 1) := by decide +kernel
theorem dX8_copyFrom_16 : decode cX8_copyFrom 16 = .ok (.getfield 20, 3) := by decide +kernel
theorem dX8_copyFrom_19 : decode cX8_copyFrom 19 = .ok (.invokevirtual 26, 3) := by decide +kernel
theorem dX8_copyFrom_22 : decode cX8_copyFrom 22 = .ok (.aload_n 0, 1) := by decide +kernel
theorem dX8_copyFrom_23 : decode cX8_copyFrom 23 = .ok (.getfield 23, 3) := by decide +kernel
theorem dX8_copyFrom_26 : decode cX8_copyFrom 26 = .ok (.aload_n 1, 1) := by decide +kernel
theorem dX8_copyFrom_27 : decode cX8_copyFrom 27 = .ok (.getfield 23, 3) := by decide +kernel
theorem dX8_copyFrom_30 : decode cX8_copyFrom 30 = .ok (.invokevirtual 26, 3) := by decide +kernel
theorem dX8_copyFrom_33 : decode cX8_copyFrom 33 = .ok (.aload_n 0, 1) := by decide +kernel
theorem dX8_copyFrom_34 : decode cX8_copyFrom 34 = .ok (.aload_n 1, 1) := by decide +kernel
theorem dX8_copyFrom_35 : decode cX8_copyFrom 35 = .ok (.getfield 30, 3) := by decide +kernel
theorem dX8_copyFrom_38 : decode cX8_copyFrom 38 = .ok (.putfield 30, 3) := by decide +kernel
theorem dX8_copyFrom_41 : decode cX8_copyFrom 41 = .ok (.aload_n 0, 1) := by decide +kernel
theorem dX8_copyFrom_42 : decode cX8_copyFrom 42 = .ok (.aload_n 1, 1) := by decide +kernel
theorem dX8_copyFrom_43 : decode cX8_copyFrom 43 = .ok (.getfield 34, 3) := by decide +kernel
theorem dX8_copyFrom_46 : decode cX8_copyFrom 46 = .ok (.putfield 34, 3) := by decide +kernel
theorem dX8_copyFrom_49 : decode cX8_copyFrom 49 = .ok (.aload_n 0, 1) := by decide +kernel
theorem dX8_copyFrom_50 : decode cX8_copyFrom 50 = .ok (.aload_n 1, 1) := by decide +kernel
theorem dX8_copyFrom_51 : decode cX8_copyFrom 51 = .ok (.getfield 38, 3) := by decide +kernel
theorem dX8_copyFrom_54 : decode cX8_copyFrom 54 = .ok (.putfield 38, 3) := by decide +kernel
theorem dX8_copyFrom_57 : decode cX8_copyFrom 57 = .ok (.return_, 1) := by decide +kernel
set_option maxRecDepth 20000 in
theorem ggX8_forget_X2_clear : GoodIn wsX8_forget wsX2_clear := goodIn_r _ [9, 10, 17, 18] (by decide +kernel) (by decide +kernel)
set_option maxRecDepth 20000 in
theorem gX8_forget_X2_clear : GoodIn wsX8_forget (wsV RX8 41 RX2 yX2_clear wsX2_clear) := goodIn_app (goodIn_of _ (by decide +kernel)) ggX8_forget_X2_clear
theorem dX8_forget_0 : decode cX8_forget 0 = .ok (.aload_n 0, 1) := by decide +kernel
theorem dX8_forget_1 : decode cX8_forget 1 = .ok (.getfield 14, 3) := by decide +kernel
theorem dX8_forget_4 : decode cX8_forget 4 = .ok (.invokevirtual 41, 3) := by decide +kernel
theorem dX8_forget_7 : decode cX8_forget 7 = .ok (.aload_n 0, 1) := by decide +kernel
theorem dX8_forget_8 : decode cX8_forget 8 = .ok (.getfield 20, 3) := by decide +kernel
theorem dX8_forget_11 : decode cX8_forget 11 = .ok (.invokevirtual 41, 3) := by decide +kernel
theorem dX8_forget_14 : decode cX8_forget 14 = .ok (.aload_n 0, 1) := by decide +kernel
theorem dX8_forget_15 : decode cX8_forget 15 = .ok (.getfield 23, 3) := by decide +kernel
theorem dX8_forget_18 : decode cX8_forget 18 = .ok (.invokevirtual 41, 3) := by decide +kernel
theorem dX8_forget_21 : decode cX8_forget 21 = .ok (.aload_n 0, 1) := by decide +kernel
theorem dX8_forget_22 : decode cX8_forget 22 = .ok (.iconst 0, 1) := by decide +kernel
theorem dX8_forget_23 : decode cX8_forget 23 = .ok (.putfield 34, 3) := by decide +kernel
theorem dX8_forget_26 : decode cX8_forget 26 = .ok (.return_, 1) := by decide +kernel
set_option maxRecDepth 20000 in
theorem ggX8_follow_X2_add : GoodIn wsX8_follow wsX2_add := goodIn_r _ [11, 12, 13, 14, 15, 16, 17, 18, 19, 20, 27, 28] (by decide +kernel) (by decide +kernel)
set_option maxRecDepth 20000 in
theorem gX8_follow_X2_add : GoodIn wsX8_follow (wsV RX8 44 RX2 yX2_add wsX2_add) := goodIn_app (goodIn_of _ (by decide +kernel)) ggX8_follow_X2_add
theorem dX8_follow_0 : decode cX8_follow 0 = .ok (.lload_n 3, 1) := by decide +kernel
theorem dX8_follow_1 : decode cX8_follow 1 = .ok (.lload_n 1, 1) := by decide +kernel
theorem dX8_follow_2 : decode cX8_follow 2 = .ok (.lcmp, 1) := by decide +kernel
theorem dX8_follow_3 : decode cX8_follow 3 = .ok (.ifCond .eq 70, 3) := by decide +kernel
theorem dX8_follow_6 : decode cX8_follow 6 = .ok (.lload_n 3, 1) := by decide +kernel
theorem dX8_follow_7 : decode cX8_follow 7 = .ok (.lload_n 1, 1) := by decide +kernel
theorem dX8_follow_8 : decode cX8_follow 8 = .ok (.lcmp, 1) := by decide +kernel
theorem dX8_follow_9 : decode cX8_follow 9 = .ok (.ifCond .le 7, 3) := by decide +kernel
theorem dX8_follow_12 : decode cX8_follow 12 = .ok (.iconst 1, 1) := by decide +kernel
theorem dX8_follow_13 : decode cX8_follow 13 = .ok (.goto 4, 3) := by decide +kernel
theorem dX8_follow_16 : decode cX8_follow 16 = .ok (.iconst (-1), 1) := by decide +kernel
theorem dX8_follow_17 : decode cX8_follow 17 = .ok (.istore 7, 2) := by decide +kernel
theorem dX8_follow_19 : decode cX8_follow 19 = .ok (.aload_n 0, 1) := by decide +kernel
theorem dX8_follow_20 : decode cX8_follow 20 = .ok (.getfield 34, 3) := by decide +kernel
theorem dX8_follow_23 : decode cX8_follow 23 = .ok (.iload 7, 2) := by decide +kernel
theorem dX8_follow_25 : decode cX8_follow 25 = .ok (.ineg, 1) := by decide +kernel
theorem dX8_follow_26 : decode cX8_follow 26 = .ok (.if_icmp .ne 41, 3) := by decide +kernel
theorem dX8_follow_29 : decode cX8_follow 29 = .ok (.aload_n 0, 1) := by decide +kernel
theorem dX8_follow_30 : decode cX8_follow 30 = .ok (.getfield 14, 3) := by decide +kernel
theorem dX8_follow_33 : decode cX8_follow 33 = .ok (.lload_n 1, 1) := by decide +kernel
theorem dX8_follow_34 : decode cX8_follow 34 = .ok (.invokevirtual 44, 3) := by decide +kernel
theorem dX8_follow_37 : decode cX8_follow 37 = .ok (.aload_n 0, 1) := by decide +kernel
theorem dX8_follow_38 : decode cX8_follow 38 = .ok (.getfield 20, 3) := by decide +kernel
theorem dX8_follow_41 : decode cX8_follow 41 = .ok (.lload 5, 2) := by decide +kernel
theorem dX8_follow_43 : decode cX8_follow 43 = .ok (.invokevirtual 44, 3) := by decide +kernel
theorem dX8_follow_46 : decode cX8_follow 46 = .ok (.aload_n 0, 1) := by decide +kernel
theorem dX8_follow_47 : decode cX8_follow 47 = .ok (.getfield 23, 3) := by decide +kernel
theorem dX8_follow_50 : decode cX8_follow 50 = .ok (.aload_n 0, 1) := by decide +kernel
theorem dX8_follow_51 : decode cX8_follow 51 = .ok (.getfield 30, 3) := by decide +kernel
theorem dX8_follow_54 : decode cX8_follow 54 = .ok (.invokevirtual 44, 3) := by decide +kernel
theorem dX8_follow_57 : decode cX8_follow 57 = .ok (.aload_n 0, 1) := by decide +kernel
theorem dX8_follow_58 : decode cX8_follow 58 = .ok (.dup, 1) := by decide +kernel
theorem dX8_follow_59 : decode cX8_follow 59 = .ok (.getfield 38, 3) := by decide +kernel
theorem dX8_follow_62 : decode cX8_follow 62 = .ok (.iconst 1, 1) := by decide +kernel
theorem dX8_follow_63 : decode cX8_follow 63 = .ok (.iadd, 1) := by decide +kernel
theorem dX8_follow_64 : decode cX8_follow 64 = .ok (.putfield 38, 3) := by decide +kernel
theorem dX8_follow_67 : decode cX8_follow 67 = .ok (.aload_n 0, 1) := by decide +kernel
theorem dX8_follow_68 : decode cX8_follow 68 = .ok (.iload 7, 2) := by decide +kernel
theorem dX8_follow_70 : decode cX8_follow 70 = .ok (.putfield 34, 3) := by decide +kernel
theorem dX8_follow_73 : decode cX8_follow 73 = .ok (.aload_n 0, 1) := by decide +kernel
theorem dX8_follow_74 : decode cX8_follow 74 = .ok (.dup, 1) := by decide +kernel
theorem dX8_follow_75 : decode cX8_follow 75 = .ok (.getfield 30, 3) := by decide +kernel
theorem dX8_follow_78 : decode cX8_follow 78 = .ok (.lload_n 3, 1) := by decide +kernel
theorem dX8_follow_79 : decode cX8_follow 79 = .ok (.ladd, 1) := by decide +kernel
theorem dX8_follow_80 : decode cX8_follow 80 = .ok (.putfield 30, 3) := by decide +kernel
theorem dX8_follow_83 : decode cX8_follow 83 = .ok (.return_, 1) := by decide +kernel
theorem dX8_canSettle_0 : decode cX8_canSettle 0 = .ok (.aload_n 0, 1) := by decide +kernel
theorem dX8_canSettle_1 : decode cX8_canSettle 1 = .ok (.getfield 14, 3) := by decide +kernel
theorem dX8_canSettle_4 : decode cX8_canSettle 4 = .ok (.getfield 48, 3) := by decide +kernel
theorem dX8_canSettle_7 : decode cX8_canSettle 7 = .ok (.iconst 3, 1) := by decide +kernel
theorem dX8_canSettle_8 : decode cX8_canSettle 8 = .ok (.if_icmp .lt 7, 3) := by decide +kernel
theorem dX8_canSettle_11 : decode cX8_canSettle 11 = .ok (.iconst 1, 1) := by decide +kernel
theorem dX8_canSettle_12 : decode cX8_canSettle 12 = .ok (.goto 4, 3) := by decide +kernel
theorem dX8_canSettle_15 : decode cX8_canSettle 15 = .ok (.iconst 0, 1) := by decide +kernel
theorem dX8_canSettle_16 : decode cX8_canSettle 16 = .ok (.ireturn, 1) := by decide +kernel
set_option maxRecDepth 20000 in
theorem ggX8_settledByTurns_X9_at : GoodIn wsX8_settledByTurns wsX9_at := goodIn_r _ [7] (by decide +kernel) (by decide +kernel)
set_option maxRecDepth 20000 in
theorem gX8_settledByTurns_X9_at_n55 : GoodIn wsX8_settledByTurns (wsX9_at) := ggX8_settledByTurns_X9_at
theorem dX8_settledByTurns_0 : decode cX8_settledByTurns 0 = .ok (.aload_n 0, 1) := by decide +kernel
theorem dX8_settledByTurns_1 : decode cX8_settledByTurns 1 = .ok (.getfield 14, 3) := by decide +kernel
theorem dX8_settledByTurns_4 : decode cX8_settledByTurns 4 = .ok (.getfield 51, 3) := by decide +kernel
theorem dX8_settledByTurns_7 : decode cX8_settledByTurns 7 = .ok (.iconst 2, 1) := by decide +kernel
theorem dX8_settledByTurns_8 : decode cX8_settledByTurns 8 = .ok (.invokestatic 55, 3) := by decide +kernel
theorem dX8_settledByTurns_11 : decode cX8_settledByTurns 11 = .ok (.ldc2_w 59, 3) := by decide +kernel
theorem dX8_settledByTurns_14 : decode cX8_settledByTurns 14 = .ok (.aload_n 0, 1) := by decide +kernel
theorem dX8_settledByTurns_15 : decode cX8_settledByTurns 15 = .ok (.getfield 14, 3) := by decide +kernel
theorem dX8_settledByTurns_18 : decode cX8_settledByTurns 18 = .ok (.getfield 51, 3) := by decide +kernel
theorem dX8_settledByTurns_21 : decode cX8_settledByTurns 21 = .ok (.iconst 1, 1) := by decide +kernel
theorem dX8_settledByTurns_22 : decode cX8_settledByTurns 22 = .ok (.invokestatic 55, 3) := by decide +kernel
theorem dX8_settledByTurns_25 : decode cX8_settledByTurns 25 = .ok (.lmul, 1) := by decide +kernel
theorem dX8_settledByTurns_26 : decode cX8_settledByTurns 26 = .ok (.ladd, 1) := by decide +kernel
theorem dX8_settledByTurns_27 : decode cX8_settledByTurns 27 = .ok (.aload_n 0, 1) := by decide +kernel
theorem dX8_settledByTurns_28 : decode cX8_settledByTurns 28 = .ok (.getfield 14, 3) := by decide +kernel
theorem dX8_settledByTurns_31 : decode cX8_settledByTurns 31 = .ok (.getfield 51, 3) := by decide +kernel
theorem dX8_settledByTurns_34 : decode cX8_settledByTurns 34 = .ok (.iconst 0, 1) := by decide +kernel
theorem dX8_settledByTurns_35 : decode cX8_settledByTurns 35 = .ok (.invokestatic 55, 3) := by decide +kernel
theorem dX8_settledByTurns_38 : decode cX8_settledByTurns 38 = .ok (.ladd, 1) := by decide +kernel
theorem dX8_settledByTurns_39 : decode cX8_settledByTurns 39 = .ok (.ldc2_w 61, 3) := by decide +kernel
theorem dX8_settledByTurns_42 : decode cX8_settledByTurns 42 = .ok (.ldiv, 1) := by decide +kernel
theorem dX8_settledByTurns_43 : decode cX8_settledByTurns 43 = .ok (.lreturn, 1) := by decide +kernel
set_option maxRecDepth 20000 in
theorem ggX8_settledByMean_X9_at : GoodIn wsX8_settledByMean wsX9_at := goodIn_r _ [6] (by decide +kernel) (by decide +kernel)
set_option maxRecDepth 20000 in
theorem gX8_settledByMean_X9_at_n55 : GoodIn wsX8_settledByMean (wsX9_at) := ggX8_settledByMean_X9_at
set_option maxRecDepth 20000 in
theorem ggX8_settledByMean_X9_quotient : GoodIn wsX8_settledByMean wsX9_quotient := goodIn_r _ [8] (by decide +kernel) (by decide +kernel)
set_option maxRecDepth 20000 in
theorem gX8_settledByMean_X9_quotient_n63 : GoodIn wsX8_settledByMean (wsX9_quotient) := ggX8_settledByMean_X9_quotient
theorem dX8_settledByMean_0 : decode cX8_settledByMean 0 = .ok (.aload_n 0, 1) := by decide +kernel
theorem dX8_settledByMean_1 : decode cX8_settledByMean 1 = .ok (.getfield 23, 3) := by decide +kernel
theorem dX8_settledByMean_4 : decode cX8_settledByMean 4 = .ok (.getfield 51, 3) := by decide +kernel
theorem dX8_settledByMean_7 : decode cX8_settledByMean 7 = .ok (.iconst 0, 1) := by decide +kernel
theorem dX8_settledByMean_8 : decode cX8_settledByMean 8 = .ok (.invokestatic 55, 3) := by decide +kernel
theorem dX8_settledByMean_11 : decode cX8_settledByMean 11 = .ok (.aload_n 0, 1) := by decide +kernel
theorem dX8_settledByMean_12 : decode cX8_settledByMean 12 = .ok (.getfield 23, 3) := by decide +kernel
theorem dX8_settledByMean_15 : decode cX8_settledByMean 15 = .ok (.getfield 51, 3) := by decide +kernel
theorem dX8_settledByMean_18 : decode cX8_settledByMean 18 = .ok (.iconst 2, 1) := by decide +kernel
theorem dX8_settledByMean_19 : decode cX8_settledByMean 19 = .ok (.invokestatic 55, 3) := by decide +kernel
theorem dX8_settledByMean_22 : decode cX8_settledByMean 22 = .ok (.lsub, 1) := by decide +kernel
theorem dX8_settledByMean_23 : decode cX8_settledByMean 23 = .ok (.aload_n 0, 1) := by decide +kernel
theorem dX8_settledByMean_24 : decode cX8_settledByMean 24 = .ok (.getfield 20, 3) := by decide +kernel
theorem dX8_settledByMean_27 : decode cX8_settledByMean 27 = .ok (.getfield 51, 3) := by decide +kernel
theorem dX8_settledByMean_30 : decode cX8_settledByMean 30 = .ok (.iconst 0, 1) := by decide +kernel
theorem dX8_settledByMean_31 : decode cX8_settledByMean 31 = .ok (.invokestatic 55, 3) := by decide +kernel
theorem dX8_settledByMean_34 : decode cX8_settledByMean 34 = .ok (.aload_n 0, 1) := by decide +kernel
theorem dX8_settledByMean_35 : decode cX8_settledByMean 35 = .ok (.getfield 20, 3) := by decide +kernel
theorem dX8_settledByMean_38 : decode cX8_settledByMean 38 = .ok (.getfield 51, 3) := by decide +kernel
theorem dX8_settledByMean_41 : decode cX8_settledByMean 41 = .ok (.iconst 2, 1) := by decide +kernel
theorem dX8_settledByMean_42 : decode cX8_settledByMean 42 = .ok (.invokestatic 55, 3) := by decide +kernel
theorem dX8_settledByMean_45 : decode cX8_settledByMean 45 = .ok (.lsub, 1) := by decide +kernel
theorem dX8_settledByMean_46 : decode cX8_settledByMean 46 = .ok (.invokestatic 63, 3) := by decide +kernel
theorem dX8_settledByMean_49 : decode cX8_settledByMean 49 = .ok (.lreturn, 1) := by decide +kernel
set_option maxRecDepth 20000 in
theorem ggX8_lastSwing_X9_at : GoodIn wsX8_lastSwing wsX9_at := goodIn_r _ [5] (by decide +kernel) (by decide +kernel)
set_option maxRecDepth 20000 in
theorem gX8_lastSwing_X9_at_n55 : GoodIn wsX8_lastSwing (wsX9_at) := ggX8_lastSwing_X9_at
theorem dX8_lastSwing_0 : decode cX8_lastSwing 0 = .ok (.aload_n 0, 1) := by decide +kernel
theorem dX8_lastSwing_1 : decode cX8_lastSwing 1 = .ok (.getfield 14, 3) := by decide +kernel
theorem dX8_lastSwing_4 : decode cX8_lastSwing 4 = .ok (.getfield 51, 3) := by decide +kernel
theorem dX8_lastSwing_7 : decode cX8_lastSwing 7 = .ok (.iconst 0, 1) := by decide +kernel
theorem dX8_lastSwing_8 : decode cX8_lastSwing 8 = .ok (.invokestatic 55, 3) := by decide +kernel
theorem dX8_lastSwing_11 : decode cX8_lastSwing 11 = .ok (.aload_n 0, 1) := by decide +kernel
theorem dX8_lastSwing_12 : decode cX8_lastSwing 12 = .ok (.getfield 14, 3) := by decide +kernel
theorem dX8_lastSwing_15 : decode cX8_lastSwing 15 = .ok (.getfield 51, 3) := by decide +kernel
theorem dX8_lastSwing_18 : decode cX8_lastSwing 18 = .ok (.iconst 1, 1) := by decide +kernel
theorem dX8_lastSwing_19 : decode cX8_lastSwing 19 = .ok (.invokestatic 55, 3) := by decide +kernel
theorem dX8_lastSwing_22 : decode cX8_lastSwing 22 = .ok (.lsub, 1) := by decide +kernel
theorem dX8_lastSwing_23 : decode cX8_lastSwing 23 = .ok (.lreturn, 1) := by decide +kernel
set_option maxRecDepth 20000 in
theorem ggX9_init_X7_init : GoodIn wsX9_init wsX7_init := goodIn_r _ [20, 21, 2, 3, 22, 23, 24, 25, 26, 27, 28, 29, 30, 31, 32, 33, 34, 35, 36, 37, 38, 39, 40, 41, 42, 43, 44, 45, 46, 47, 48, 49, 50, 51, 52, 53, 54, 55, 56, 57, 58, 59, 60, 61, 62, 63, 64, 65, 66, 67, 68, 69, 70, 71, 72, 73, 74, 75, 76, 77, 78, 79, 80, 81, 82, 83, 84, 85, 86, 100, 101, 102, 103, 104, 105, 106, 107, 121, 122, 123, 124, 125, 126, 127, 128, 129, 130, 131, 132, 133, 134, 135, 136, 137, 138, 139, 140, 141, 142, 143, 144, 145, 146, 147, 148] (by decide +kernel) (by decide +kernel)
set_option maxRecDepth 20000 in
theorem gX9_init_X7_init : GoodIn wsX9_init (wsX7_init) := ggX9_init_X7_init
set_option maxRecDepth 20000 in
theorem ggX9_init_X1_init : GoodIn wsX9_init wsX1_init := goodIn_r _ [88, 89, 2, 3, 90, 91, 113, 114, 115] (by decide +kernel) (by decide +kernel)
set_option maxRecDepth 20000 in
theorem gX9_init_X1_init_n21 : GoodIn wsX9_init (wsX1_init) := ggX9_init_X1_init
set_option maxRecDepth 20000 in
theorem ggX9_init_X4_init : GoodIn wsX9_init wsX4_init := goodIn_r _ [93, 94, 2, 3, 95, 96, 97, 44, 45, 98, 99, 48, 49, 50, 51, 52, 53, 54, 22, 55, 56, 57, 116, 117, 118, 119, 120, 143, 144, 145, 146] (by decide +kernel) (by decide +kernel)
set_option maxRecDepth 20000 in
theorem gX9_init_X4_init_n32 : GoodIn wsX9_init (wsX4_init) := ggX9_init_X4_init
theorem dX9_init_0 : decode cX9_init 0 = .ok (.aload_n 0, 1) := by decide +kernel
theorem dX9_init_1 : decode cX9_init 1 = .ok (.invokespecial 1, 3) := by decide +kernel
theorem dX9_init_4 : decode cX9_init 4 = .ok (.aload_n 0, 1) := by decide +kernel
theorem dX9_init_5 : decode cX9_init 5 = .ok (.new 7, 3) := by decide +kernel
theorem dX9_init_8 : decode cX9_init 8 = .ok (.dup, 1) := by decide +kernel
theorem dX9_init_9 : decode cX9_init 9 = .ok (.invokespecial 9, 3) := by decide +kernel
theorem dX9_init_12 : decode cX9_init 12 = .ok (.putfield 10, 3) := by decide +kernel
theorem dX9_init_15 : decode cX9_init 15 = .ok (.aload_n 0, 1) := by decide +kernel
theorem dX9_init_16 : decode cX9_init 16 = .ok (.new 7, 3) := by decide +kernel
theorem dX9_init_19 : decode cX9_init 19 = .ok (.dup, 1) := by decide +kernel
theorem dX9_init_20 : decode cX9_init 20 = .ok (.invokespecial 9, 3) := by decide +kernel
theorem dX9_init_23 : decode cX9_init 23 = .ok (.putfield 16, 3) := by decide +kernel
theorem dX9_init_26 : decode cX9_init 26 = .ok (.aload_n 0, 1) := by decide +kernel
theorem dX9_init_27 : decode cX9_init 27 = .ok (.new 19, 3) := by decide +kernel
theorem dX9_init_30 : decode cX9_init 30 = .ok (.dup, 1) := by decide +kernel
theorem dX9_init_31 : decode cX9_init 31 = .ok (.invokespecial 21, 3) := by decide +kernel
theorem dX9_init_34 : decode cX9_init 34 = .ok (.putfield 22, 3) := by decide +kernel
theorem dX9_init_37 : decode cX9_init 37 = .ok (.aload_n 0, 1) := by decide +kernel
theorem dX9_init_38 : decode cX9_init 38 = .ok (.iconst 2, 1) := by decide +kernel
theorem dX9_init_39 : decode cX9_init 39 = .ok (.anewarray 7, 3) := by decide +kernel
theorem dX9_init_42 : decode cX9_init 42 = .ok (.putfield 26, 3) := by decide +kernel
theorem dX9_init_45 : decode cX9_init 45 = .ok (.aload_n 0, 1) := by decide +kernel
theorem dX9_init_46 : decode cX9_init 46 = .ok (.new 30, 3) := by decide +kernel
theorem dX9_init_49 : decode cX9_init 49 = .ok (.dup, 1) := by decide +kernel
theorem dX9_init_50 : decode cX9_init 50 = .ok (.invokespecial 32, 3) := by decide +kernel
theorem dX9_init_53 : decode cX9_init 53 = .ok (.putfield 33, 3) := by decide +kernel
theorem dX9_init_56 : decode cX9_init 56 = .ok (.return_, 1) := by decide +kernel
set_option maxRecDepth 20000 in
theorem ggX9_set_X9_isBetween : GoodIn wsX9_set wsX9_isBetween := goodIn_r _ [10] (by decide +kernel) (by decide +kernel)
set_option maxRecDepth 20000 in
theorem gX9_set_X9_isBetween : GoodIn wsX9_set (va_wsS RX9 39 yX9_isBetween wsX9_isBetween) := goodIn_app (goodIn_of _ (by decide +kernel)) ggX9_set_X9_isBetween
set_option maxRecDepth 20000 in
theorem ggX9_set_X9_at : GoodIn wsX9_set wsX9_at := goodIn_r _ [13] (by decide +kernel) (by decide +kernel)
set_option maxRecDepth 20000 in
theorem gX9_set_X9_at : GoodIn wsX9_set (va_wsS RX9 47 yX9_at wsX9_at) := goodIn_app (goodIn_of _ (by decide +kernel)) ggX9_set_X9_at
set_option maxRecDepth 20000 in
theorem ggX9_set_X1_record : GoodIn wsX9_set wsX1_record := goodIn_r _ [18, 19, 20, 21, 22, 23, 24, 25, 26, 9, 27, 28, 29, 30, 31, 32, 33, 34, 35, 36, 37, 38, 39, 40, 41, 42, 43, 44, 45, 46, 47, 48, 49, 50, 51, 52, 53, 54, 55, 56, 57, 58, 59, 60, 61, 62, 63, 64, 65, 66, 67, 68, 69, 70, 71, 72, 73, 74, 75, 76, 77, 78, 79, 80, 81, 82, 83, 84, 85, 86, 87, 88, 89, 90, 91, 92, 93, 94, 95, 96, 97, 98, 99, 100, 101, 102, 103, 104, 105, 106, 107, 108, 109, 110, 111, 112, 113, 114, 115, 116, 117, 118, 119, 120, 121, 122, 123, 124, 125, 126, 127, 128, 129, 130, 131, 132, 133, 134, 135, 136, 137, 138, 139, 140, 141, 142, 143, 144, 145, 146, 147, 148, 149, 166, 167, 168, 158, 159, 160, 161, 162, 163, 164, 165, 169, 170, 171, 172, 173, 174, 175, 176, 177, 178, 179, 180, 181, 182, 183, 184, 185, 186, 187, 188, 189, 190, 191, 192, 193, 194, 195, 196] (by decide +kernel) (by decide +kernel)
set_option maxRecDepth 20000 in
theorem gX9_set_X1_record : GoodIn wsX9_set (wsV RX9 54 RX1 yX1_record wsX1_record) := goodIn_app (goodIn_of _ (by decide +kernel)) ggX9_set_X1_record
set_option maxRecDepth 20000 in
theorem ggX9_set_X9_write : GoodIn wsX9_set wsX9_write := goodIn_r _ [152] (by decide +kernel) (by decide +kernel)
set_option maxRecDepth 20000 in
theorem gX9_set_X9_write : GoodIn wsX9_set (va_wsS RX9 61 yX9_write wsX9_write) := goodIn_app (goodIn_of _ (by decide +kernel)) ggX9_set_X9_write
theorem dX9_set_0 : decode cX9_set 0 = .ok (.iload_n 1, 1) := by decide +kernel
theorem dX9_set_1 : decode cX9_set 1 = .ok (.i2l, 1) := by decide +kernel
theorem dX9_set_2 : decode cX9_set 2 = .ok (.lconst 0, 1) := by decide +kernel
theorem dX9_set_3 : decode cX9_set 3 = .ok (.ldc2_w 37, 3) := by decide +kernel
theorem dX9_set_6 : decode cX9_set 6 = .ok (.invokestatic 39, 3) := by decide +kernel
theorem dX9_set_9 : decode cX9_set 9 = .ok (.ifCond .ne 6, 3) := by decide +kernel
theorem dX9_set_12 : decode cX9_set 12 = .ok (.bipush (-2), 2) := by decide +kernel
theorem dX9_set_14 : decode cX9_set 14 = .ok (.ireturn, 1) := by decide +kernel
theorem dX9_set_15 : decode cX9_set 15 = .ok (.iload_n 2, 1) := by decide +kernel
theorem dX9_set_16 : decode cX9_set 16 = .ok (.i2l, 1) := by decide +kernel
theorem dX9_set_17 : decode cX9_set 17 = .ok (.getstatic 43, 3) := by decide +kernel
theorem dX9_set_20 : decode cX9_set 20 = .ok (.iload_n 1, 1) := by decide +kernel
theorem dX9_set_21 : decode cX9_set 21 = .ok (.invokestatic 47, 3) := by decide +kernel
theorem dX9_set_24 : decode cX9_set 24 = .ok (.getstatic 51, 3) := by decide +kernel
theorem dX9_set_27 : decode cX9_set 27 = .ok (.iload_n 1, 1) := by decide +kernel
theorem dX9_set_28 : decode cX9_set 28 = .ok (.invokestatic 47, 3) := by decide +kernel
theorem dX9_set_31 : decode cX9_set 31 = .ok (.invokestatic 39, 3) := by decide +kernel
theorem dX9_set_34 : decode cX9_set 34 = .ok (.ifCond .ne 6, 3) := by decide +kernel
theorem dX9_set_37 : decode cX9_set 37 = .ok (.bipush (-2), 2) := by decide +kernel
theorem dX9_set_39 : decode cX9_set 39 = .ok (.ireturn, 1) := by decide +kernel
theorem dX9_set_40 : decode cX9_set 40 = .ok (.aload_n 0, 1) := by decide +kernel
theorem dX9_set_41 : decode cX9_set 41 = .ok (.getfield 22, 3) := by decide +kernel
theorem dX9_set_44 : decode cX9_set 44 = .ok (.aload_n 0, 1) := by decide +kernel
theorem dX9_set_45 : decode cX9_set 45 = .ok (.getfield 10, 3) := by decide +kernel
theorem dX9_set_48 : decode cX9_set 48 = .ok (.invokevirtual 54, 3) := by decide +kernel
theorem dX9_set_51 : decode cX9_set 51 = .ok (.aload_n 0, 1) := by decide +kernel
theorem dX9_set_52 : decode cX9_set 52 = .ok (.getfield 10, 3) := by decide +kernel
theorem dX9_set_55 : decode cX9_set 55 = .ok (.getfield 58, 3) := by decide +kernel
theorem dX9_set_58 : decode cX9_set 58 = .ok (.iload_n 1, 1) := by decide +kernel
theorem dX9_set_59 : decode cX9_set 59 = .ok (.invokestatic 47, 3) := by decide +kernel
theorem dX9_set_62 : decode cX9_set 62 = .ok (.lstore_n 3, 1) := by decide +kernel
theorem dX9_set_63 : decode cX9_set 63 = .ok (.aload_n 0, 1) := by decide +kernel
theorem dX9_set_64 : decode cX9_set 64 = .ok (.getfield 10, 3) := by decide +kernel
theorem dX9_set_67 : decode cX9_set 67 = .ok (.getfield 58, 3) := by decide +kernel
theorem dX9_set_70 : decode cX9_set 70 = .ok (.iload_n 1, 1) := by decide +kernel
theorem dX9_set_71 : decode cX9_set 71 = .ok (.iload_n 2, 1) := by decide +kernel
theorem dX9_set_72 : decode cX9_set 72 = .ok (.i2l, 1) := by decide +kernel
theorem dX9_set_73 : decode cX9_set 73 = .ok (.invokestatic 61, 3) := by decide +kernel
theorem dX9_set_76 : decode cX9_set 76 = .ok (.lload_n 3, 1) := by decide +kernel
theorem dX9_set_77 : decode cX9_set 77 = .ok (.l2i, 1) := by decide +kernel
theorem dX9_set_78 : decode cX9_set 78 = .ok (.ireturn, 1) := by decide +kernel
set_option maxRecDepth 20000 in
theorem ggX9_start_X9_isBetween : GoodIn wsX9_start wsX9_isBetween := goodIn_r _ [14] (by decide +kernel) (by decide +kernel)
set_option maxRecDepth 20000 in
theorem gX9_start_X9_isBetween : GoodIn wsX9_start (va_wsS RX9 39 yX9_isBetween wsX9_isBetween) := goodIn_app (goodIn_of _ (by decide +kernel)) ggX9_start_X9_isBetween
set_option maxRecDepth 20000 in
theorem ggX9_start_X1_record : GoodIn wsX9_start wsX1_record := goodIn_r _ [19, 20, 21, 22, 23, 24, 25, 26, 27, 13, 28, 29, 30, 31, 32, 33, 34, 35, 36, 37, 38, 39, 40, 41, 42, 43, 44, 45, 46, 47, 48, 49, 50, 51, 52, 53, 54, 55, 56, 57, 58, 59, 60, 61, 62, 63, 64, 65, 66, 67, 68, 69, 70, 71, 72, 73, 74, 75, 76, 77, 78, 79, 80, 81, 82, 83, 84, 85, 86, 87, 88, 89, 90, 91, 92, 93, 94, 95, 96, 97, 98, 99, 100, 101, 102, 103, 104, 105, 106, 107, 108, 109, 110, 111, 112, 113, 114, 115, 116, 117, 118, 119, 120, 121, 122, 123, 124, 125, 126, 127, 128, 129, 130, 131, 132, 133, 134, 135, 136, 137, 138, 139, 140, 141, 142, 143, 144, 145, 146, 147, 148, 149, 150, 171, 172, 173, 156, 157, 158, 159, 160, 161, 162, 163, 174, 175, 176, 177, 178, 164, 165, 166, 167, 168, 169, 170, 179, 180, 181, 182, 183, 184, 185, 186, 187, 188, 189, 190, 191, 192, 193, 194] (by decide +kernel) (by decide +kernel)
set_option maxRecDepth 20000 in
theorem gX9_start_X1_record : GoodIn wsX9_start (wsV RX9 54 RX1 yX1_record wsX1_record) := goodIn_app (goodIn_of _ (by decide +kernel)) ggX9_start_X1_record
theorem dX9_start_0 : decode cX9_start 0 = .ok (.iload_n 1, 1) := by decide +kernel
theorem dX9_start_1 : decode cX9_start 1 = .ok (.i2l, 1) := by decide +kernel
theorem dX9_start_2 : decode cX9_start 2 = .ok (.ldc2_w 65, 3) := by decide +kernel
theorem dX9_start_5 : decode cX9_start 5 = .ok (.ldc2_w 67, 3) := by decide +kernel
theorem dX9_start_8 : decode cX9_start 8 = .ok (.invokestatic 39, 3) := by decide +kernel
theorem dX9_start_11 : decode cX9_start 11 = .ok (.ifCond .eq 17, 3) := by decide +kernel
theorem dX9_start_14 : decode cX9_start 14 = .ok (.iload_n 2, 1) := by decide +kernel
theorem dX9_start_15 : decode cX9_start 15 = .ok (.i2l, 1) := by decide +kernel
theorem dX9_start_16 : decode cX9_start 16 = .ok (.ldc2_w 69, 3) := by decide +kernel
theorem dX9_start_19 : decode cX9_start 19 = .ok (.ldc2_w 71, 3) := by decide +kernel
theorem dX9_start_22 : decode cX9_start 22 = .ok (.invokestatic 39, 3) := by decide +kernel
theorem dX9_start_25 : decode cX9_start 25 = .ok (.ifCond .ne 6, 3) := by decide +kernel
theorem dX9_start_28 : decode cX9_start 28 = .ok (.ldc 73, 2) := by decide +kernel
theorem dX9_start_30 : decode cX9_start 30 = .ok (.ireturn, 1) := by decide +kernel
theorem dX9_start_31 : decode cX9_start 31 = .ok (.aload_n 0, 1) := by decide +kernel
theorem dX9_start_32 : decode cX9_start 32 = .ok (.getfield 22, 3) := by decide +kernel
theorem dX9_start_35 : decode cX9_start 35 = .ok (.aload_n 0, 1) := by decide +kernel
theorem dX9_start_36 : decode cX9_start 36 = .ok (.getfield 10, 3) := by decide +kernel
theorem dX9_start_39 : decode cX9_start 39 = .ok (.invokevirtual 54, 3) := by decide +kernel
theorem dX9_start_42 : decode cX9_start 42 = .ok (.aload_n 0, 1) := by decide +kernel
theorem dX9_start_43 : decode cX9_start 43 = .ok (.getfield 10, 3) := by decide +kernel
theorem dX9_start_46 : decode cX9_start 46 = .ok (.getfield 74, 3) := by decide +kernel
theorem dX9_start_49 : decode cX9_start 49 = .ok (.getfield 78, 3) := by decide +kernel
theorem dX9_start_52 : decode cX9_start 52 = .ok (.lstore_n 3, 1) := by decide +kernel
theorem dX9_start_53 : decode cX9_start 53 = .ok (.aload_n 0, 1) := by decide +kernel
theorem dX9_start_54 : decode cX9_start 54 = .ok (.getfield 10, 3) := by decide +kernel
theorem dX9_start_57 : decode cX9_start 57 = .ok (.getfield 74, 3) := by decide +kernel
theorem dX9_start_60 : decode cX9_start 60 = .ok (.iload_n 1, 1) := by decide +kernel
theorem dX9_start_61 : decode cX9_start 61 = .ok (.i2l, 1) := by decide +kernel
theorem dX9_start_62 : decode cX9_start 62 = .ok (.putfield 78, 3) := by decide +kernel
theorem dX9_start_65 : decode cX9_start 65 = .ok (.aload_n 0, 1) := by decide +kernel
theorem dX9_start_66 : decode cX9_start 66 = .ok (.getfield 10, 3) := by decide +kernel
theorem dX9_start_69 : decode cX9_start 69 = .ok (.getfield 74, 3) := by decide +kernel
theorem dX9_start_72 : decode cX9_start 72 = .ok (.iload_n 2, 1) := by decide +kernel
theorem dX9_start_73 : decode cX9_start 73 = .ok (.i2l, 1) := by decide +kernel
theorem dX9_start_74 : decode cX9_start 74 = .ok (.putfield 84, 3) := by decide +kernel
theorem dX9_start_77 : decode cX9_start 77 = .ok (.lload_n 3, 1) := by decide +kernel
theorem dX9_start_78 : decode cX9_start 78 = .ok (.l2i, 1) := by decide +kernel
theorem dX9_start_79 : decode cX9_start 79 = .ok (.ireturn, 1) := by decide +kernel
set_option maxRecDepth 20000 in
theorem ggX9_place_X9_isDegrees : GoodIn wsX9_place wsX9_isDegrees := goodIn_r _ [11, 12, 13, 14, 15, 10, 16] (by decide +kernel) (by decide +kernel)
set_option maxRecDepth 20000 in
theorem gX9_place_X9_isDegrees : GoodIn wsX9_place (va_wsS RX9 87 yX9_isDegrees wsX9_isDegrees) := goodIn_app (goodIn_of _ (by decide +kernel)) ggX9_place_X9_isDegrees
set_option maxRecDepth 20000 in
theorem ggX9_place_X1_record : GoodIn wsX9_place wsX1_record := goodIn_r _ [21, 22, 23, 24, 25, 26, 27, 28, 29, 10, 30, 31, 32, 33, 34, 35, 36, 37, 38, 39, 40, 41, 42, 43, 44, 45, 46, 47, 48, 49, 50, 51, 52, 53, 54, 55, 56, 57, 58, 59, 60, 61, 62, 63, 64, 65, 66, 67, 68, 69, 70, 71, 72, 73, 74, 75, 76, 77, 78, 79, 80, 81, 82, 83, 84, 85, 86, 87, 88, 89, 90, 91, 92, 93, 94, 95, 96, 97, 98, 99, 100, 101, 102, 103, 104, 105, 106, 107, 108, 109, 110, 111, 112, 113, 114, 115, 116, 117, 118, 119, 120, 121, 122, 123, 124, 125, 126, 127, 128, 129, 130, 131, 132, 133, 134, 135, 136, 137, 138, 139, 140, 141, 142, 143, 144, 145, 146, 147, 148, 149, 150, 151, 152, 175, 176, 177, 158, 159, 160, 161, 162, 163, 164, 165, 166, 167, 168, 169, 170, 178, 179, 180, 181, 182, 183, 184, 185, 186, 187, 188, 189, 190, 191, 192, 193, 194, 171, 172, 173, 174, 195, 196] (by decide +kernel) (by decide +kernel)
set_option maxRecDepth 20000 in
theorem gX9_place_X1_record : GoodIn wsX9_place (wsV RX9 54 RX1 yX1_record wsX1_record) := goodIn_app (goodIn_of _ (by decide +kernel)) ggX9_place_X1_record
theorem dX9_place_0 : decode cX9_place 0 = .ok (.iload_n 1, 1) := by decide +kernel
theorem dX9_place_1 : decode cX9_place 1 = .ok (.invokestatic 87, 3) := by decide +kernel
theorem dX9_place_4 : decode cX9_place 4 = .ok (.ifCond .ne 6, 3) := by decide +kernel
theorem dX9_place_7 : decode cX9_place 7 = .ok (.bipush (-2), 2) := by decide +kernel
theorem dX9_place_9 : decode cX9_place 9 = .ok (.ireturn, 1) := by decide +kernel
theorem dX9_place_10 : decode cX9_place 10 = .ok (.aload_n 0, 1) := by decide +kernel
theorem dX9_place_11 : decode cX9_place 11 = .ok (.getfield 10, 3) := by decide +kernel
theorem dX9_place_14 : decode cX9_place 14 = .ok (.getfield 91, 3) := by decide +kernel
theorem dX9_place_17 : decode cX9_place 17 = .ok (.getfield 95, 3) := by decide +kernel
theorem dX9_place_20 : decode cX9_place 20 = .ok (.getfield 101, 3) := by decide +kernel
theorem dX9_place_23 : decode cX9_place 23 = .ok (.ifCond .le 6, 3) := by decide +kernel
theorem dX9_place_26 : decode cX9_place 26 = .ok (.bipush (-5), 2) := by decide +kernel
theorem dX9_place_28 : decode cX9_place 28 = .ok (.ireturn, 1) := by decide +kernel
theorem dX9_place_29 : decode cX9_place 29 = .ok (.aload_n 0, 1) := by decide +kernel
theorem dX9_place_30 : decode cX9_place 30 = .ok (.getfield 22, 3) := by decide +kernel
theorem dX9_place_33 : decode cX9_place 33 = .ok (.aload_n 0, 1) := by decide +kernel
theorem dX9_place_34 : decode cX9_place 34 = .ok (.getfield 10, 3) := by decide +kernel
theorem dX9_place_37 : decode cX9_place 37 = .ok (.invokevirtual 54, 3) := by decide +kernel
theorem dX9_place_40 : decode cX9_place 40 = .ok (.aload_n 0, 1) := by decide +kernel
theorem dX9_place_41 : decode cX9_place 41 = .ok (.getfield 10, 3) := by decide +kernel
theorem dX9_place_44 : decode cX9_place 44 = .ok (.getfield 91, 3) := by decide +kernel
theorem dX9_place_47 : decode cX9_place 47 = .ok (.iload_n 1, 1) := by decide +kernel
theorem dX9_place_48 : decode cX9_place 48 = .ok (.i2l, 1) := by decide +kernel
theorem dX9_place_49 : decode cX9_place 49 = .ok (.ldc2_w 107, 3) := by decide +kernel
theorem dX9_place_52 : decode cX9_place 52 = .ok (.lmul, 1) := by decide +kernel
theorem dX9_place_53 : decode cX9_place 53 = .ok (.putfield 109, 3) := by decide +kernel
theorem dX9_place_56 : decode cX9_place 56 = .ok (.aload_n 0, 1) := by decide +kernel
theorem dX9_place_57 : decode cX9_place 57 = .ok (.getfield 10, 3) := by decide +kernel
theorem dX9_place_60 : decode cX9_place 60 = .ok (.getfield 91, 3) := by decide +kernel
theorem dX9_place_63 : decode cX9_place 63 = .ok (.getfield 95, 3) := by decide +kernel
theorem dX9_place_66 : decode cX9_place 66 = .ok (.getfield 101, 3) := by decide +kernel
theorem dX9_place_69 : decode cX9_place 69 = .ok (.ireturn, 1) := by decide +kernel
set_option maxRecDepth 20000 in
theorem ggX9_line_X9_isCourse : GoodIn wsX9_line wsX9_isCourse := goodIn_r _ [8, 9, 10, 11, 7, 12] (by decide +kernel) (by decide +kernel)
set_option maxRecDepth 20000 in
theorem gX9_line_X9_isCourse : GoodIn wsX9_line (va_wsS RX9 112 yX9_isCourse wsX9_isCourse) := goodIn_app (goodIn_of _ (by decide +kernel)) ggX9_line_X9_isCourse
set_option maxRecDepth 20000 in
theorem ggX9_line_X1_record : GoodIn wsX9_line wsX1_record := goodIn_r _ [17, 18, 19, 20, 21, 22, 23, 24, 25, 7, 26, 27, 28, 29, 30, 31, 32, 33, 34, 35, 36, 37, 38, 39, 40, 41, 42, 43, 44, 45, 46, 47, 48, 49, 50, 51, 52, 53, 54, 55, 56, 57, 58, 59, 60, 61, 62, 63, 64, 65, 66, 67, 68, 69, 70, 71, 72, 73, 74, 75, 76, 77, 78, 79, 80, 81, 82, 83, 84, 85, 86, 87, 88, 89, 90, 91, 92, 93, 94, 95, 96, 97, 98, 99, 100, 101, 102, 103, 104, 105, 106, 107, 108, 109, 110, 111, 112, 113, 114, 115, 116, 117, 118, 119, 120, 121, 122, 123, 124, 125, 126, 127, 128, 129, 130, 131, 132, 133, 134, 135, 136, 137, 138, 139, 140, 141, 142, 143, 144, 145, 146, 147, 148, 172, 173, 174, 160, 161, 162, 163, 164, 165, 166, 167, 175, 176, 177, 178, 179, 180, 181, 182, 183, 184, 185, 186, 187, 188, 189, 190, 191, 192, 168, 169, 170, 171, 193, 194, 195, 196, 197, 198] (by decide +kernel) (by decide +kernel)
set_option maxRecDepth 20000 in
theorem gX9_line_X1_record : GoodIn wsX9_line (wsV RX9 54 RX1 yX1_record wsX1_record) := goodIn_app (goodIn_of _ (by decide +kernel)) ggX9_line_X1_record
set_option maxRecDepth 20000 in
theorem ggX9_line_X6_addLine : GoodIn wsX9_line wsX6_addLine := goodIn_r _ [152, 146, 96, 153, 7, 154, 168, 169, 170, 171] (by decide +kernel) (by decide +kernel)
set_option maxRecDepth 20000 in
theorem gX9_line_X6_addLine : GoodIn wsX9_line (wsV RX9 124 RX6 yX6_addLine wsX6_addLine) := goodIn_app (goodIn_of _ (by decide +kernel)) ggX9_line_X6_addLine
theorem dX9_line_0 : decode cX9_line 0 = .ok (.iload_n 1, 1) := by decide +kernel
theorem dX9_line_1 : decode cX9_line 1 = .ok (.invokestatic 112, 3) := by decide +kernel
theorem dX9_line_4 : decode cX9_line 4 = .ok (.ifCond .ne 6, 3) := by decide +kernel
theorem dX9_line_7 : decode cX9_line 7 = .ok (.bipush (-2), 2) := by decide +kernel
theorem dX9_line_9 : decode cX9_line 9 = .ok (.ireturn, 1) := by decide +kernel
theorem dX9_line_10 : decode cX9_line 10 = .ok (.aload_n 0, 1) := by decide +kernel
theorem dX9_line_11 : decode cX9_line 11 = .ok (.getfield 10, 3) := by decide +kernel
theorem dX9_line_14 : decode cX9_line 14 = .ok (.getfield 115, 3) := by decide +kernel
theorem dX9_line_17 : decode cX9_line 17 = .ok (.getfield 119, 3) := by decide +kernel
theorem dX9_line_20 : decode cX9_line 20 = .ok (.bipush 6, 2) := by decide +kernel
theorem dX9_line_22 : decode cX9_line 22 = .ok (.if_icmp .lt 6, 3) := by decide +kernel
theorem dX9_line_25 : decode cX9_line 25 = .ok (.bipush (-4), 2) := by decide +kernel
theorem dX9_line_27 : decode cX9_line 27 = .ok (.ireturn, 1) := by decide +kernel
theorem dX9_line_28 : decode cX9_line 28 = .ok (.aload_n 0, 1) := by decide +kernel
theorem dX9_line_29 : decode cX9_line 29 = .ok (.getfield 22, 3) := by decide +kernel
theorem dX9_line_32 : decode cX9_line 32 = .ok (.aload_n 0, 1) := by decide +kernel
theorem dX9_line_33 : decode cX9_line 33 = .ok (.getfield 10, 3) := by decide +kernel
theorem dX9_line_36 : decode cX9_line 36 = .ok (.invokevirtual 54, 3) := by decide +kernel
theorem dX9_line_39 : decode cX9_line 39 = .ok (.aload_n 0, 1) := by decide +kernel
theorem dX9_line_40 : decode cX9_line 40 = .ok (.getfield 10, 3) := by decide +kernel
theorem dX9_line_43 : decode cX9_line 43 = .ok (.getfield 115, 3) := by decide +kernel
theorem dX9_line_46 : decode cX9_line 46 = .ok (.iload_n 1, 1) := by decide +kernel
theorem dX9_line_47 : decode cX9_line 47 = .ok (.i2l, 1) := by decide +kernel
theorem dX9_line_48 : decode cX9_line 48 = .ok (.invokevirtual 124, 3) := by decide +kernel
theorem dX9_line_51 : decode cX9_line 51 = .ok (.ireturn, 1) := by decide +kernel
set_option maxRecDepth 20000 in
theorem ggX9_steer_X9_isCourse : GoodIn wsX9_steer wsX9_isCourse := goodIn_r _ [11, 12, 13, 14, 10, 15] (by decide +kernel) (by decide +kernel)
set_option maxRecDepth 20000 in
theorem gX9_steer_X9_isCourse : GoodIn wsX9_steer (va_wsS RX9 112 yX9_isCourse wsX9_isCourse) := goodIn_app (goodIn_of _ (by decide +kernel)) ggX9_steer_X9_isCourse
set_option maxRecDepth 20000 in
theorem ggX9_steer_X9_isSpeed : GoodIn wsX9_steer wsX9_isSpeed := goodIn_r _ [18, 19, 13, 14, 10, 15] (by decide +kernel) (by decide +kernel)
set_option maxRecDepth 20000 in
theorem gX9_steer_X9_isSpeed : GoodIn wsX9_steer (va_wsS RX9 128 yX9_isSpeed wsX9_isSpeed) := goodIn_app (goodIn_of _ (by decide +kernel)) ggX9_steer_X9_isSpeed
set_option maxRecDepth 20000 in
theorem ggX9_steer_X1_record : GoodIn wsX9_steer wsX1_record := goodIn_r _ [24, 25, 26, 27, 28, 29, 30, 31, 32, 10, 33, 34, 35, 36, 37, 38, 39, 40, 41, 42, 43, 44, 45, 46, 47, 48, 49, 50, 51, 52, 53, 54, 55, 56, 57, 58, 59, 60, 61, 62, 63, 64, 65, 66, 67, 68, 69, 70, 71, 72, 73, 74, 75, 76, 77, 78, 79, 80, 81, 82, 83, 84, 85, 86, 87, 88, 89, 90, 91, 92, 93, 94, 95, 96, 97, 98, 99, 100, 101, 102, 103, 104, 105, 106, 107, 108, 109, 110, 111, 112, 113, 114, 115, 116, 117, 118, 119, 120, 121, 122, 123, 124, 125, 126, 127, 128, 129, 130, 131, 132, 133, 134, 135, 136, 137, 138, 139, 140, 141, 142, 143, 144, 145, 146, 147, 148, 149, 150, 151, 152, 153, 154, 155, 182, 183, 184, 165, 166, 167, 168, 169, 170, 171, 172, 173, 174, 175, 176, 177, 185, 186, 187, 188, 189, 190, 191, 192, 193, 194, 195, 196, 197, 198, 199, 200, 201, 178, 179, 180, 181, 202, 203] (by decide +kernel) (by decide +kernel)
set_option maxRecDepth 20000 in
theorem gX9_steer_X1_record : GoodIn wsX9_steer (wsV RX9 54 RX1 yX1_record wsX1_record) := goodIn_app (goodIn_of _ (by decide +kernel)) ggX9_steer_X1_record
set_option maxRecDepth 20000 in
theorem ggX9_steer_X3_clear : GoodIn wsX9_steer wsX3_clear := goodIn_r _ [159, 128, 178, 179, 180, 181] (by decide +kernel) (by decide +kernel)
set_option maxRecDepth 20000 in
theorem gX9_steer_X3_clear : GoodIn wsX9_steer (wsV RX9 131 RX3 yX3_clear wsX3_clear) := goodIn_app (goodIn_of _ (by decide +kernel)) ggX9_steer_X3_clear
theorem dX9_steer_0 : decode cX9_steer 0 = .ok (.iload_n 1, 1) := by decide +kernel
theorem dX9_steer_1 : decode cX9_steer 1 = .ok (.invokestatic 112, 3) := by decide +kernel
theorem dX9_steer_4 : decode cX9_steer 4 = .ok (.ifCond .eq 10, 3) := by decide +kernel
theorem dX9_steer_7 : decode cX9_steer 7 = .ok (.iload_n 2, 1) := by decide +kernel
theorem dX9_steer_8 : decode cX9_steer 8 = .ok (.invokestatic 128, 3) := by decide +kernel
theorem dX9_steer_11 : decode cX9_steer 11 = .ok (.ifCond .ne 6, 3) := by decide +kernel
theorem dX9_steer_14 : decode cX9_steer 14 = .ok (.bipush (-2), 2) := by decide +kernel
theorem dX9_steer_16 : decode cX9_steer 16 = .ok (.ireturn, 1) := by decide +kernel
theorem dX9_steer_17 : decode cX9_steer 17 = .ok (.aload_n 0, 1) := by decide +kernel
theorem dX9_steer_18 : decode cX9_steer 18 = .ok (.getfield 22, 3) := by decide +kernel
theorem dX9_steer_21 : decode cX9_steer 21 = .ok (.aload_n 0, 1) := by decide +kernel
theorem dX9_steer_22 : decode cX9_steer 22 = .ok (.getfield 10, 3) := by decide +kernel
theorem dX9_steer_25 : decode cX9_steer 25 = .ok (.invokevirtual 54, 3) := by decide +kernel
theorem dX9_steer_28 : decode cX9_steer 28 = .ok (.aload_n 0, 1) := by decide +kernel
theorem dX9_steer_29 : decode cX9_steer 29 = .ok (.getfield 10, 3) := by decide +kernel
theorem dX9_steer_32 : decode cX9_steer 32 = .ok (.getfield 91, 3) := by decide +kernel
theorem dX9_steer_35 : decode cX9_steer 35 = .ok (.getfield 95, 3) := by decide +kernel
theorem dX9_steer_38 : decode cX9_steer 38 = .ok (.getfield 101, 3) := by decide +kernel
theorem dX9_steer_41 : decode cX9_steer 41 = .ok (.istore_n 3, 1) := by decide +kernel
theorem dX9_steer_42 : decode cX9_steer 42 = .ok (.aload_n 0, 1) := by decide +kernel
theorem dX9_steer_43 : decode cX9_steer 43 = .ok (.getfield 10, 3) := by decide +kernel
theorem dX9_steer_46 : decode cX9_steer 46 = .ok (.getfield 91, 3) := by decide +kernel
theorem dX9_steer_49 : decode cX9_steer 49 = .ok (.getfield 95, 3) := by decide +kernel
theorem dX9_steer_52 : decode cX9_steer 52 = .ok (.invokevirtual 131, 3) := by decide +kernel
theorem dX9_steer_55 : decode cX9_steer 55 = .ok (.aload_n 0, 1) := by decide +kernel
theorem dX9_steer_56 : decode cX9_steer 56 = .ok (.getfield 10, 3) := by decide +kernel
theorem dX9_steer_59 : decode cX9_steer 59 = .ok (.getfield 91, 3) := by decide +kernel
theorem dX9_steer_62 : decode cX9_steer 62 = .ok (.iload_n 1, 1) := by decide +kernel
theorem dX9_steer_63 : decode cX9_steer 63 = .ok (.i2l, 1) := by decide +kernel
theorem dX9_steer_64 : decode cX9_steer 64 = .ok (.putfield 134, 3) := by decide +kernel
theorem dX9_steer_67 : decode cX9_steer 67 = .ok (.aload_n 0, 1) := by decide +kernel
theorem dX9_steer_68 : decode cX9_steer 68 = .ok (.getfield 10, 3) := by decide +kernel
theorem dX9_steer_71 : decode cX9_steer 71 = .ok (.getfield 91, 3) := by decide +kernel
theorem dX9_steer_74 : decode cX9_steer 74 = .ok (.iload_n 2, 1) := by decide +kernel
theorem dX9_steer_75 : decode cX9_steer 75 = .ok (.i2l, 1) := by decide +kernel
theorem dX9_steer_76 : decode cX9_steer 76 = .ok (.putfield 137, 3) := by decide +kernel
theorem dX9_steer_79 : decode cX9_steer 79 = .ok (.iload_n 3, 1) := by decide +kernel
theorem dX9_steer_80 : decode cX9_steer 80 = .ok (.ireturn, 1) := by decide +kernel
set_option maxRecDepth 20000 in
theorem ggX9_leg_X9_isCourse : GoodIn wsX9_leg wsX9_isCourse := goodIn_r _ [9, 10, 11, 12, 8, 13] (by decide +kernel) (by decide +kernel)
set_option maxRecDepth 20000 in
theorem gX9_leg_X9_isCourse : GoodIn wsX9_leg (va_wsS RX9 112 yX9_isCourse wsX9_isCourse) := goodIn_app (goodIn_of _ (by decide +kernel)) ggX9_leg_X9_isCourse
set_option maxRecDepth 20000 in
theorem ggX9_leg_X9_isSpeed : GoodIn wsX9_leg wsX9_isSpeed := goodIn_r _ [16, 17, 11, 12, 8, 13] (by decide +kernel) (by decide +kernel)
set_option maxRecDepth 20000 in
theorem gX9_leg_X9_isSpeed : GoodIn wsX9_leg (va_wsS RX9 128 yX9_isSpeed wsX9_isSpeed) := goodIn_app (goodIn_of _ (by decide +kernel)) ggX9_leg_X9_isSpeed
set_option maxRecDepth 20000 in
theorem ggX9_leg_X9_isMinutes : GoodIn wsX9_leg wsX9_isMinutes := goodIn_r _ [20, 21, 11, 12, 8, 13] (by decide +kernel) (by decide +kernel)
set_option maxRecDepth 20000 in
theorem gX9_leg_X9_isMinutes : GoodIn wsX9_leg (va_wsS RX9 140 yX9_isMinutes wsX9_isMinutes) := goodIn_app (goodIn_of _ (by decide +kernel)) ggX9_leg_X9_isMinutes
set_option maxRecDepth 20000 in
theorem ggX9_leg_X1_record : GoodIn wsX9_leg wsX1_record := goodIn_r _ [26, 27, 28, 29, 30, 31, 32, 33, 34, 8, 35, 36, 37, 38, 39, 40, 41, 42, 43, 44, 45, 46, 47, 48, 49, 50, 51, 52, 53, 54, 55, 56, 57, 58, 59, 60, 61, 62, 63, 64, 65, 66, 67, 68, 69, 70, 71, 72, 73, 74, 75, 76, 77, 78, 79, 80, 81, 82, 83, 84, 85, 86, 87, 88, 89, 90, 91, 92, 93, 94, 95, 96, 97, 98, 99, 100, 101, 102, 103, 104, 105, 106, 107, 108, 109, 110, 111, 112, 113, 114, 115, 116, 117, 118, 119, 120, 121, 122, 123, 124, 125, 126, 127, 128, 129, 130, 131, 132, 133, 134, 135, 136, 137, 138, 139, 140, 141, 142, 143, 144, 145, 146, 147, 148, 149, 150, 151, 152, 153, 154, 155, 156, 157, 199, 200, 201, 182, 183, 184, 185, 186, 187, 188, 189, 190, 191, 192, 193, 194, 202, 203, 204, 205, 206, 207, 208, 209, 210, 211, 212, 213, 214, 215, 216, 217, 218, 195, 196, 197, 198, 219, 220] (by decide +kernel) (by decide +kernel)
set_option maxRecDepth 20000 in
theorem gX9_leg_X1_record : GoodIn wsX9_leg (wsV RX9 54 RX1 yX1_record wsX1_record) := goodIn_app (goodIn_of _ (by decide +kernel)) ggX9_leg_X1_record
set_option maxRecDepth 20000 in
theorem ggX9_leg_X5_addLeg : GoodIn wsX9_leg wsX5_addLeg := goodIn_r _ [161, 69, 162, 163, 164, 68, 165, 130, 77, 78, 79, 166, 8, 167, 168, 169, 170, 49, 171, 172, 173, 123, 174, 124, 175, 176, 190, 191, 192, 193, 194, 195, 196, 197, 198] (by decide +kernel) (by decide +kernel)
set_option maxRecDepth 20000 in
theorem gX9_leg_X5_addLeg : GoodIn wsX9_leg (wsV RX9 143 RX5 yX5_addLeg wsX5_addLeg) := goodIn_app (goodIn_of _ (by decide +kernel)) ggX9_leg_X5_addLeg
theorem dX9_leg_0 : decode cX9_leg 0 = .ok (.iload_n 1, 1) := by decide +kernel
theorem dX9_leg_1 : decode cX9_leg 1 = .ok (.invokestatic 112, 3) := by decide +kernel
theorem dX9_leg_4 : decode cX9_leg 4 = .ok (.ifCond .eq 17, 3) := by decide +kernel
theorem dX9_leg_7 : decode cX9_leg 7 = .ok (.iload_n 2, 1) := by decide +kernel
theorem dX9_leg_8 : decode cX9_leg 8 = .ok (.invokestatic 128, 3) := by decide +kernel
theorem dX9_leg_11 : decode cX9_leg 11 = .ok (.ifCond .eq 10, 3) := by decide +kernel
theorem dX9_leg_14 : decode cX9_leg 14 = .ok (.iload_n 3, 1) := by decide +kernel
theorem dX9_leg_15 : decode cX9_leg 15 = .ok (.invokestatic 140, 3) := by decide +kernel
theorem dX9_leg_18 : decode cX9_leg 18 = .ok (.ifCond .ne 6, 3) := by decide +kernel
theorem dX9_leg_21 : decode cX9_leg 21 = .ok (.bipush (-2), 2) := by decide +kernel
theorem dX9_leg_23 : decode cX9_leg 23 = .ok (.ireturn, 1) := by decide +kernel
theorem dX9_leg_24 : decode cX9_leg 24 = .ok (.aload_n 0, 1) := by decide +kernel
theorem dX9_leg_25 : decode cX9_leg 25 = .ok (.getfield 10, 3) := by decide +kernel
theorem dX9_leg_28 : decode cX9_leg 28 = .ok (.getfield 91, 3) := by decide +kernel
theorem dX9_leg_31 : decode cX9_leg 31 = .ok (.getfield 95, 3) := by decide +kernel
theorem dX9_leg_34 : decode cX9_leg 34 = .ok (.getfield 101, 3) := by decide +kernel
theorem dX9_leg_37 : decode cX9_leg 37 = .ok (.bipush 8, 2) := by decide +kernel
theorem dX9_leg_39 : decode cX9_leg 39 = .ok (.if_icmp .lt 6, 3) := by decide +kernel
theorem dX9_leg_42 : decode cX9_leg 42 = .ok (.bipush (-4), 2) := by decide +kernel
theorem dX9_leg_44 : decode cX9_leg 44 = .ok (.ireturn, 1) := by decide +kernel
theorem dX9_leg_45 : decode cX9_leg 45 = .ok (.aload_n 0, 1) := by decide +kernel
theorem dX9_leg_46 : decode cX9_leg 46 = .ok (.getfield 22, 3) := by decide +kernel
theorem dX9_leg_49 : decode cX9_leg 49 = .ok (.aload_n 0, 1) := by decide +kernel
theorem dX9_leg_50 : decode cX9_leg 50 = .ok (.getfield 10, 3) := by decide +kernel
theorem dX9_leg_53 : decode cX9_leg 53 = .ok (.invokevirtual 54, 3) := by decide +kernel
theorem dX9_leg_56 : decode cX9_leg 56 = .ok (.aload_n 0, 1) := by decide +kernel
theorem dX9_leg_57 : decode cX9_leg 57 = .ok (.getfield 10, 3) := by decide +kernel
theorem dX9_leg_60 : decode cX9_leg 60 = .ok (.getfield 91, 3) := by decide +kernel
theorem dX9_leg_63 : decode cX9_leg 63 = .ok (.iload_n 1, 1) := by decide +kernel
theorem dX9_leg_64 : decode cX9_leg 64 = .ok (.i2l, 1) := by decide +kernel
theorem dX9_leg_65 : decode cX9_leg 65 = .ok (.iload_n 2, 1) := by decide +kernel
theorem dX9_leg_66 : decode cX9_leg 66 = .ok (.i2l, 1) := by decide +kernel
theorem dX9_leg_67 : decode cX9_leg 67 = .ok (.iload_n 3, 1) := by decide +kernel
theorem dX9_leg_68 : decode cX9_leg 68 = .ok (.i2l, 1) := by decide +kernel
theorem dX9_leg_69 : decode cX9_leg 69 = .ok (.invokevirtual 143, 3) := by decide +kernel
theorem dX9_leg_72 : decode cX9_leg 72 = .ok (.aload_n 0, 1) := by decide +kernel
theorem dX9_leg_73 : decode cX9_leg 73 = .ok (.getfield 10, 3) := by decide +kernel
theorem dX9_leg_76 : decode cX9_leg 76 = .ok (.getfield 91, 3) := by decide +kernel
theorem dX9_leg_79 : decode cX9_leg 79 = .ok (.getfield 95, 3) := by decide +kernel
theorem dX9_leg_82 : decode cX9_leg 82 = .ok (.getfield 101, 3) := by decide +kernel
theorem dX9_leg_85 : decode cX9_leg 85 = .ok (.ireturn, 1) := by decide +kernel
set_option maxRecDepth 20000 in
theorem ggX9_pass_X9_isMinutes : GoodIn wsX9_pass wsX9_isMinutes := goodIn_r _ [10, 11, 12, 13, 9, 14] (by decide +kernel) (by decide +kernel)
set_option maxRecDepth 20000 in
theorem gX9_pass_X9_isMinutes : GoodIn wsX9_pass (va_wsS RX9 140 yX9_isMinutes wsX9_isMinutes) := goodIn_app (goodIn_of _ (by decide +kernel)) ggX9_pass_X9_isMinutes
set_option maxRecDepth 20000 in
theorem ggX9_pass_X1_record : GoodIn wsX9_pass wsX1_record := goodIn_r _ [19, 20, 21, 22, 23, 24, 25, 26, 27, 9, 28, 29, 30, 31, 32, 33, 34, 35, 36, 37, 38, 39, 40, 41, 42, 43, 44, 45, 46, 47, 48, 49, 50, 51, 52, 53, 54, 55, 56, 57, 58, 59, 60, 61, 62, 63, 64, 65, 66, 67, 68, 69, 70, 71, 72, 73, 74, 75, 76, 77, 78, 79, 80, 81, 82, 83, 84, 85, 86, 87, 88, 89, 90, 91, 92, 93, 94, 95, 96, 97, 98, 99, 100, 101, 102, 103, 104, 105, 106, 107, 108, 109, 110, 111, 112, 113, 114, 115, 116, 117, 118, 119, 120, 121, 122, 123, 124, 125, 126, 127, 128, 129, 130, 131, 132, 133, 134, 135, 136, 137, 138, 139, 140, 141, 142, 143, 144, 145, 146, 147, 148, 149, 150, 263, 264, 265, 249, 250, 251, 252, 253, 254, 255, 256, 266, 267, 268, 269, 270, 271, 272, 273, 274, 275, 276, 277, 257, 258, 259, 260, 261, 262, 278, 279, 280, 281, 282, 283, 284, 285, 286, 287] (by decide +kernel) (by decide +kernel)
set_option maxRecDepth 20000 in
theorem gX9_pass_X1_record : GoodIn wsX9_pass (wsV RX9 54 RX1 yX1_record wsX1_record) := goodIn_app (goodIn_of _ (by decide +kernel)) ggX9_pass_X1_record
set_option maxRecDepth 20000 in
theorem ggX9_pass_X7_liveMinute : GoodIn wsX9_pass wsX7_liveMinute := goodIn_r _ [154, 47, 155, 43, 156, 39, 51, 106, 157, 158, 159, 9, 160, 161, 162, 25, 163, 164, 165, 166, 167, 168, 169, 170, 171, 172, 173, 174, 175, 176, 177, 178, 179, 31, 180, 181, 182, 183, 184, 185, 186, 187, 188, 189, 190, 191, 192, 193, 194, 195, 196, 46, 197, 129, 128, 198, 199, 77, 200, 201, 202, 203, 204, 205, 206, 207, 208, 209, 210, 211, 212, 50, 213, 137, 86, 87, 88, 136, 138, 214, 215, 216, 85, 217, 94, 143, 218, 24, 26, 219, 220, 221, 222, 223, 42, 224, 115, 117, 225, 116, 226, 227, 118, 62, 228, 229, 230, 231, 232, 233, 234, 235, 236, 61, 237, 123, 70, 71, 72, 67, 68, 69, 238, 239, 240, 241, 242, 243, 249, 250, 251, 252, 253, 254, 255, 256, 271, 272, 273, 274, 275, 276, 277, 266, 267, 268, 269, 270, 257, 258, 259, 260, 261, 262, 286, 287, 282, 283, 284, 285] (by decide +kernel) (by decide +kernel)
set_option maxRecDepth 20000 in
theorem gX9_pass_X7_liveMinute : GoodIn wsX9_pass (wsV RX9 159 RX7 yX7_liveMinute wsX7_liveMinute) := goodIn_app (goodIn_of _ (by decide +kernel)) ggX9_pass_X7_liveMinute
theorem dX9_pass_0 : decode cX9_pass 0 = .ok (.iload_n 1, 1) := by decide +kernel
theorem dX9_pass_1 : decode cX9_pass 1 = .ok (.invokestatic 140, 3) := by decide +kernel
theorem dX9_pass_4 : decode cX9_pass 4 = .ok (.ifCond .ne 6, 3) := by decide +kernel
theorem dX9_pass_7 : decode cX9_pass 7 = .ok (.bipush (-2), 2) := by decide +kernel
theorem dX9_pass_9 : decode cX9_pass 9 = .ok (.ireturn, 1) := by decide +kernel
theorem dX9_pass_10 : decode cX9_pass 10 = .ok (.aload_n 0, 1) := by decide +kernel
theorem dX9_pass_11 : decode cX9_pass 11 = .ok (.getfield 10, 3) := by decide +kernel
theorem dX9_pass_14 : decode cX9_pass 14 = .ok (.getfield 147, 3) := by decide +kernel
theorem dX9_pass_17 : decode cX9_pass 17 = .ok (.iload_n 1, 1) := by decide +kernel
theorem dX9_pass_18 : decode cX9_pass 18 = .ok (.i2l, 1) := by decide +kernel
theorem dX9_pass_19 : decode cX9_pass 19 = .ok (.ladd, 1) := by decide +kernel
theorem dX9_pass_20 : decode cX9_pass 20 = .ok (.ldc2_w 71, 3) := by decide +kernel
theorem dX9_pass_23 : decode cX9_pass 23 = .ok (.lcmp, 1) := by decide +kernel
theorem dX9_pass_24 : decode cX9_pass 24 = .ok (.ifCond .le 6, 3) := by decide +kernel
theorem dX9_pass_27 : decode cX9_pass 27 = .ok (.bipush (-5), 2) := by decide +kernel
theorem dX9_pass_29 : decode cX9_pass 29 = .ok (.ireturn, 1) := by decide +kernel
theorem dX9_pass_30 : decode cX9_pass 30 = .ok (.aload_n 0, 1) := by decide +kernel
theorem dX9_pass_31 : decode cX9_pass 31 = .ok (.getfield 22, 3) := by decide +kernel
theorem dX9_pass_34 : decode cX9_pass 34 = .ok (.aload_n 0, 1) := by decide +kernel
theorem dX9_pass_35 : decode cX9_pass 35 = .ok (.getfield 10, 3) := by decide +kernel
theorem dX9_pass_38 : decode cX9_pass 38 = .ok (.invokevirtual 54, 3) := by decide +kernel
theorem dX9_pass_41 : decode cX9_pass 41 = .ok (.aload_n 0, 1) := by decide +kernel
theorem dX9_pass_42 : decode cX9_pass 42 = .ok (.getfield 10, 3) := by decide +kernel
theorem dX9_pass_45 : decode cX9_pass 45 = .ok (.getfield 150, 3) := by decide +kernel
theorem dX9_pass_48 : decode cX9_pass 48 = .ok (.getfield 154, 3) := by decide +kernel
theorem dX9_pass_51 : decode cX9_pass 51 = .ok (.istore_n 2, 1) := by decide +kernel
theorem dX9_pass_52 : decode cX9_pass 52 = .ok (.iconst 0, 1) := by decide +kernel
theorem dX9_pass_53 : decode cX9_pass 53 = .ok (.istore_n 3, 1) := by decide +kernel
theorem dX9_pass_54 : decode cX9_pass 54 = .ok (.iload_n 3, 1) := by decide +kernel
theorem dX9_pass_55 : decode cX9_pass 55 = .ok (.iload_n 1, 1) := by decide +kernel
theorem dX9_pass_56 : decode cX9_pass 56 = .ok (.if_icmp .ge 16, 3) := by decide +kernel
theorem dX9_pass_59 : decode cX9_pass 59 = .ok (.aload_n 0, 1) := by decide +kernel
theorem dX9_pass_60 : decode cX9_pass 60 = .ok (.getfield 10, 3) := by decide +kernel
theorem dX9_pass_63 : decode cX9_pass 63 = .ok (.invokevirtual 159, 3) := by decide +kernel
theorem dX9_pass_66 : decode cX9_pass 66 = .ok (.iinc 3 1, 3) := by decide +kernel
theorem dX9_pass_69 : decode cX9_pass 69 = .ok (.goto (-15), 3) := by decide +kernel
theorem dX9_pass_72 : decode cX9_pass 72 = .ok (.aload_n 0, 1) := by decide +kernel
theorem dX9_pass_73 : decode cX9_pass 73 = .ok (.getfield 10, 3) := by decide +kernel
theorem dX9_pass_76 : decode cX9_pass 76 = .ok (.getfield 150, 3) := by decide +kernel
theorem dX9_pass_79 : decode cX9_pass 79 = .ok (.getfield 154, 3) := by decide +kernel
theorem dX9_pass_82 : decode cX9_pass 82 = .ok (.iload_n 2, 1) := by decide +kernel
theorem dX9_pass_83 : decode cX9_pass 83 = .ok (.isub, 1) := by decide +kernel
theorem dX9_pass_84 : decode cX9_pass 84 = .ok (.ireturn, 1) := by decide +kernel
set_option maxRecDepth 20000 in
theorem ggX9_damp_X9_isBetween : GoodIn wsX9_damp wsX9_isBetween := goodIn_r _ [13] (by decide +kernel) (by decide +kernel)
set_option maxRecDepth 20000 in
theorem gX9_damp_X9_isBetween : GoodIn wsX9_damp (va_wsS RX9 39 yX9_isBetween wsX9_isBetween) := goodIn_app (goodIn_of _ (by decide +kernel)) ggX9_damp_X9_isBetween
set_option maxRecDepth 20000 in
theorem ggX9_damp_X7_minutesSinceDamped : GoodIn wsX9_damp wsX7_minutesSinceDamped := goodIn_r _ [18, 19, 20, 21, 22, 23, 165, 166, 167, 168, 169, 170, 171, 172, 173, 174, 175, 176, 177, 178, 179] (by decide +kernel) (by decide +kernel)
set_option maxRecDepth 20000 in
theorem gX9_damp_X7_minutesSinceDamped : GoodIn wsX9_damp (wsV RX9 164 RX7 yX7_minutesSinceDamped wsX7_minutesSinceDamped) := goodIn_app (goodIn_of _ (by decide +kernel)) ggX9_damp_X7_minutesSinceDamped
set_option maxRecDepth 20000 in
theorem ggX9_damp_X9_at : GoodIn wsX9_damp wsX9_at := goodIn_r _ [26] (by decide +kernel) (by decide +kernel)
set_option maxRecDepth 20000 in
theorem gX9_damp_X9_at : GoodIn wsX9_damp (va_wsS RX9 47 yX9_at wsX9_at) := goodIn_app (goodIn_of _ (by decide +kernel)) ggX9_damp_X9_at
set_option maxRecDepth 20000 in
theorem ggX9_damp_X1_record : GoodIn wsX9_damp wsX1_record := goodIn_r _ [31, 32, 33, 34, 35, 36, 37, 38, 39, 12, 40, 41, 42, 17, 43, 44, 45, 46, 47, 48, 49, 50, 51, 52, 53, 54, 55, 56, 57, 19, 58, 59, 60, 61, 62, 63, 64, 65, 66, 67, 68, 69, 70, 71, 72, 73, 74, 75, 76, 77, 78, 79, 80, 81, 82, 83, 84, 85, 86, 87, 88, 89, 90, 91, 92, 93, 94, 95, 96, 97, 98, 99, 100, 101, 102, 103, 104, 105, 106, 107, 108, 109, 110, 111, 112, 113, 114, 115, 23, 116, 117, 118, 119, 120, 121, 122, 123, 124, 125, 126, 127, 128, 129, 130, 131, 132, 133, 134, 135, 136, 137, 138, 139, 140, 141, 142, 143, 144, 145, 146, 147, 148, 149, 150, 151, 152, 153, 154, 155, 156, 157, 158, 159, 180, 181, 182, 165, 166, 167, 168, 169, 170, 171, 172, 183, 184, 185, 186, 187, 173, 174, 175, 176, 177, 178, 179, 188, 189, 190, 191, 192, 193, 194, 195, 196, 197, 198, 199, 200, 201, 202, 203] (by decide +kernel) (by decide +kernel)
set_option maxRecDepth 20000 in
theorem gX9_damp_X1_record : GoodIn wsX9_damp (wsV RX9 54 RX1 yX1_record wsX1_record) := goodIn_app (goodIn_of _ (by decide +kernel)) ggX9_damp_X1_record
theorem dX9_damp_0 : decode cX9_damp 0 = .ok (.iload_n 1, 1) := by decide +kernel
theorem dX9_damp_1 : decode cX9_damp 1 = .ok (.i2l, 1) := by decide +kernel
theorem dX9_damp_2 : decode cX9_damp 2 = .ok (.lconst 0, 1) := by decide +kernel
theorem dX9_damp_3 : decode cX9_damp 3 = .ok (.ldc2_w 162, 3) := by decide +kernel
theorem dX9_damp_6 : decode cX9_damp 6 = .ok (.invokestatic 39, 3) := by decide +kernel
theorem dX9_damp_9 : decode cX9_damp 9 = .ok (.ifCond .ne 6, 3) := by decide +kernel
theorem dX9_damp_12 : decode cX9_damp 12 = .ok (.bipush (-2), 2) := by decide +kernel
theorem dX9_damp_14 : decode cX9_damp 14 = .ok (.ireturn, 1) := by decide +kernel
theorem dX9_damp_15 : decode cX9_damp 15 = .ok (.aload_n 0, 1) := by decide +kernel
theorem dX9_damp_16 : decode cX9_damp 16 = .ok (.getfield 10, 3) := by decide +kernel
theorem dX9_damp_19 : decode cX9_damp 19 = .ok (.invokevirtual 164, 3) := by decide +kernel
theorem dX9_damp_22 : decode cX9_damp 22 = .ok (.lstore_n 2, 1) := by decide +kernel
theorem dX9_damp_23 : decode cX9_damp 23 = .ok (.lload_n 2, 1) := by decide +kernel
theorem dX9_damp_24 : decode cX9_damp 24 = .ok (.ldc2_w 168, 3) := by decide +kernel
theorem dX9_damp_27 : decode cX9_damp 27 = .ok (.lcmp, 1) := by decide +kernel
theorem dX9_damp_28 : decode cX9_damp 28 = .ok (.ifCond .eq 23, 3) := by decide +kernel
theorem dX9_damp_31 : decode cX9_damp 31 = .ok (.lload_n 2, 1) := by decide +kernel
theorem dX9_damp_32 : decode cX9_damp 32 = .ok (.aload_n 0, 1) := by decide +kernel
theorem dX9_damp_33 : decode cX9_damp 33 = .ok (.getfield 10, 3) := by decide +kernel
theorem dX9_damp_36 : decode cX9_damp 36 = .ok (.getfield 58, 3) := by decide +kernel
theorem dX9_damp_39 : decode cX9_damp 39 = .ok (.bipush 8, 2) := by decide +kernel
theorem dX9_damp_41 : decode cX9_damp 41 = .ok (.invokestatic 47, 3) := by decide +kernel
theorem dX9_damp_44 : decode cX9_damp 44 = .ok (.lcmp, 1) := by decide +kernel
theorem dX9_damp_45 : decode cX9_damp 45 = .ok (.ifCond .ge 6, 3) := by decide +kernel
theorem dX9_damp_48 : decode cX9_damp 48 = .ok (.bipush (-5), 2) := by decide +kernel
theorem dX9_damp_50 : decode cX9_damp 50 = .ok (.ireturn, 1) := by decide +kernel
theorem dX9_damp_51 : decode cX9_damp 51 = .ok (.aload_n 0, 1) := by decide +kernel
theorem dX9_damp_52 : decode cX9_damp 52 = .ok (.getfield 22, 3) := by decide +kernel
theorem dX9_damp_55 : decode cX9_damp 55 = .ok (.aload_n 0, 1) := by decide +kernel
theorem dX9_damp_56 : decode cX9_damp 56 = .ok (.getfield 10, 3) := by decide +kernel
theorem dX9_damp_59 : decode cX9_damp 59 = .ok (.invokevirtual 54, 3) := by decide +kernel
theorem dX9_damp_62 : decode cX9_damp 62 = .ok (.aload_n 0, 1) := by decide +kernel
theorem dX9_damp_63 : decode cX9_damp 63 = .ok (.getfield 10, 3) := by decide +kernel
theorem dX9_damp_66 : decode cX9_damp 66 = .ok (.getfield 74, 3) := by decide +kernel
theorem dX9_damp_69 : decode cX9_damp 69 = .ok (.getfield 170, 3) := by decide +kernel
theorem dX9_damp_72 : decode cX9_damp 72 = .ok (.istore 4, 2) := by decide +kernel
theorem dX9_damp_74 : decode cX9_damp 74 = .ok (.aload_n 0, 1) := by decide +kernel
theorem dX9_damp_75 : decode cX9_damp 75 = .ok (.getfield 10, 3) := by decide +kernel
theorem dX9_damp_78 : decode cX9_damp 78 = .ok (.getfield 74, 3) := by decide +kernel
theorem dX9_damp_81 : decode cX9_damp 81 = .ok (.iload_n 1, 1) := by decide +kernel
theorem dX9_damp_82 : decode cX9_damp 82 = .ok (.putfield 170, 3) := by decide +kernel
theorem dX9_damp_85 : decode cX9_damp 85 = .ok (.aload_n 0, 1) := by decide +kernel
theorem dX9_damp_86 : decode cX9_damp 86 = .ok (.getfield 10, 3) := by decide +kernel
theorem dX9_damp_89 : decode cX9_damp 89 = .ok (.getfield 74, 3) := by decide +kernel
theorem dX9_damp_92 : decode cX9_damp 92 = .ok (.aload_n 0, 1) := by decide +kernel
theorem dX9_damp_93 : decode cX9_damp 93 = .ok (.getfield 10, 3) := by decide +kernel
theorem dX9_damp_96 : decode cX9_damp 96 = .ok (.getfield 147, 3) := by decide +kernel
theorem dX9_damp_99 : decode cX9_damp 99 = .ok (.putfield 173, 3) := by decide +kernel
theorem dX9_damp_102 : decode cX9_damp 102 = .ok (.iload 4, 2) := by decide +kernel
theorem dX9_damp_104 : decode cX9_damp 104 = .ok (.ireturn, 1) := by decide +kernel
set_option maxRecDepth 20000 in
theorem ggX9_correct_X9_isDegrees : GoodIn wsX9_correct wsX9_isDegrees := goodIn_r _ [9, 10, 11, 12, 13, 8, 14] (by decide +kernel) (by decide +kernel)
set_option maxRecDepth 20000 in
theorem gX9_correct_X9_isDegrees : GoodIn wsX9_correct (va_wsS RX9 87 yX9_isDegrees wsX9_isDegrees) := goodIn_app (goodIn_of _ (by decide +kernel)) ggX9_correct_X9_isDegrees
set_option maxRecDepth 20000 in
theorem ggX9_correct_X9_isSpeed : GoodIn wsX9_correct wsX9_isSpeed := goodIn_r _ [17, 18, 12, 13, 8, 14] (by decide +kernel) (by decide +kernel)
set_option maxRecDepth 20000 in
theorem gX9_correct_X9_isSpeed : GoodIn wsX9_correct (va_wsS RX9 128 yX9_isSpeed wsX9_isSpeed) := goodIn_app (goodIn_of _ (by decide +kernel)) ggX9_correct_X9_isSpeed
set_option maxRecDepth 20000 in
theorem ggX9_correct_X1_record : GoodIn wsX9_correct wsX1_record := goodIn_r _ [23, 24, 25, 26, 27, 28, 29, 30, 31, 8, 32, 33, 34, 35, 36, 37, 38, 39, 40, 41, 42, 43, 44, 45, 46, 47, 48, 49, 50, 51, 52, 53, 54, 55, 56, 57, 58, 59, 60, 61, 62, 63, 64, 65, 66, 67, 68, 69, 70, 71, 72, 73, 74, 75, 76, 77, 78, 79, 80, 81, 82, 83, 84, 85, 86, 87, 88, 89, 90, 91, 92, 93, 94, 95, 96, 97, 98, 99, 100, 101, 102, 103, 104, 105, 106, 107, 108, 109, 110, 111, 112, 113, 114, 115, 116, 117, 118, 119, 120, 121, 122, 123, 124, 125, 126, 127, 128, 129, 130, 131, 132, 133, 134, 135, 136, 137, 138, 139, 140, 141, 142, 143, 144, 145, 146, 147, 148, 149, 150, 151, 152, 153, 154, 211, 212, 213, 196, 197, 198, 199, 200, 201, 202, 203, 214, 215, 216, 217, 218, 204, 205, 206, 207, 208, 209, 210, 219, 220, 221, 222, 223, 224, 225, 226, 227, 228, 229, 230, 231, 232, 233, 234] (by decide +kernel) (by decide +kernel)
set_option maxRecDepth 20000 in
theorem gX9_correct_X1_record : GoodIn wsX9_correct (wsV RX9 54 RX1 yX1_record wsX1_record) := goodIn_app (goodIn_of _ (by decide +kernel)) ggX9_correct_X1_record
set_option maxRecDepth 20000 in
theorem ggX9_correct_X7_rest : GoodIn wsX9_correct wsX7_rest := goodIn_r _ [158, 43, 47, 159, 160, 161, 51, 162, 163, 164, 165, 8, 166, 167, 168, 169, 170, 171, 172, 173, 174, 29, 175, 176, 177, 178, 179, 180, 181, 182, 183, 184, 185, 186, 187, 188, 189, 190, 196, 197, 198, 199, 200, 201, 202, 203, 214, 215, 216, 217, 218, 204, 205, 206, 207, 208, 209, 210] (by decide +kernel) (by decide +kernel)
set_option maxRecDepth 20000 in
theorem gX9_correct_X7_rest : GoodIn wsX9_correct (wsV RX9 176 RX7 yX7_rest wsX7_rest) := goodIn_app (goodIn_of _ (by decide +kernel)) ggX9_correct_X7_rest
theorem dX9_correct_0 : decode cX9_correct 0 = .ok (.iload_n 1, 1) := by decide +kernel
theorem dX9_correct_1 : decode cX9_correct 1 = .ok (.invokestatic 87, 3) := by decide +kernel
theorem dX9_correct_4 : decode cX9_correct 4 = .ok (.ifCond .eq 10, 3) := by decide +kernel
theorem dX9_correct_7 : decode cX9_correct 7 = .ok (.iload_n 2, 1) := by decide +kernel
theorem dX9_correct_8 : decode cX9_correct 8 = .ok (.invokestatic 128, 3) := by decide +kernel
theorem dX9_correct_11 : decode cX9_correct 11 = .ok (.ifCond .ne 6, 3) := by decide +kernel
theorem dX9_correct_14 : decode cX9_correct 14 = .ok (.bipush (-2), 2) := by decide +kernel
theorem dX9_correct_16 : decode cX9_correct 16 = .ok (.ireturn, 1) := by decide +kernel
theorem dX9_correct_17 : decode cX9_correct 17 = .ok (.aload_n 0, 1) := by decide +kernel
theorem dX9_correct_18 : decode cX9_correct 18 = .ok (.getfield 22, 3) := by decide +kernel
theorem dX9_correct_21 : decode cX9_correct 21 = .ok (.aload_n 0, 1) := by decide +kernel
theorem dX9_correct_22 : decode cX9_correct 22 = .ok (.getfield 10, 3) := by decide +kernel
theorem dX9_correct_25 : decode cX9_correct 25 = .ok (.invokevirtual 54, 3) := by decide +kernel
theorem dX9_correct_28 : decode cX9_correct 28 = .ok (.aload_n 0, 1) := by decide +kernel
theorem dX9_correct_29 : decode cX9_correct 29 = .ok (.getfield 10, 3) := by decide +kernel
theorem dX9_correct_32 : decode cX9_correct 32 = .ok (.invokevirtual 176, 3) := by decide +kernel
theorem dX9_correct_35 : decode cX9_correct 35 = .ok (.lstore_n 3, 1) := by decide +kernel
theorem dX9_correct_36 : decode cX9_correct 36 = .ok (.aload_n 0, 1) := by decide +kernel
theorem dX9_correct_37 : decode cX9_correct 37 = .ok (.getfield 10, 3) := by decide +kernel
theorem dX9_correct_40 : decode cX9_correct 40 = .ok (.getfield 74, 3) := by decide +kernel
theorem dX9_correct_43 : decode cX9_correct 43 = .ok (.iload_n 1, 1) := by decide +kernel
theorem dX9_correct_44 : decode cX9_correct 44 = .ok (.putfield 179, 3) := by decide +kernel
theorem dX9_correct_47 : decode cX9_correct 47 = .ok (.aload_n 0, 1) := by decide +kernel
theorem dX9_correct_48 : decode cX9_correct 48 = .ok (.getfield 10, 3) := by decide +kernel
theorem dX9_correct_51 : decode cX9_correct 51 = .ok (.getfield 74, 3) := by decide +kernel
theorem dX9_correct_54 : decode cX9_correct 54 = .ok (.iload_n 2, 1) := by decide +kernel
theorem dX9_correct_55 : decode cX9_correct 55 = .ok (.putfield 182, 3) := by decide +kernel
theorem dX9_correct_58 : decode cX9_correct 58 = .ok (.aload_n 0, 1) := by decide +kernel
theorem dX9_correct_59 : decode cX9_correct 59 = .ok (.getfield 10, 3) := by decide +kernel
theorem dX9_correct_62 : decode cX9_correct 62 = .ok (.invokevirtual 176, 3) := by decide +kernel
theorem dX9_correct_65 : decode cX9_correct 65 = .ok (.lload_n 3, 1) := by decide +kernel
theorem dX9_correct_66 : decode cX9_correct 66 = .ok (.lcmp, 1) := by decide +kernel
theorem dX9_correct_67 : decode cX9_correct 67 = .ok (.ifCond .eq 7, 3) := by decide +kernel
theorem dX9_correct_70 : decode cX9_correct 70 = .ok (.iconst 1, 1) := by decide +kernel
theorem dX9_correct_71 : decode cX9_correct 71 = .ok (.goto 4, 3) := by decide +kernel
theorem dX9_correct_74 : decode cX9_correct 74 = .ok (.iconst 0, 1) := by decide +kernel
theorem dX9_correct_75 : decode cX9_correct 75 = .ok (.ireturn, 1) := by decide +kernel
set_option maxRecDepth 20000 in
theorem ggX9_forgetSwings_X1_record : GoodIn wsX9_forgetSwings wsX1_record := goodIn_r _ [10, 11, 12, 13, 14, 15, 16, 17, 18, 19, 20, 21, 22, 23, 24, 25, 26, 27, 28, 29, 30, 31, 32, 33, 34, 35, 36, 37, 38, 39, 40, 41, 42, 43, 44, 45, 46, 47, 48, 49, 50, 51, 52, 53, 54, 55, 56, 57, 58, 59, 60, 61, 62, 63, 64, 65, 66, 67, 68, 69, 70, 71, 72, 73, 74, 75, 76, 77, 78, 79, 80, 81, 82, 83, 84, 85, 86, 87, 88, 89, 90, 91, 92, 93, 94, 95, 96, 97, 98, 99, 100, 101, 102, 103, 104, 105, 106, 107, 108, 109, 110, 111, 112, 113, 114, 115, 116, 117, 118, 119, 120, 121, 122, 123, 124, 125, 126, 127, 128, 129, 130, 131, 132, 133, 134, 135, 136, 137, 138, 139, 140, 141, 142, 172, 173, 174, 156, 157, 158, 159, 160, 161, 162, 163, 175, 176, 177, 178, 179, 180, 181, 182, 183, 184, 185, 186, 164, 165, 166, 167, 168, 169, 187, 188, 189, 190, 191, 192, 193, 194, 170, 171] (by decide +kernel) (by decide +kernel)
set_option maxRecDepth 20000 in
theorem gX9_forgetSwings_X1_record : GoodIn wsX9_forgetSwings (wsV RX9 54 RX1 yX1_record wsX1_record) := goodIn_app (goodIn_of _ (by decide +kernel)) ggX9_forgetSwings_X1_record
set_option maxRecDepth 20000 in
theorem ggX9_forgetSwings_X8_forget : GoodIn wsX9_forgetSwings wsX8_forget := goodIn_r _ [146, 78, 79, 80, 129, 147, 148, 149, 77, 150, 135, 164, 165, 166, 167, 168, 169, 170, 171] (by decide +kernel) (by decide +kernel)
set_option maxRecDepth 20000 in
theorem gX9_forgetSwings_X8_forget : GoodIn wsX9_forgetSwings (wsV RX9 192 RX8 yX8_forget wsX8_forget) := goodIn_app (goodIn_of _ (by decide +kernel)) ggX9_forgetSwings_X8_forget
theorem dX9_forgetSwings_0 : decode cX9_forgetSwings 0 = .ok (.aload_n 0, 1) := by decide +kernel
theorem dX9_forgetSwings_1 : decode cX9_forgetSwings 1 = .ok (.getfield 22, 3) := by decide +kernel
theorem dX9_forgetSwings_4 : decode cX9_forgetSwings 4 = .ok (.aload_n 0, 1) := by decide +kernel
theorem dX9_forgetSwings_5 : decode cX9_forgetSwings 5 = .ok (.getfield 10, 3) := by decide +kernel
theorem dX9_forgetSwings_8 : decode cX9_forgetSwings 8 = .ok (.invokevirtual 54, 3) := by decide +kernel
theorem dX9_forgetSwings_11 : decode cX9_forgetSwings 11 = .ok (.aload_n 0, 1) := by decide +kernel
theorem dX9_forgetSwings_12 : decode cX9_forgetSwings 12 = .ok (.getfield 10, 3) := by decide +kernel
theorem dX9_forgetSwings_15 : decode cX9_forgetSwings 15 = .ok (.getfield 150, 3) := by decide +kernel
theorem dX9_forgetSwings_18 : decode cX9_forgetSwings 18 = .ok (.getfield 185, 3) := by decide +kernel
theorem dX9_forgetSwings_21 : decode cX9_forgetSwings 21 = .ok (.getfield 189, 3) := by decide +kernel
theorem dX9_forgetSwings_24 : decode cX9_forgetSwings 24 = .ok (.istore_n 1, 1) := by decide +kernel
theorem dX9_forgetSwings_25 : decode cX9_forgetSwings 25 = .ok (.aload_n 0, 1) := by decide +kernel
theorem dX9_forgetSwings_26 : decode cX9_forgetSwings 26 = .ok (.getfield 10, 3) := by decide +kernel
theorem dX9_forgetSwings_29 : decode cX9_forgetSwings 29 = .ok (.getfield 150, 3) := by decide +kernel
theorem dX9_forgetSwings_32 : decode cX9_forgetSwings 32 = .ok (.invokevirtual 192, 3) := by decide +kernel
theorem dX9_forgetSwings_35 : decode cX9_forgetSwings 35 = .ok (.iload_n 1, 1) := by decide +kernel
theorem dX9_forgetSwings_36 : decode cX9_forgetSwings 36 = .ok (.ireturn, 1) := by decide +kernel
set_option maxRecDepth 20000 in
theorem ggX9_observe_X9_isBetween : GoodIn wsX9_observe wsX9_isBetween := goodIn_r _ [13] (by decide +kernel) (by decide +kernel)
set_option maxRecDepth 20000 in
theorem gX9_observe_X9_isBetween : GoodIn wsX9_observe (va_wsS RX9 39 yX9_isBetween wsX9_isBetween) := goodIn_app (goodIn_of _ (by decide +kernel)) ggX9_observe_X9_isBetween
set_option maxRecDepth 20000 in
theorem ggX9_observe_X1_record : GoodIn wsX9_observe wsX1_record := goodIn_r _ [18, 19, 20, 21, 22, 23, 24, 25, 26, 12, 27, 28, 29, 30, 31, 32, 33, 34, 35, 36, 37, 38, 39, 40, 41, 42, 43, 44, 45, 46, 47, 48, 49, 50, 51, 52, 53, 54, 55, 56, 57, 58, 59, 60, 61, 62, 63, 64, 65, 66, 67, 68, 69, 70, 71, 72, 73, 74, 75, 76, 77, 78, 79, 80, 81, 82, 83, 84, 85, 86, 87, 88, 89, 90, 91, 92, 93, 94, 95, 96, 97, 98, 99, 100, 101, 102, 103, 104, 105, 106, 107, 108, 109, 110, 111, 112, 113, 114, 115, 116, 117, 118, 119, 120, 121, 122, 123, 124, 125, 126, 127, 128, 129, 130, 131, 132, 133, 134, 135, 136, 137, 138, 139, 140, 141, 142, 143, 144, 145, 146, 147, 148, 149, 201, 202, 203, 182, 183, 184, 185, 186, 187, 188, 189, 204, 205, 206, 207, 208, 194, 195, 196, 197, 198, 199, 200, 209, 210, 211, 212, 213, 214, 190, 191, 192, 193, 215, 216, 217, 218, 219, 220] (by decide +kernel) (by decide +kernel)
set_option maxRecDepth 20000 in
theorem gX9_observe_X1_record : GoodIn wsX9_observe (wsV RX9 54 RX1 yX1_record wsX1_record) := goodIn_app (goodIn_of _ (by decide +kernel)) ggX9_observe_X1_record
set_option maxRecDepth 20000 in
theorem ggX9_observe_X7_nextNoise : GoodIn wsX9_observe wsX7_nextNoise := goodIn_r _ [153, 154, 38, 155, 156, 157, 158, 159, 12, 160, 161, 162, 182, 183, 184, 185, 186, 187, 188, 189] (by decide +kernel) (by decide +kernel)
set_option maxRecDepth 20000 in
theorem gX9_observe_X7_nextNoise : GoodIn wsX9_observe (wsV RX9 197 RX7 yX7_nextNoise wsX7_nextNoise) := goodIn_app (goodIn_of _ (by decide +kernel)) ggX9_observe_X7_nextNoise
set_option maxRecDepth 20000 in
theorem ggX9_observe_X6_addCheck : GoodIn wsX9_observe wsX6_addCheck := goodIn_r _ [166, 99, 148, 167, 168, 169, 84, 170, 93, 142, 171, 23, 24, 25, 161, 12, 162, 190, 191, 192, 193, 219, 220] (by decide +kernel) (by decide +kernel)
set_option maxRecDepth 20000 in
theorem gX9_observe_X6_addCheck : GoodIn wsX9_observe (wsV RX9 200 RX6 yX6_addCheck wsX6_addCheck) := goodIn_app (goodIn_of _ (by decide +kernel)) ggX9_observe_X6_addCheck
set_option maxRecDepth 20000 in
theorem ggX9_observe_X9_at : GoodIn wsX9_observe wsX9_at := goodIn_r _ [160] (by decide +kernel) (by decide +kernel)
set_option maxRecDepth 20000 in
theorem gX9_observe_X9_at : GoodIn wsX9_observe (va_wsS RX9 47 yX9_at wsX9_at) := goodIn_app (goodIn_of _ (by decide +kernel)) ggX9_observe_X9_at
set_option maxRecDepth 20000 in
theorem ggX9_observe_J9_floorMod_f86c9 : GoodIn wsX9_observe wsJ9_floorMod_f86c9 := goodIn_r _ [176] (by decide +kernel) (by decide +kernel)
set_option maxRecDepth 20000 in
theorem gX9_observe_J9_floorMod_f86c9 : GoodIn wsX9_observe (va_wsS RX9 209 yJ9_floorMod_f86c9 wsJ9_floorMod_f86c9) := goodIn_app (goodIn_of _ (by decide +kernel)) ggX9_observe_J9_floorMod_f86c9
theorem dX9_observe_0 : decode cX9_observe 0 = .ok (.iload_n 1, 1) := by decide +kernel
theorem dX9_observe_1 : decode cX9_observe 1 = .ok (.i2l, 1) := by decide +kernel
theorem dX9_observe_2 : decode cX9_observe 2 = .ok (.lconst 0, 1) := by decide +kernel
theorem dX9_observe_3 : decode cX9_observe 3 = .ok (.aload_n 0, 1) := by decide +kernel
theorem dX9_observe_4 : decode cX9_observe 4 = .ok (.getfield 10, 3) := by decide +kernel
theorem dX9_observe_7 : decode cX9_observe 7 = .ok (.getfield 115, 3) := by decide +kernel
theorem dX9_observe_10 : decode cX9_observe 10 = .ok (.getfield 119, 3) := by decide +kernel
theorem dX9_observe_13 : decode cX9_observe 13 = .ok (.iconst 1, 1) := by decide +kernel
theorem dX9_observe_14 : decode cX9_observe 14 = .ok (.isub, 1) := by decide +kernel
theorem dX9_observe_15 : decode cX9_observe 15 = .ok (.i2l, 1) := by decide +kernel
theorem dX9_observe_16 : decode cX9_observe 16 = .ok (.invokestatic 39, 3) := by decide +kernel
theorem dX9_observe_19 : decode cX9_observe 19 = .ok (.ifCond .ne 5, 3) := by decide +kernel
theorem dX9_observe_22 : decode cX9_observe 22 = .ok (.iconst (-1), 1) := by decide +kernel
theorem dX9_observe_23 : decode cX9_observe 23 = .ok (.ireturn, 1) := by decide +kernel
theorem dX9_observe_24 : decode cX9_observe 24 = .ok (.aload_n 0, 1) := by decide +kernel
theorem dX9_observe_25 : decode cX9_observe 25 = .ok (.getfield 22, 3) := by decide +kernel
theorem dX9_observe_28 : decode cX9_observe 28 = .ok (.aload_n 0, 1) := by decide +kernel
theorem dX9_observe_29 : decode cX9_observe 29 = .ok (.getfield 10, 3) := by decide +kernel
theorem dX9_observe_32 : decode cX9_observe 32 = .ok (.invokevirtual 54, 3) := by decide +kernel
theorem dX9_observe_35 : decode cX9_observe 35 = .ok (.aload_n 0, 1) := by decide +kernel
theorem dX9_observe_36 : decode cX9_observe 36 = .ok (.getfield 10, 3) := by decide +kernel
theorem dX9_observe_39 : decode cX9_observe 39 = .ok (.getfield 74, 3) := by decide +kernel
theorem dX9_observe_42 : decode cX9_observe 42 = .ok (.getfield 78, 3) := by decide +kernel
theorem dX9_observe_45 : decode cX9_observe 45 = .ok (.ldc2_w 195, 3) := by decide +kernel
theorem dX9_observe_48 : decode cX9_observe 48 = .ok (.ldiv, 1) := by decide +kernel
theorem dX9_observe_49 : decode cX9_observe 49 = .ok (.aload_n 0, 1) := by decide +kernel
theorem dX9_observe_50 : decode cX9_observe 50 = .ok (.getfield 10, 3) := by decide +kernel
theorem dX9_observe_53 : decode cX9_observe 53 = .ok (.invokevirtual 197, 3) := by decide +kernel
theorem dX9_observe_56 : decode cX9_observe 56 = .ok (.ladd, 1) := by decide +kernel
theorem dX9_observe_57 : decode cX9_observe 57 = .ok (.lstore_n 2, 1) := by decide +kernel
theorem dX9_observe_58 : decode cX9_observe 58 = .ok (.aload_n 0, 1) := by decide +kernel
theorem dX9_observe_59 : decode cX9_observe 59 = .ok (.getfield 10, 3) := by decide +kernel
theorem dX9_observe_62 : decode cX9_observe 62 = .ok (.getfield 115, 3) := by decide +kernel
theorem dX9_observe_65 : decode cX9_observe 65 = .ok (.lload_n 2, 1) := by decide +kernel
theorem dX9_observe_66 : decode cX9_observe 66 = .ok (.invokevirtual 200, 3) := by decide +kernel
theorem dX9_observe_69 : decode cX9_observe 69 = .ok (.aload_n 0, 1) := by decide +kernel
theorem dX9_observe_70 : decode cX9_observe 70 = .ok (.getfield 10, 3) := by decide +kernel
theorem dX9_observe_73 : decode cX9_observe 73 = .ok (.getfield 115, 3) := by decide +kernel
theorem dX9_observe_76 : decode cX9_observe 76 = .ok (.getfield 204, 3) := by decide +kernel
theorem dX9_observe_79 : decode cX9_observe 79 = .ok (.iload_n 1, 1) := by decide +kernel
theorem dX9_observe_80 : decode cX9_observe 80 = .ok (.invokestatic 47, 3) := by decide +kernel
theorem dX9_observe_83 : decode cX9_observe 83 = .ok (.lload_n 2, 1) := by decide +kernel
theorem dX9_observe_84 : decode cX9_observe 84 = .ok (.ladd, 1) := by decide +kernel
theorem dX9_observe_85 : decode cX9_observe 85 = .ok (.ldc2_w 207, 3) := by decide +kernel
theorem dX9_observe_88 : decode cX9_observe 88 = .ok (.invokestatic 209, 3) := by decide +kernel
theorem dX9_observe_91 : decode cX9_observe 91 = .ok (.l2i, 1) := by decide +kernel
theorem dX9_observe_92 : decode cX9_observe 92 = .ok (.ireturn, 1) := by decide +kernel
set_option maxRecDepth 20000 in
theorem ggX9_guess_X9_isBetween : GoodIn wsX9_guess wsX9_isBetween := goodIn_r _ [14] (by decide +kernel) (by decide +kernel)
set_option maxRecDepth 20000 in
theorem gX9_guess_X9_isBetween : GoodIn wsX9_guess (va_wsS RX9 39 yX9_isBetween wsX9_isBetween) := goodIn_app (goodIn_of _ (by decide +kernel)) ggX9_guess_X9_isBetween
set_option maxRecDepth 20000 in
theorem ggX9_guess_X1_record : GoodIn wsX9_guess wsX1_record := goodIn_r _ [19, 20, 21, 22, 23, 24, 7, 25, 26, 13, 27, 28, 29, 30, 31, 32, 33, 34, 35, 36, 37, 38, 39, 40, 41, 42, 43, 44, 45, 46, 47, 48, 49, 50, 51, 52, 53, 54, 55, 56, 57, 58, 59, 60, 61, 62, 63, 64, 65, 66, 67, 68, 69, 70, 71, 72, 73, 74, 75, 76, 77, 78, 79, 80, 81, 82, 83, 84, 85, 86, 87, 88, 89, 90, 91, 92, 93, 94, 95, 96, 97, 98, 99, 100, 101, 102, 103, 104, 105, 106, 107, 108, 109, 110, 111, 112, 113, 114, 115, 116, 117, 118, 119, 120, 121, 122, 123, 124, 125, 126, 127, 128, 129, 130, 131, 132, 133, 134, 135, 136, 137, 138, 139, 140, 141, 142, 143, 144, 145, 146, 147, 148, 149, 196, 197, 198, 188, 189, 190, 191, 192, 193, 194, 195, 199, 200, 201, 202, 203, 204, 205, 206, 207, 208, 209, 210, 211, 212, 213, 214, 215, 216, 217, 218, 219, 220, 221, 222, 223, 224, 225, 226] (by decide +kernel) (by decide +kernel)
set_option maxRecDepth 20000 in
theorem gX9_guess_X1_record : GoodIn wsX9_guess (wsV RX9 54 RX1 yX1_record wsX1_record) := goodIn_app (goodIn_of _ (by decide +kernel)) ggX9_guess_X1_record
set_option maxRecDepth 20000 in
theorem ggX9_guess_X7_rest : GoodIn wsX9_guess wsX7_rest := goodIn_r _ [153, 38, 42, 154, 155, 156, 46, 157, 158, 159, 160, 13, 161, 162, 163, 164, 165, 166, 167, 5, 6, 7, 8, 168, 169, 170, 171, 172, 173, 174, 175, 176, 177, 178, 179, 180, 181, 182, 188, 189, 190, 191, 192, 193, 194, 195, 199, 200, 201, 202, 203, 204, 205, 206, 207, 208, 209, 210] (by decide +kernel) (by decide +kernel)
set_option maxRecDepth 20000 in
theorem gX9_guess_X7_rest : GoodIn wsX9_guess (wsV RX9 176 RX7 yX7_rest wsX7_rest) := goodIn_app (goodIn_of _ (by decide +kernel)) ggX9_guess_X7_rest
theorem dX9_guess_0 : decode cX9_guess 0 = .ok (.iload_n 1, 1) := by decide +kernel
theorem dX9_guess_1 : decode cX9_guess 1 = .ok (.i2l, 1) := by decide +kernel
theorem dX9_guess_2 : decode cX9_guess 2 = .ok (.ldc2_w 215, 3) := by decide +kernel
theorem dX9_guess_5 : decode cX9_guess 5 = .ok (.ldc2_w 217, 3) := by decide +kernel
theorem dX9_guess_8 : decode cX9_guess 8 = .ok (.invokestatic 39, 3) := by decide +kernel
theorem dX9_guess_11 : decode cX9_guess 11 = .ok (.ifCond .ne 6, 3) := by decide +kernel
theorem dX9_guess_14 : decode cX9_guess 14 = .ok (.bipush (-2), 2) := by decide +kernel
theorem dX9_guess_16 : decode cX9_guess 16 = .ok (.ireturn, 1) := by decide +kernel
theorem dX9_guess_17 : decode cX9_guess 17 = .ok (.aload_n 0, 1) := by decide +kernel
theorem dX9_guess_18 : decode cX9_guess 18 = .ok (.getfield 22, 3) := by decide +kernel
theorem dX9_guess_21 : decode cX9_guess 21 = .ok (.aload_n 0, 1) := by decide +kernel
theorem dX9_guess_22 : decode cX9_guess 22 = .ok (.getfield 10, 3) := by decide +kernel
theorem dX9_guess_25 : decode cX9_guess 25 = .ok (.invokevirtual 54, 3) := by decide +kernel
theorem dX9_guess_28 : decode cX9_guess 28 = .ok (.iload_n 1, 1) := by decide +kernel
theorem dX9_guess_29 : decode cX9_guess 29 = .ok (.i2l, 1) := by decide +kernel
theorem dX9_guess_30 : decode cX9_guess 30 = .ok (.aload_n 0, 1) := by decide +kernel
theorem dX9_guess_31 : decode cX9_guess 31 = .ok (.getfield 10, 3) := by decide +kernel
theorem dX9_guess_34 : decode cX9_guess 34 = .ok (.invokevirtual 176, 3) := by decide +kernel
theorem dX9_guess_37 : decode cX9_guess 37 = .ok (.lsub, 1) := by decide +kernel
theorem dX9_guess_38 : decode cX9_guess 38 = .ok (.invokestatic 219, 3) := by decide +kernel
theorem dX9_guess_41 : decode cX9_guess 41 = .ok (.lstore_n 2, 1) := by decide +kernel
theorem dX9_guess_42 : decode cX9_guess 42 = .ok (.aload_n 0, 1) := by decide +kernel
theorem dX9_guess_43 : decode cX9_guess 43 = .ok (.getfield 10, 3) := by decide +kernel
theorem dX9_guess_46 : decode cX9_guess 46 = .ok (.dup, 1) := by decide +kernel
theorem dX9_guess_47 : decode cX9_guess 47 = .ok (.getfield 223, 3) := by decide +kernel
theorem dX9_guess_50 : decode cX9_guess 50 = .ok (.iconst 1, 1) := by decide +kernel
theorem dX9_guess_51 : decode cX9_guess 51 = .ok (.iadd, 1) := by decide +kernel
theorem dX9_guess_52 : decode cX9_guess 52 = .ok (.putfield 223, 3) := by decide +kernel
theorem dX9_guess_55 : decode cX9_guess 55 = .ok (.aload_n 0, 1) := by decide +kernel
theorem dX9_guess_56 : decode cX9_guess 56 = .ok (.getfield 10, 3) := by decide +kernel
theorem dX9_guess_59 : decode cX9_guess 59 = .ok (.dup, 1) := by decide +kernel
theorem dX9_guess_60 : decode cX9_guess 60 = .ok (.getfield 226, 3) := by decide +kernel
theorem dX9_guess_63 : decode cX9_guess 63 = .ok (.lload_n 2, 1) := by decide +kernel
theorem dX9_guess_64 : decode cX9_guess 64 = .ok (.ladd, 1) := by decide +kernel
theorem dX9_guess_65 : decode cX9_guess 65 = .ok (.putfield 226, 3) := by decide +kernel
theorem dX9_guess_68 : decode cX9_guess 68 = .ok (.lload_n 2, 1) := by decide +kernel
theorem dX9_guess_69 : decode cX9_guess 69 = .ok (.l2i, 1) := by decide +kernel
theorem dX9_guess_70 : decode cX9_guess 70 = .ok (.ireturn, 1) := by decide +kernel
set_option maxRecDepth 20000 in
theorem ggX9_compass_X7_rest : GoodIn wsX9_compass wsX7_rest := goodIn_r _ [21, 22, 23, 24, 25, 26, 27, 28, 29, 30, 31, 32, 33, 34, 35, 36, 37, 38, 39, 40, 41, 42, 43, 44, 45, 46, 47, 48, 49, 50, 51, 52, 53, 54, 55, 56, 57, 58, 95, 96, 97, 98, 99, 100, 101, 102, 122, 123, 124, 125, 126, 103, 104, 105, 106, 107, 108, 109] (by decide +kernel) (by decide +kernel)
set_option maxRecDepth 20000 in
theorem gX9_compass_X7_rest : GoodIn wsX9_compass (wsV RX9 176 RX7 yX7_rest wsX7_rest) := goodIn_app (goodIn_of _ (by decide +kernel)) ggX9_compass_X7_rest
set_option maxRecDepth 20000 in
theorem ggX9_compass_X8_canSettle : GoodIn wsX9_compass wsX8_canSettle := goodIn_r _ [63, 64, 65, 110, 111, 112, 113, 114, 115, 116, 117] (by decide +kernel) (by decide +kernel)
set_option maxRecDepth 20000 in
theorem gX9_compass_X8_canSettle : GoodIn wsX9_compass (wsV RX9 232 RX8 yX8_canSettle wsX8_canSettle) := goodIn_app (goodIn_of _ (by decide +kernel)) ggX9_compass_X8_canSettle
set_option maxRecDepth 20000 in
theorem ggX9_compass_X8_settledByTurns : GoodIn wsX9_compass wsX8_settledByTurns := goodIn_r _ [69, 64, 70, 71, 72, 31, 32, 33, 110, 111, 112, 113, 114, 115, 116, 117] (by decide +kernel) (by decide +kernel)
set_option maxRecDepth 20000 in
theorem gX9_compass_X8_settledByTurns : GoodIn wsX9_compass (wsV RX9 236 RX8 yX8_settledByTurns wsX8_settledByTurns) := goodIn_app (goodIn_of _ (by decide +kernel)) ggX9_compass_X8_settledByTurns
set_option maxRecDepth 20000 in
theorem ggX9_compass_X8_settledByMean : GoodIn wsX9_compass wsX8_settledByMean := goodIn_r _ [76, 77, 70, 78, 31, 32, 33, 57, 58, 110, 111, 112, 113, 114, 115, 116, 117] (by decide +kernel) (by decide +kernel)
set_option maxRecDepth 20000 in
theorem gX9_compass_X8_settledByMean : GoodIn wsX9_compass (wsV RX9 240 RX8 yX8_settledByMean wsX8_settledByMean) := goodIn_app (goodIn_of _ (by decide +kernel)) ggX9_compass_X8_settledByMean
set_option maxRecDepth 20000 in
theorem ggX9_compass_X8_lastSwing : GoodIn wsX9_compass wsX8_lastSwing := goodIn_r _ [82, 64, 70, 31, 32, 33, 110, 111, 112, 113, 114, 115, 116, 117] (by decide +kernel) (by decide +kernel)
set_option maxRecDepth 20000 in
theorem gX9_compass_X8_lastSwing : GoodIn wsX9_compass (wsV RX9 243 RX8 yX8_lastSwing wsX8_lastSwing) := goodIn_app (goodIn_of _ (by decide +kernel)) ggX9_compass_X8_lastSwing
set_option maxRecDepth 20000 in
theorem ggX9_compass_X2_sumOf : GoodIn wsX9_compass wsX2_sumOf := goodIn_r _ [87, 88, 89, 31, 32, 33, 116, 117] (by decide +kernel) (by decide +kernel)
set_option maxRecDepth 20000 in
theorem gX9_compass_X2_sumOf : GoodIn wsX9_compass (wsV RX9 249 RX2 yX2_sumOf wsX2_sumOf) := goodIn_app (goodIn_of _ (by decide +kernel)) ggX9_compass_X2_sumOf
theorem dX9_compass_0 : decode cX9_compass 0 = .ok (.iload_n 1, 1) := by decide +kernel
theorem dX9_compass_1 : decode cX9_compass 1 = .ok (.tableswitch 245 0 10 #[59, 71, 83, 92, 103, 133, 163, 197, 213, 225, 236], 59) := by decide +kernel
theorem dX9_compass_60 : decode cX9_compass 60 = .ok (.aload_n 0, 1) := by decide +kernel
theorem dX9_compass_61 : decode cX9_compass 61 = .ok (.getfield 10, 3) := by decide +kernel
theorem dX9_compass_64 : decode cX9_compass 64 = .ok (.getfield 74, 3) := by decide +kernel
theorem dX9_compass_67 : decode cX9_compass 67 = .ok (.getfield 78, 3) := by decide +kernel
theorem dX9_compass_70 : decode cX9_compass 70 = .ok (.l2i, 1) := by decide +kernel
theorem dX9_compass_71 : decode cX9_compass 71 = .ok (.ireturn, 1) := by decide +kernel
theorem dX9_compass_72 : decode cX9_compass 72 = .ok (.aload_n 0, 1) := by decide +kernel
theorem dX9_compass_73 : decode cX9_compass 73 = .ok (.getfield 10, 3) := by decide +kernel
theorem dX9_compass_76 : decode cX9_compass 76 = .ok (.getfield 74, 3) := by decide +kernel
theorem dX9_compass_79 : decode cX9_compass 79 = .ok (.getfield 84, 3) := by decide +kernel
theorem dX9_compass_82 : decode cX9_compass 82 = .ok (.l2i, 1) := by decide +kernel
theorem dX9_compass_83 : decode cX9_compass 83 = .ok (.ireturn, 1) := by decide +kernel
theorem dX9_compass_84 : decode cX9_compass 84 = .ok (.aload_n 0, 1) := by decide +kernel
theorem dX9_compass_85 : decode cX9_compass 85 = .ok (.getfield 10, 3) := by decide +kernel
theorem dX9_compass_88 : decode cX9_compass 88 = .ok (.invokevirtual 176, 3) := by decide +kernel
theorem dX9_compass_91 : decode cX9_compass 91 = .ok (.l2i, 1) := by decide +kernel
theorem dX9_compass_92 : decode cX9_compass 92 = .ok (.ireturn, 1) := by decide +kernel
theorem dX9_compass_93 : decode cX9_compass 93 = .ok (.aload_n 0, 1) := by decide +kernel
theorem dX9_compass_94 : decode cX9_compass 94 = .ok (.getfield 10, 3) := by decide +kernel
theorem dX9_compass_97 : decode cX9_compass 97 = .ok (.getfield 150, 3) := by decide +kernel
theorem dX9_compass_100 : decode cX9_compass 100 = .ok (.getfield 229, 3) := by decide +kernel
theorem dX9_compass_103 : decode cX9_compass 103 = .ok (.ireturn, 1) := by decide +kernel
theorem dX9_compass_104 : decode cX9_compass 104 = .ok (.aload_n 0, 1) := by decide +kernel
theorem dX9_compass_105 : decode cX9_compass 105 = .ok (.getfield 10, 3) := by decide +kernel
theorem dX9_compass_108 : decode cX9_compass 108 = .ok (.getfield 150, 3) := by decide +kernel
theorem dX9_compass_111 : decode cX9_compass 111 = .ok (.invokevirtual 232, 3) := by decide +kernel
theorem dX9_compass_114 : decode cX9_compass 114 = .ok (.ifCond .eq 17, 3) := by decide +kernel
theorem dX9_compass_117 : decode cX9_compass 117 = .ok (.aload_n 0, 1) := by decide +kernel
theorem dX9_compass_118 : decode cX9_compass 118 = .ok (.getfield 10, 3) := by decide +kernel
theorem dX9_compass_121 : decode cX9_compass 121 = .ok (.getfield 150, 3) := by decide +kernel
theorem dX9_compass_124 : decode cX9_compass 124 = .ok (.invokevirtual 236, 3) := by decide +kernel
theorem dX9_compass_127 : decode cX9_compass 127 = .ok (.l2i, 1) := by decide +kernel
theorem dX9_compass_128 : decode cX9_compass 128 = .ok (.goto 5, 3) := by decide +kernel
theorem dX9_compass_131 : decode cX9_compass 131 = .ok (.ldc 239, 2) := by decide +kernel
theorem dX9_compass_133 : decode cX9_compass 133 = .ok (.ireturn, 1) := by decide +kernel
theorem dX9_compass_134 : decode cX9_compass 134 = .ok (.aload_n 0, 1) := by decide +kernel
theorem dX9_compass_135 : decode cX9_compass 135 = .ok (.getfield 10, 3) := by decide +kernel
theorem dX9_compass_138 : decode cX9_compass 138 = .ok (.getfield 150, 3) := by decide +kernel
theorem dX9_compass_141 : decode cX9_compass 141 = .ok (.invokevirtual 232, 3) := by decide +kernel
theorem dX9_compass_144 : decode cX9_compass 144 = .ok (.ifCond .eq 17, 3) := by decide +kernel
theorem dX9_compass_147 : decode cX9_compass 147 = .ok (.aload_n 0, 1) := by decide +kernel
theorem dX9_compass_148 : decode cX9_compass 148 = .ok (.getfield 10, 3) := by decide +kernel
theorem dX9_compass_151 : decode cX9_compass 151 = .ok (.getfield 150, 3) := by decide +kernel
theorem dX9_compass_154 : decode cX9_compass 154 = .ok (.invokevirtual 240, 3) := by decide +kernel
theorem dX9_compass_157 : decode cX9_compass 157 = .ok (.l2i, 1) := by decide +kernel
theorem dX9_compass_158 : decode cX9_compass 158 = .ok (.goto 5, 3) := by decide +kernel
theorem dX9_compass_161 : decode cX9_compass 161 = .ok (.ldc 239, 2) := by decide +kernel
theorem dX9_compass_163 : decode cX9_compass 163 = .ok (.ireturn, 1) := by decide +kernel
theorem dX9_compass_164 : decode cX9_compass 164 = .ok (.aload_n 0, 1) := by decide +kernel
theorem dX9_compass_165 : decode cX9_compass 165 = .ok (.getfield 10, 3) := by decide +kernel
theorem dX9_compass_168 : decode cX9_compass 168 = .ok (.getfield 150, 3) := by decide +kernel
theorem dX9_compass_171 : decode cX9_compass 171 = .ok (.getfield 185, 3) := by decide +kernel
theorem dX9_compass_174 : decode cX9_compass 174 = .ok (.getfield 189, 3) := by decide +kernel
theorem dX9_compass_177 : decode cX9_compass 177 = .ok (.iconst 2, 1) := by decide +kernel
theorem dX9_compass_178 : decode cX9_compass 178 = .ok (.if_icmp .lt 17, 3) := by decide +kernel
theorem dX9_compass_181 : decode cX9_compass 181 = .ok (.aload_n 0, 1) := by decide +kernel
theorem dX9_compass_182 : decode cX9_compass 182 = .ok (.getfield 10, 3) := by decide +kernel
theorem dX9_compass_185 : decode cX9_compass 185 = .ok (.getfield 150, 3) := by decide +kernel
theorem dX9_compass_188 : decode cX9_compass 188 = .ok (.invokevirtual 243, 3) := by decide +kernel
theorem dX9_compass_191 : decode cX9_compass 191 = .ok (.l2i, 1) := by decide +kernel
theorem dX9_compass_192 : decode cX9_compass 192 = .ok (.goto 5, 3) := by decide +kernel
theorem dX9_compass_195 : decode cX9_compass 195 = .ok (.ldc 239, 2) := by decide +kernel
theorem dX9_compass_197 : decode cX9_compass 197 = .ok (.ireturn, 1) := by decide +kernel
theorem dX9_compass_198 : decode cX9_compass 198 = .ok (.aload_n 0, 1) := by decide +kernel
theorem dX9_compass_199 : decode cX9_compass 199 = .ok (.getfield 10, 3) := by decide +kernel
theorem dX9_compass_202 : decode cX9_compass 202 = .ok (.getfield 115, 3) := by decide +kernel
theorem dX9_compass_205 : decode cX9_compass 205 = .ok (.getfield 246, 3) := by decide +kernel
theorem dX9_compass_208 : decode cX9_compass 208 = .ok (.iconst 5, 1) := by decide +kernel
theorem dX9_compass_209 : decode cX9_compass 209 = .ok (.invokevirtual 249, 3) := by decide +kernel
theorem dX9_compass_212 : decode cX9_compass 212 = .ok (.l2i, 1) := by decide +kernel
theorem dX9_compass_213 : decode cX9_compass 213 = .ok (.ireturn, 1) := by decide +kernel
theorem dX9_compass_214 : decode cX9_compass 214 = .ok (.aload_n 0, 1) := by decide +kernel
theorem dX9_compass_215 : decode cX9_compass 215 = .ok (.getfield 10, 3) := by decide +kernel
theorem dX9_compass_218 : decode cX9_compass 218 = .ok (.getfield 91, 3) := by decide +kernel
theorem dX9_compass_221 : decode cX9_compass 221 = .ok (.getfield 109, 3) := by decide +kernel
theorem dX9_compass_224 : decode cX9_compass 224 = .ok (.l2i, 1) := by decide +kernel
theorem dX9_compass_225 : decode cX9_compass 225 = .ok (.ireturn, 1) := by decide +kernel
theorem dX9_compass_226 : decode cX9_compass 226 = .ok (.aload_n 0, 1) := by decide +kernel
theorem dX9_compass_227 : decode cX9_compass 227 = .ok (.getfield 10, 3) := by decide +kernel
theorem dX9_compass_230 : decode cX9_compass 230 = .ok (.getfield 74, 3) := by decide +kernel
theorem dX9_compass_233 : decode cX9_compass 233 = .ok (.getfield 179, 3) := by decide +kernel
theorem dX9_compass_236 : decode cX9_compass 236 = .ok (.ireturn, 1) := by decide +kernel
theorem dX9_compass_237 : decode cX9_compass 237 = .ok (.aload_n 0, 1) := by decide +kernel
theorem dX9_compass_238 : decode cX9_compass 238 = .ok (.getfield 10, 3) := by decide +kernel
theorem dX9_compass_241 : decode cX9_compass 241 = .ok (.getfield 226, 3) := by decide +kernel
theorem dX9_compass_244 : decode cX9_compass 244 = .ok (.l2i, 1) := by decide +kernel
theorem dX9_compass_245 : decode cX9_compass 245 = .ok (.ireturn, 1) := by decide +kernel
theorem dX9_compass_246 : decode cX9_compass 246 = .ok (.ldc 73, 2) := by decide +kernel
theorem dX9_compass_248 : decode cX9_compass 248 = .ok (.ireturn, 1) := by decide +kernel
set_option maxRecDepth 20000 in
theorem ggX9_turn_X9_isBetween : GoodIn wsX9_turn wsX9_isBetween := goodIn_r _ [12] (by decide +kernel) (by decide +kernel)
set_option maxRecDepth 20000 in
theorem gX9_turn_X9_isBetween : GoodIn wsX9_turn (va_wsS RX9 39 yX9_isBetween wsX9_isBetween) := goodIn_app (goodIn_of _ (by decide +kernel)) ggX9_turn_X9_isBetween
set_option maxRecDepth 20000 in
theorem ggX9_turn_X9_at : GoodIn wsX9_turn wsX9_at := goodIn_r _ [15] (by decide +kernel) (by decide +kernel)
set_option maxRecDepth 20000 in
theorem gX9_turn_X9_at : GoodIn wsX9_turn (va_wsS RX9 47 yX9_at wsX9_at) := goodIn_app (goodIn_of _ (by decide +kernel)) ggX9_turn_X9_at
theorem dX9_turn_0 : decode cX9_turn 0 = .ok (.iload_n 1, 1) := by decide +kernel
theorem dX9_turn_1 : decode cX9_turn 1 = .ok (.i2l, 1) := by decide +kernel
theorem dX9_turn_2 : decode cX9_turn 2 = .ok (.lconst 0, 1) := by decide +kernel
theorem dX9_turn_3 : decode cX9_turn 3 = .ok (.aload_n 0, 1) := by decide +kernel
theorem dX9_turn_4 : decode cX9_turn 4 = .ok (.getfield 10, 3) := by decide +kernel
theorem dX9_turn_7 : decode cX9_turn 7 = .ok (.getfield 150, 3) := by decide +kernel
theorem dX9_turn_10 : decode cX9_turn 10 = .ok (.getfield 185, 3) := by decide +kernel
theorem dX9_turn_13 : decode cX9_turn 13 = .ok (.getfield 189, 3) := by decide +kernel
theorem dX9_turn_16 : decode cX9_turn 16 = .ok (.iconst 1, 1) := by decide +kernel
theorem dX9_turn_17 : decode cX9_turn 17 = .ok (.isub, 1) := by decide +kernel
theorem dX9_turn_18 : decode cX9_turn 18 = .ok (.i2l, 1) := by decide +kernel
theorem dX9_turn_19 : decode cX9_turn 19 = .ok (.invokestatic 39, 3) := by decide +kernel
theorem dX9_turn_22 : decode cX9_turn 22 = .ok (.ifCond .ne 6, 3) := by decide +kernel
theorem dX9_turn_25 : decode cX9_turn 25 = .ok (.ldc 253, 2) := by decide +kernel
theorem dX9_turn_27 : decode cX9_turn 27 = .ok (.ireturn, 1) := by decide +kernel
theorem dX9_turn_28 : decode cX9_turn 28 = .ok (.iload_n 2, 1) := by decide +kernel
theorem dX9_turn_29 : decode cX9_turn 29 = .ok (.lookupswitch 65 #[(0, 27), (1, 46)], 27) := by decide +kernel
theorem dX9_turn_56 : decode cX9_turn 56 = .ok (.aload_n 0, 1) := by decide +kernel
theorem dX9_turn_57 : decode cX9_turn 57 = .ok (.getfield 10, 3) := by decide +kernel
theorem dX9_turn_60 : decode cX9_turn 60 = .ok (.getfield 150, 3) := by decide +kernel
theorem dX9_turn_63 : decode cX9_turn 63 = .ok (.getfield 185, 3) := by decide +kernel
theorem dX9_turn_66 : decode cX9_turn 66 = .ok (.getfield 254, 3) := by decide +kernel
theorem dX9_turn_69 : decode cX9_turn 69 = .ok (.iload_n 1, 1) := by decide +kernel
theorem dX9_turn_70 : decode cX9_turn 70 = .ok (.invokestatic 47, 3) := by decide +kernel
theorem dX9_turn_73 : decode cX9_turn 73 = .ok (.l2i, 1) := by decide +kernel
theorem dX9_turn_74 : decode cX9_turn 74 = .ok (.ireturn, 1) := by decide +kernel
theorem dX9_turn_75 : decode cX9_turn 75 = .ok (.aload_n 0, 1) := by decide +kernel
theorem dX9_turn_76 : decode cX9_turn 76 = .ok (.getfield 10, 3) := by decide +kernel
theorem dX9_turn_79 : decode cX9_turn 79 = .ok (.getfield 150, 3) := by decide +kernel
theorem dX9_turn_82 : decode cX9_turn 82 = .ok (.getfield 257, 3) := by decide +kernel
theorem dX9_turn_85 : decode cX9_turn 85 = .ok (.getfield 254, 3) := by decide +kernel
theorem dX9_turn_88 : decode cX9_turn 88 = .ok (.iload_n 1, 1) := by decide +kernel
theorem dX9_turn_89 : decode cX9_turn 89 = .ok (.invokestatic 47, 3) := by decide +kernel
theorem dX9_turn_92 : decode cX9_turn 92 = .ok (.l2i, 1) := by decide +kernel
theorem dX9_turn_93 : decode cX9_turn 93 = .ok (.ireturn, 1) := by decide +kernel
theorem dX9_turn_94 : decode cX9_turn 94 = .ok (.ldc 73, 2) := by decide +kernel
theorem dX9_turn_96 : decode cX9_turn 96 = .ok (.ireturn, 1) := by decide +kernel
set_option maxRecDepth 20000 in
theorem ggX9_check_X9_isBetween : GoodIn wsX9_check wsX9_isBetween := goodIn_r _ [10] (by decide +kernel) (by decide +kernel)
set_option maxRecDepth 20000 in
theorem gX9_check_X9_isBetween : GoodIn wsX9_check (va_wsS RX9 39 yX9_isBetween wsX9_isBetween) := goodIn_app (goodIn_of _ (by decide +kernel)) ggX9_check_X9_isBetween
set_option maxRecDepth 20000 in
theorem ggX9_check_X9_at : GoodIn wsX9_check wsX9_at := goodIn_r _ [13] (by decide +kernel) (by decide +kernel)
set_option maxRecDepth 20000 in
theorem gX9_check_X9_at : GoodIn wsX9_check (va_wsS RX9 47 yX9_at wsX9_at) := goodIn_app (goodIn_of _ (by decide +kernel)) ggX9_check_X9_at
theorem dX9_check_0 : decode cX9_check 0 = .ok (.iload_n 1, 1) := by decide +kernel
theorem dX9_check_1 : decode cX9_check 1 = .ok (.i2l, 1) := by decide +kernel
theorem dX9_check_2 : decode cX9_check 2 = .ok (.lconst 0, 1) := by decide +kernel
theorem dX9_check_3 : decode cX9_check 3 = .ok (.aload_n 0, 1) := by decide +kernel
theorem dX9_check_4 : decode cX9_check 4 = .ok (.getfield 10, 3) := by decide +kernel
theorem dX9_check_7 : decode cX9_check 7 = .ok (.getfield 115, 3) := by decide +kernel
theorem dX9_check_10 : decode cX9_check 10 = .ok (.getfield 246, 3) := by decide +kernel
theorem dX9_check_13 : decode cX9_check 13 = .ok (.getfield 189, 3) := by decide +kernel
theorem dX9_check_16 : decode cX9_check 16 = .ok (.iconst 1, 1) := by decide +kernel
theorem dX9_check_17 : decode cX9_check 17 = .ok (.isub, 1) := by decide +kernel
theorem dX9_check_18 : decode cX9_check 18 = .ok (.i2l, 1) := by decide +kernel
theorem dX9_check_19 : decode cX9_check 19 = .ok (.invokestatic 39, 3) := by decide +kernel
theorem dX9_check_22 : decode cX9_check 22 = .ok (.ifCond .ne 6, 3) := by decide +kernel
theorem dX9_check_25 : decode cX9_check 25 = .ok (.ldc 253, 2) := by decide +kernel
theorem dX9_check_27 : decode cX9_check 27 = .ok (.ireturn, 1) := by decide +kernel
theorem dX9_check_28 : decode cX9_check 28 = .ok (.aload_n 0, 1) := by decide +kernel
theorem dX9_check_29 : decode cX9_check 29 = .ok (.getfield 10, 3) := by decide +kernel
theorem dX9_check_32 : decode cX9_check 32 = .ok (.getfield 115, 3) := by decide +kernel
theorem dX9_check_35 : decode cX9_check 35 = .ok (.getfield 246, 3) := by decide +kernel
theorem dX9_check_38 : decode cX9_check 38 = .ok (.getfield 254, 3) := by decide +kernel
theorem dX9_check_41 : decode cX9_check 41 = .ok (.iload_n 1, 1) := by decide +kernel
theorem dX9_check_42 : decode cX9_check 42 = .ok (.invokestatic 47, 3) := by decide +kernel
theorem dX9_check_45 : decode cX9_check 45 = .ok (.l2i, 1) := by decide +kernel
theorem dX9_check_46 : decode cX9_check 46 = .ok (.ireturn, 1) := by decide +kernel
set_option maxRecDepth 20000 in
theorem ggX9_reason_X7_reasonOfDistrust : GoodIn wsX9_reason wsX7_reasonOfDistrust := goodIn_r _ [6, 7, 8, 9, 10, 11, 12, 13, 14, 15, 16, 17, 18, 19, 20, 21, 22, 23, 24, 25, 26, 27, 28, 29, 30, 31, 32, 33, 34, 35, 36, 37, 38, 39, 40, 41, 42, 43, 44, 45, 46, 47, 48, 49, 50, 51, 52, 53, 54, 55, 61, 62, 63, 64, 65, 66, 67, 68, 69, 70, 71, 72, 73, 74, 75, 76, 77, 78, 79, 80, 81, 82, 83, 84, 85, 86, 87] (by decide +kernel) (by decide +kernel)
set_option maxRecDepth 20000 in
theorem gX9_reason_X7_reasonOfDistrust : GoodIn wsX9_reason (wsV RX9 260 RX7 yX7_reasonOfDistrust wsX7_reasonOfDistrust) := goodIn_app (goodIn_of _ (by decide +kernel)) ggX9_reason_X7_reasonOfDistrust
theorem dX9_reason_0 : decode cX9_reason 0 = .ok (.aload_n 0, 1) := by decide +kernel
theorem dX9_reason_1 : decode cX9_reason 1 = .ok (.getfield 10, 3) := by decide +kernel
theorem dX9_reason_4 : decode cX9_reason 4 = .ok (.invokevirtual 260, 3) := by decide +kernel
theorem dX9_reason_7 : decode cX9_reason 7 = .ok (.ireturn, 1) := by decide +kernel
set_option maxRecDepth 20000 in
theorem ggX9_state_X9_isBetween : GoodIn wsX9_state wsX9_isBetween := goodIn_r _ [12] (by decide +kernel) (by decide +kernel)
set_option maxRecDepth 20000 in
theorem gX9_state_X9_isBetween : GoodIn wsX9_state (va_wsS RX9 39 yX9_isBetween wsX9_isBetween) := goodIn_app (goodIn_of _ (by decide +kernel)) ggX9_state_X9_isBetween
set_option maxRecDepth 20000 in
theorem ggX9_state_X9_at : GoodIn wsX9_state wsX9_at := goodIn_r _ [15] (by decide +kernel) (by decide +kernel)
set_option maxRecDepth 20000 in
theorem gX9_state_X9_at : GoodIn wsX9_state (va_wsS RX9 47 yX9_at wsX9_at) := goodIn_app (goodIn_of _ (by decide +kernel)) ggX9_state_X9_at
set_option maxRecDepth 20000 in
theorem ggX9_state_X9_voyageNumber : GoodIn wsX9_state wsX9_voyageNumber := goodIn_r _ [19, 3, 20, 21, 22, 23, 24, 25, 26, 4, 27, 28, 29, 30, 31, 32, 33, 34, 35, 14, 11, 15, 36, 37, 38, 39, 40, 41, 42, 43, 44, 45, 64, 65, 66, 67, 68, 69, 70, 71, 72, 73, 74, 75, 76, 84, 85, 86, 87, 88, 89, 90, 91, 92, 77, 78, 79, 80, 81, 82, 83] (by decide +kernel) (by decide +kernel)
set_option maxRecDepth 20000 in
theorem gX9_state_X9_voyageNumber : GoodIn wsX9_state (wsV RX9 273 RX9 yX9_voyageNumber wsX9_voyageNumber) := goodIn_app (goodIn_of _ (by decide +kernel)) ggX9_state_X9_voyageNumber
set_option maxRecDepth 20000 in
theorem ggX9_state_X9_trainerNumber : GoodIn wsX9_state wsX9_trainerNumber := goodIn_r _ [49, 3, 50, 51, 52, 53, 54, 55, 56, 57, 4, 58, 59, 60, 61, 62, 63, 64, 65, 66, 67, 68, 69, 70, 71, 72, 73, 74, 75, 76, 93, 94, 95, 96, 97, 98, 99, 100, 101, 102, 103, 104, 77, 78, 79, 80, 81, 82, 83, 105, 106, 107, 108, 109, 110, 111, 112] (by decide +kernel) (by decide +kernel)
set_option maxRecDepth 20000 in
theorem gX9_state_X9_trainerNumber : GoodIn wsX9_state (wsV RX9 277 RX9 yX9_trainerNumber wsX9_trainerNumber) := goodIn_app (goodIn_of _ (by decide +kernel)) ggX9_state_X9_trainerNumber
theorem dX9_state_0 : decode cX9_state 0 = .ok (.iload_n 1, 1) := by decide +kernel
theorem dX9_state_1 : decode cX9_state 1 = .ok (.i2l, 1) := by decide +kernel
theorem dX9_state_2 : decode cX9_state 2 = .ok (.ldc2_w 37, 3) := by decide +kernel
theorem dX9_state_5 : decode cX9_state 5 = .ok (.ldc2_w 264, 3) := by decide +kernel
theorem dX9_state_8 : decode cX9_state 8 = .ok (.invokestatic 39, 3) := by decide +kernel
theorem dX9_state_11 : decode cX9_state 11 = .ok (.ifCond .eq 22, 3) := by decide +kernel
theorem dX9_state_14 : decode cX9_state 14 = .ok (.aload_n 0, 1) := by decide +kernel
theorem dX9_state_15 : decode cX9_state 15 = .ok (.getfield 10, 3) := by decide +kernel
theorem dX9_state_18 : decode cX9_state 18 = .ok (.getfield 74, 3) := by decide +kernel
theorem dX9_state_21 : decode cX9_state 21 = .ok (.getfield 266, 3) := by decide +kernel
theorem dX9_state_24 : decode cX9_state 24 = .ok (.iload_n 1, 1) := by decide +kernel
theorem dX9_state_25 : decode cX9_state 25 = .ok (.bipush 8, 2) := by decide +kernel
theorem dX9_state_27 : decode cX9_state 27 = .ok (.isub, 1) := by decide +kernel
theorem dX9_state_28 : decode cX9_state 28 = .ok (.invokestatic 47, 3) := by decide +kernel
theorem dX9_state_31 : decode cX9_state 31 = .ok (.l2i, 1) := by decide +kernel
theorem dX9_state_32 : decode cX9_state 32 = .ok (.ireturn, 1) := by decide +kernel
theorem dX9_state_33 : decode cX9_state 33 = .ok (.iload_n 1, 1) := by decide +kernel
theorem dX9_state_34 : decode cX9_state 34 = .ok (.i2l, 1) := by decide +kernel
theorem dX9_state_35 : decode cX9_state 35 = .ok (.ldc2_w 269, 3) := by decide +kernel
theorem dX9_state_38 : decode cX9_state 38 = .ok (.ldc2_w 271, 3) := by decide +kernel
theorem dX9_state_41 : decode cX9_state 41 = .ok (.invokestatic 39, 3) := by decide +kernel
theorem dX9_state_44 : decode cX9_state 44 = .ok (.ifCond .eq 19, 3) := by decide +kernel
theorem dX9_state_47 : decode cX9_state 47 = .ok (.aload_n 0, 1) := by decide +kernel
theorem dX9_state_48 : decode cX9_state 48 = .ok (.getfield 10, 3) := by decide +kernel
theorem dX9_state_51 : decode cX9_state 51 = .ok (.getfield 58, 3) := by decide +kernel
theorem dX9_state_54 : decode cX9_state 54 = .ok (.iload_n 1, 1) := by decide +kernel
theorem dX9_state_55 : decode cX9_state 55 = .ok (.bipush 22, 2) := by decide +kernel
theorem dX9_state_57 : decode cX9_state 57 = .ok (.isub, 1) := by decide +kernel
theorem dX9_state_58 : decode cX9_state 58 = .ok (.invokestatic 47, 3) := by decide +kernel
theorem dX9_state_61 : decode cX9_state 61 = .ok (.l2i, 1) := by decide +kernel
theorem dX9_state_62 : decode cX9_state 62 = .ok (.ireturn, 1) := by decide +kernel
theorem dX9_state_63 : decode cX9_state 63 = .ok (.iload_n 1, 1) := by decide +kernel
theorem dX9_state_64 : decode cX9_state 64 = .ok (.bipush 8, 2) := by decide +kernel
theorem dX9_state_66 : decode cX9_state 66 = .ok (.if_icmp .ge 11, 3) := by decide +kernel
theorem dX9_state_69 : decode cX9_state 69 = .ok (.aload_n 0, 1) := by decide +kernel
theorem dX9_state_70 : decode cX9_state 70 = .ok (.iload_n 1, 1) := by decide +kernel
theorem dX9_state_71 : decode cX9_state 71 = .ok (.invokevirtual 273, 3) := by decide +kernel
theorem dX9_state_74 : decode cX9_state 74 = .ok (.goto 8, 3) := by decide +kernel
theorem dX9_state_77 : decode cX9_state 77 = .ok (.aload_n 0, 1) := by decide +kernel
theorem dX9_state_78 : decode cX9_state 78 = .ok (.iload_n 1, 1) := by decide +kernel
theorem dX9_state_79 : decode cX9_state 79 = .ok (.invokevirtual 277, 3) := by decide +kernel
theorem dX9_state_82 : decode cX9_state 82 = .ok (.ireturn, 1) := by decide +kernel
set_option maxRecDepth 20000 in
theorem ggX9_wave_X9_isCourse : GoodIn wsX9_wave wsX9_isCourse := goodIn_r _ [5, 6, 7, 8, 4, 9] (by decide +kernel) (by decide +kernel)
set_option maxRecDepth 20000 in
theorem gX9_wave_X9_isCourse : GoodIn wsX9_wave (va_wsS RX9 112 yX9_isCourse wsX9_isCourse) := goodIn_app (goodIn_of _ (by decide +kernel)) ggX9_wave_X9_isCourse
set_option maxRecDepth 20000 in
theorem ggX9_wave_X9_isBetween : GoodIn wsX9_wave wsX9_isBetween := goodIn_r _ [9] (by decide +kernel) (by decide +kernel)
set_option maxRecDepth 20000 in
theorem gX9_wave_X9_isBetween : GoodIn wsX9_wave (va_wsS RX9 39 yX9_isBetween wsX9_isBetween) := goodIn_app (goodIn_of _ (by decide +kernel)) ggX9_wave_X9_isBetween
set_option maxRecDepth 20000 in
theorem ggX9_wave_X9_sine : GoodIn wsX9_wave wsX9_sine := goodIn_r _ [12, 13, 14, 15] (by decide +kernel) (by decide +kernel)
set_option maxRecDepth 20000 in
theorem gX9_wave_X9_sine : GoodIn wsX9_wave (va_wsS RX9 280 yX9_sine wsX9_sine) := goodIn_app (goodIn_of _ (by decide +kernel)) ggX9_wave_X9_sine
set_option maxRecDepth 20000 in
theorem ggX9_wave_X9_cosine : GoodIn wsX9_wave wsX9_cosine := goodIn_r _ [18, 19, 20, 10, 11, 4, 12, 13, 14, 15] (by decide +kernel) (by decide +kernel)
set_option maxRecDepth 20000 in
theorem gX9_wave_X9_cosine : GoodIn wsX9_wave (va_wsS RX9 283 yX9_cosine wsX9_cosine) := goodIn_app (goodIn_of _ (by decide +kernel)) ggX9_wave_X9_cosine
theorem dX9_wave_0 : decode cX9_wave 0 = .ok (.iload_n 1, 1) := by decide +kernel
theorem dX9_wave_1 : decode cX9_wave 1 = .ok (.invokestatic 112, 3) := by decide +kernel
theorem dX9_wave_4 : decode cX9_wave 4 = .ok (.ifCond .eq 13, 3) := by decide +kernel
theorem dX9_wave_7 : decode cX9_wave 7 = .ok (.iload_n 2, 1) := by decide +kernel
theorem dX9_wave_8 : decode cX9_wave 8 = .ok (.i2l, 1) := by decide +kernel
theorem dX9_wave_9 : decode cX9_wave 9 = .ok (.lconst 0, 1) := by decide +kernel
theorem dX9_wave_10 : decode cX9_wave 10 = .ok (.lconst 1, 1) := by decide +kernel
theorem dX9_wave_11 : decode cX9_wave 11 = .ok (.invokestatic 39, 3) := by decide +kernel
theorem dX9_wave_14 : decode cX9_wave 14 = .ok (.ifCond .ne 6, 3) := by decide +kernel
theorem dX9_wave_17 : decode cX9_wave 17 = .ok (.ldc 73, 2) := by decide +kernel
theorem dX9_wave_19 : decode cX9_wave 19 = .ok (.ireturn, 1) := by decide +kernel
theorem dX9_wave_20 : decode cX9_wave 20 = .ok (.iload_n 2, 1) := by decide +kernel
theorem dX9_wave_21 : decode cX9_wave 21 = .ok (.ifCond .ne 11, 3) := by decide +kernel
theorem dX9_wave_24 : decode cX9_wave 24 = .ok (.iload_n 1, 1) := by decide +kernel
theorem dX9_wave_25 : decode cX9_wave 25 = .ok (.i2l, 1) := by decide +kernel
theorem dX9_wave_26 : decode cX9_wave 26 = .ok (.invokestatic 280, 3) := by decide +kernel
theorem dX9_wave_29 : decode cX9_wave 29 = .ok (.goto 8, 3) := by decide +kernel
theorem dX9_wave_32 : decode cX9_wave 32 = .ok (.iload_n 1, 1) := by decide +kernel
theorem dX9_wave_33 : decode cX9_wave 33 = .ok (.i2l, 1) := by decide +kernel
theorem dX9_wave_34 : decode cX9_wave 34 = .ok (.invokestatic 283, 3) := by decide +kernel
theorem dX9_wave_37 : decode cX9_wave 37 = .ok (.l2i, 1) := by decide +kernel
theorem dX9_wave_38 : decode cX9_wave 38 = .ok (.ireturn, 1) := by decide +kernel
set_option maxRecDepth 20000 in
theorem ggX9_restAt_X9_isDegrees : GoodIn wsX9_restAt wsX9_isDegrees := goodIn_r _ [8, 9, 10, 11, 12, 7, 13] (by decide +kernel) (by decide +kernel)
set_option maxRecDepth 20000 in
theorem gX9_restAt_X9_isDegrees : GoodIn wsX9_restAt (va_wsS RX9 87 yX9_isDegrees wsX9_isDegrees) := goodIn_app (goodIn_of _ (by decide +kernel)) ggX9_restAt_X9_isDegrees
set_option maxRecDepth 20000 in
theorem ggX9_restAt_X9_isSpeed : GoodIn wsX9_restAt wsX9_isSpeed := goodIn_r _ [16, 17, 11, 12, 7, 13] (by decide +kernel) (by decide +kernel)
set_option maxRecDepth 20000 in
theorem gX9_restAt_X9_isSpeed : GoodIn wsX9_restAt (va_wsS RX9 128 yX9_isSpeed wsX9_isSpeed) := goodIn_app (goodIn_of _ (by decide +kernel)) ggX9_restAt_X9_isSpeed
set_option maxRecDepth 20000 in
theorem ggX9_restAt_X9_isCourse : GoodIn wsX9_restAt wsX9_isCourse := goodIn_r _ [20, 21, 11, 12, 7, 13] (by decide +kernel) (by decide +kernel)
set_option maxRecDepth 20000 in
theorem gX9_restAt_X9_isCourse : GoodIn wsX9_restAt (va_wsS RX9 112 yX9_isCourse wsX9_isCourse) := goodIn_app (goodIn_of _ (by decide +kernel)) ggX9_restAt_X9_isCourse
set_option maxRecDepth 20000 in
theorem ggX9_restAt_X9_at : GoodIn wsX9_restAt wsX9_at := goodIn_r _ [24] (by decide +kernel) (by decide +kernel)
set_option maxRecDepth 20000 in
theorem gX9_restAt_X9_at : GoodIn wsX9_restAt (va_wsS RX9 47 yX9_at wsX9_at) := goodIn_app (goodIn_of _ (by decide +kernel)) ggX9_restAt_X9_at
set_option maxRecDepth 20000 in
theorem ggX9_restAt_X9_freeRest : GoodIn wsX9_restAt wsX9_freeRest := goodIn_r _ [27, 28, 29, 30, 7, 31, 32, 33, 34, 35, 36, 37, 38, 39, 40, 41, 42, 43, 44, 45, 46, 47, 48, 49, 50] (by decide +kernel) (by decide +kernel)
set_option maxRecDepth 20000 in
theorem gX9_restAt_X9_freeRest : GoodIn wsX9_restAt (va_wsS RX9 286 yX9_freeRest wsX9_freeRest) := goodIn_app (goodIn_of _ (by decide +kernel)) ggX9_restAt_X9_freeRest
theorem dX9_restAt_0 : decode cX9_restAt 0 = .ok (.iload_n 1, 1) := by decide +kernel
theorem dX9_restAt_1 : decode cX9_restAt 1 = .ok (.invokestatic 87, 3) := by decide +kernel
theorem dX9_restAt_4 : decode cX9_restAt 4 = .ok (.ifCond .eq 17, 3) := by decide +kernel
theorem dX9_restAt_7 : decode cX9_restAt 7 = .ok (.iload_n 2, 1) := by decide +kernel
theorem dX9_restAt_8 : decode cX9_restAt 8 = .ok (.invokestatic 128, 3) := by decide +kernel
theorem dX9_restAt_11 : decode cX9_restAt 11 = .ok (.ifCond .eq 10, 3) := by decide +kernel
theorem dX9_restAt_14 : decode cX9_restAt 14 = .ok (.iload_n 3, 1) := by decide +kernel
theorem dX9_restAt_15 : decode cX9_restAt 15 = .ok (.invokestatic 112, 3) := by decide +kernel
theorem dX9_restAt_18 : decode cX9_restAt 18 = .ok (.ifCond .ne 6, 3) := by decide +kernel
theorem dX9_restAt_21 : decode cX9_restAt 21 = .ok (.ldc 73, 2) := by decide +kernel
theorem dX9_restAt_23 : decode cX9_restAt 23 = .ok (.ireturn, 1) := by decide +kernel
theorem dX9_restAt_24 : decode cX9_restAt 24 = .ok (.aload_n 0, 1) := by decide +kernel
theorem dX9_restAt_25 : decode cX9_restAt 25 = .ok (.getfield 10, 3) := by decide +kernel
theorem dX9_restAt_28 : decode cX9_restAt 28 = .ok (.getfield 58, 3) := by decide +kernel
theorem dX9_restAt_31 : decode cX9_restAt 31 = .ok (.iconst 2, 1) := by decide +kernel
theorem dX9_restAt_32 : decode cX9_restAt 32 = .ok (.invokestatic 47, 3) := by decide +kernel
theorem dX9_restAt_35 : decode cX9_restAt 35 = .ok (.iload_n 1, 1) := by decide +kernel
theorem dX9_restAt_36 : decode cX9_restAt 36 = .ok (.i2l, 1) := by decide +kernel
theorem dX9_restAt_37 : decode cX9_restAt 37 = .ok (.ldc2_w 107, 3) := by decide +kernel
theorem dX9_restAt_40 : decode cX9_restAt 40 = .ok (.lmul, 1) := by decide +kernel
theorem dX9_restAt_41 : decode cX9_restAt 41 = .ok (.iload_n 2, 1) := by decide +kernel
theorem dX9_restAt_42 : decode cX9_restAt 42 = .ok (.i2l, 1) := by decide +kernel
theorem dX9_restAt_43 : decode cX9_restAt 43 = .ok (.iload_n 3, 1) := by decide +kernel
theorem dX9_restAt_44 : decode cX9_restAt 44 = .ok (.i2l, 1) := by decide +kernel
theorem dX9_restAt_45 : decode cX9_restAt 45 = .ok (.invokestatic 286, 3) := by decide +kernel
theorem dX9_restAt_48 : decode cX9_restAt 48 = .ok (.l2i, 1) := by decide +kernel
theorem dX9_restAt_49 : decode cX9_restAt 49 = .ok (.ireturn, 1) := by decide +kernel
set_option maxRecDepth 20000 in
theorem ggX9_calmIn_X9_isBetween : GoodIn wsX9_calmIn wsX9_isBetween := goodIn_r _ [9] (by decide +kernel) (by decide +kernel)
set_option maxRecDepth 20000 in
theorem gX9_calmIn_X9_isBetween : GoodIn wsX9_calmIn (va_wsS RX9 39 yX9_isBetween wsX9_isBetween) := goodIn_app (goodIn_of _ (by decide +kernel)) ggX9_calmIn_X9_isBetween
set_option maxRecDepth 20000 in
theorem ggX9_calmIn_X9_minutesUntilCalm : GoodIn wsX9_calmIn wsX9_minutesUntilCalm := goodIn_r _ [13, 14, 3, 4, 5, 15, 16, 17, 18, 19, 20, 21, 22, 23, 24, 25, 26, 27, 28, 8, 29, 30, 31, 32, 33, 34, 35, 36, 37, 38, 39, 40, 41, 42, 43, 44, 45, 46, 47, 48, 49, 50, 51, 52, 53, 54, 55, 56, 57, 58, 59, 60, 61, 62, 63, 64, 65, 66, 67, 68, 69, 70, 71, 72, 73, 74, 75, 76, 77, 78, 79, 80, 81, 82, 83, 84, 85, 86, 87, 88, 89, 90, 91, 92, 93, 94, 95, 96, 97, 98, 99, 100, 101, 102, 103, 104, 105, 106, 107, 108, 109, 110, 111, 112, 113, 114, 115, 116, 117, 118, 119, 120, 121, 122, 123, 124, 125, 126, 127, 128, 129, 130, 131, 132, 133, 134, 135, 136, 137, 138, 139, 140, 141, 142, 143, 144, 145, 146, 147, 148, 149, 150, 151, 152, 153, 154, 155, 156, 157, 158, 159, 160, 161, 162, 163, 164, 165, 166, 167, 168, 169, 170, 171, 172, 173, 174, 175, 176, 177, 178, 179, 180, 181, 182, 183, 184, 185, 186, 187, 188, 189, 190, 191, 192, 193, 194, 195, 196, 197, 198, 199, 200, 201, 202, 203, 204, 205, 206, 207, 208, 209, 210, 211, 212, 213, 214, 215, 216, 217, 218, 219, 220, 221, 222, 223, 224, 225, 226, 227, 228, 229, 230, 231, 232, 233, 234] (by decide +kernel) (by decide +kernel)
set_option maxRecDepth 20000 in
theorem gX9_calmIn_X9_minutesUntilCalm : GoodIn wsX9_calmIn (wsV RX9 292 RX9 yX9_minutesUntilCalm wsX9_minutesUntilCalm) := goodIn_app (goodIn_of _ (by decide +kernel)) ggX9_calmIn_X9_minutesUntilCalm
theorem dX9_calmIn_0 : decode cX9_calmIn 0 = .ok (.iload_n 1, 1) := by decide +kernel
theorem dX9_calmIn_1 : decode cX9_calmIn 1 = .ok (.i2l, 1) := by decide +kernel
theorem dX9_calmIn_2 : decode cX9_calmIn 2 = .ok (.lconst 0, 1) := by decide +kernel
theorem dX9_calmIn_3 : decode cX9_calmIn 3 = .ok (.ldc2_w 71, 3) := by decide +kernel
theorem dX9_calmIn_6 : decode cX9_calmIn 6 = .ok (.invokestatic 39, 3) := by decide +kernel
theorem dX9_calmIn_9 : decode cX9_calmIn 9 = .ok (.ifCond .eq 15, 3) := by decide +kernel
theorem dX9_calmIn_12 : decode cX9_calmIn 12 = .ok (.iload_n 2, 1) := by decide +kernel
theorem dX9_calmIn_13 : decode cX9_calmIn 13 = .ok (.i2l, 1) := by decide +kernel
theorem dX9_calmIn_14 : decode cX9_calmIn 14 = .ok (.lconst 1, 1) := by decide +kernel
theorem dX9_calmIn_15 : decode cX9_calmIn 15 = .ok (.ldc2_w 290, 3) := by decide +kernel
theorem dX9_calmIn_18 : decode cX9_calmIn 18 = .ok (.invokestatic 39, 3) := by decide +kernel
theorem dX9_calmIn_21 : decode cX9_calmIn 21 = .ok (.ifCond .ne 6, 3) := by decide +kernel
theorem dX9_calmIn_24 : decode cX9_calmIn 24 = .ok (.bipush (-2), 2) := by decide +kernel
theorem dX9_calmIn_26 : decode cX9_calmIn 26 = .ok (.ireturn, 1) := by decide +kernel
theorem dX9_calmIn_27 : decode cX9_calmIn 27 = .ok (.aload_n 0, 1) := by decide +kernel
theorem dX9_calmIn_28 : decode cX9_calmIn 28 = .ok (.aload_n 0, 1) := by decide +kernel
theorem dX9_calmIn_29 : decode cX9_calmIn 29 = .ok (.getfield 10, 3) := by decide +kernel
theorem dX9_calmIn_32 : decode cX9_calmIn 32 = .ok (.getfield 74, 3) := by decide +kernel
theorem dX9_calmIn_35 : decode cX9_calmIn 35 = .ok (.getfield 170, 3) := by decide +kernel
theorem dX9_calmIn_38 : decode cX9_calmIn 38 = .ok (.iload_n 1, 1) := by decide +kernel
theorem dX9_calmIn_39 : decode cX9_calmIn 39 = .ok (.iload_n 2, 1) := by decide +kernel
theorem dX9_calmIn_40 : decode cX9_calmIn 40 = .ok (.invokevirtual 292, 3) := by decide +kernel
theorem dX9_calmIn_43 : decode cX9_calmIn 43 = .ok (.ireturn, 1) := by decide +kernel
set_option maxRecDepth 20000 in
theorem ggX9_bestLevel_X9_isBetween : GoodIn wsX9_bestLevel wsX9_isBetween := goodIn_r _ [6] (by decide +kernel) (by decide +kernel)
set_option maxRecDepth 20000 in
theorem gX9_bestLevel_X9_isBetween : GoodIn wsX9_bestLevel (va_wsS RX9 39 yX9_isBetween wsX9_isBetween) := goodIn_app (goodIn_of _ (by decide +kernel)) ggX9_bestLevel_X9_isBetween
set_option maxRecDepth 20000 in
theorem ggX9_bestLevel_X9_minutesUntilCalm : GoodIn wsX9_bestLevel wsX9_minutesUntilCalm := goodIn_r _ [10, 11, 12, 13, 14, 15, 16, 17, 18, 19, 20, 21, 22, 23, 24, 25, 26, 27, 28, 5, 29, 30, 31, 32, 33, 34, 35, 36, 37, 38, 39, 40, 41, 42, 43, 44, 45, 46, 47, 48, 49, 50, 51, 52, 53, 54, 55, 56, 57, 58, 59, 60, 61, 62, 63, 64, 65, 66, 67, 68, 69, 70, 71, 72, 73, 74, 75, 76, 77, 78, 79, 80, 81, 82, 83, 84, 85, 86, 87, 88, 89, 90, 91, 92, 93, 94, 95, 96, 97, 98, 99, 100, 101, 102, 103, 104, 105, 106, 107, 108, 109, 110, 111, 112, 113, 114, 115, 116, 117, 118, 119, 120, 121, 122, 123, 124, 125, 126, 127, 128, 129, 130, 131, 132, 133, 134, 135, 136, 137, 138, 139, 140, 141, 142, 143, 144, 145, 146, 147, 148, 149, 150, 151, 152, 153, 154, 155, 156, 157, 158, 159, 160, 161, 162, 163, 164, 165, 166, 167, 168, 169, 170, 171, 172, 173, 174, 175, 176, 177, 178, 179, 180, 181, 182, 183, 184, 185, 186, 187, 188, 189, 190, 191, 192, 193, 194, 195, 196, 197, 198, 199, 200, 201, 202, 203, 204, 205, 206, 207, 208, 209, 210, 211, 212, 213, 214, 215, 216, 217, 218, 219, 220, 221, 222, 223, 224, 225, 226, 227, 228, 229, 230, 231, 232, 233, 234] (by decide +kernel) (by decide +kernel)
set_option maxRecDepth 20000 in
theorem gX9_bestLevel_X9_minutesUntilCalm : GoodIn wsX9_bestLevel (wsV RX9 292 RX9 yX9_minutesUntilCalm wsX9_minutesUntilCalm) := goodIn_app (goodIn_of _ (by decide +kernel)) ggX9_bestLevel_X9_minutesUntilCalm
theorem dX9_bestLevel_0 : decode cX9_bestLevel 0 = .ok (.iload_n 1, 1) := by decide +kernel
theorem dX9_bestLevel_1 : decode cX9_bestLevel 1 = .ok (.i2l, 1) := by decide +kernel
theorem dX9_bestLevel_2 : decode cX9_bestLevel 2 = .ok (.lconst 0, 1) := by decide +kernel
theorem dX9_bestLevel_3 : decode cX9_bestLevel 3 = .ok (.ldc2_w 71, 3) := by decide +kernel
theorem dX9_bestLevel_6 : decode cX9_bestLevel 6 = .ok (.invokestatic 39, 3) := by decide +kernel
theorem dX9_bestLevel_9 : decode cX9_bestLevel 9 = .ok (.ifCond .eq 15, 3) := by decide +kernel
theorem dX9_bestLevel_12 : decode cX9_bestLevel 12 = .ok (.iload_n 2, 1) := by decide +kernel
theorem dX9_bestLevel_13 : decode cX9_bestLevel 13 = .ok (.i2l, 1) := by decide +kernel
theorem dX9_bestLevel_14 : decode cX9_bestLevel 14 = .ok (.lconst 1, 1) := by decide +kernel
theorem dX9_bestLevel_15 : decode cX9_bestLevel 15 = .ok (.ldc2_w 296, 3) := by decide +kernel
theorem dX9_bestLevel_18 : decode cX9_bestLevel 18 = .ok (.invokestatic 39, 3) := by decide +kernel
theorem dX9_bestLevel_21 : decode cX9_bestLevel 21 = .ok (.ifCond .ne 6, 3) := by decide +kernel
theorem dX9_bestLevel_24 : decode cX9_bestLevel 24 = .ok (.bipush (-2), 2) := by decide +kernel
theorem dX9_bestLevel_26 : decode cX9_bestLevel 26 = .ok (.ireturn, 1) := by decide +kernel
theorem dX9_bestLevel_27 : decode cX9_bestLevel 27 = .ok (.bipush (-6), 2) := by decide +kernel
theorem dX9_bestLevel_29 : decode cX9_bestLevel 29 = .ok (.istore_n 3, 1) := by decide +kernel
theorem dX9_bestLevel_30 : decode cX9_bestLevel 30 = .ok (.iload_n 2, 1) := by decide +kernel
theorem dX9_bestLevel_31 : decode cX9_bestLevel 31 = .ok (.istore 4, 2) := by decide +kernel
theorem dX9_bestLevel_33 : decode cX9_bestLevel 33 = .ok (.iconst 0, 1) := by decide +kernel
theorem dX9_bestLevel_34 : decode cX9_bestLevel 34 = .ok (.istore 5, 2) := by decide +kernel
theorem dX9_bestLevel_36 : decode cX9_bestLevel 36 = .ok (.iload 5, 2) := by decide +kernel
theorem dX9_bestLevel_38 : decode cX9_bestLevel 38 = .ok (.iconst 5, 1) := by decide +kernel
theorem dX9_bestLevel_39 : decode cX9_bestLevel 39 = .ok (.if_icmp .ge 41, 3) := by decide +kernel
theorem dX9_bestLevel_42 : decode cX9_bestLevel 42 = .ok (.iload 4, 2) := by decide +kernel
theorem dX9_bestLevel_44 : decode cX9_bestLevel 44 = .ok (.ifCond .lt 36, 3) := by decide +kernel
theorem dX9_bestLevel_47 : decode cX9_bestLevel 47 = .ok (.aload_n 0, 1) := by decide +kernel
theorem dX9_bestLevel_48 : decode cX9_bestLevel 48 = .ok (.iload 5, 2) := by decide +kernel
theorem dX9_bestLevel_50 : decode cX9_bestLevel 50 = .ok (.iload_n 1, 1) := by decide +kernel
theorem dX9_bestLevel_51 : decode cX9_bestLevel 51 = .ok (.iload 4, 2) := by decide +kernel
theorem dX9_bestLevel_53 : decode cX9_bestLevel 53 = .ok (.invokevirtual 292, 3) := by decide +kernel
theorem dX9_bestLevel_56 : decode cX9_bestLevel 56 = .ok (.istore 6, 2) := by decide +kernel
theorem dX9_bestLevel_58 : decode cX9_bestLevel 58 = .ok (.iload 6, 2) := by decide +kernel
theorem dX9_bestLevel_60 : decode cX9_bestLevel 60 = .ok (.bipush (-6), 2) := by decide +kernel
theorem dX9_bestLevel_62 : decode cX9_bestLevel 62 = .ok (.if_icmp .eq 12, 3) := by decide +kernel
theorem dX9_bestLevel_65 : decode cX9_bestLevel 65 = .ok (.iload 5, 2) := by decide +kernel
theorem dX9_bestLevel_67 : decode cX9_bestLevel 67 = .ok (.istore_n 3, 1) := by decide +kernel
theorem dX9_bestLevel_68 : decode cX9_bestLevel 68 = .ok (.iload 6, 2) := by decide +kernel
theorem dX9_bestLevel_70 : decode cX9_bestLevel 70 = .ok (.iconst 1, 1) := by decide +kernel
theorem dX9_bestLevel_71 : decode cX9_bestLevel 71 = .ok (.isub, 1) := by decide +kernel
theorem dX9_bestLevel_72 : decode cX9_bestLevel 72 = .ok (.istore 4, 2) := by decide +kernel
theorem dX9_bestLevel_74 : decode cX9_bestLevel 74 = .ok (.iinc 5 1, 3) := by decide +kernel
theorem dX9_bestLevel_77 : decode cX9_bestLevel 77 = .ok (.goto (-41), 3) := by decide +kernel
theorem dX9_bestLevel_80 : decode cX9_bestLevel 80 = .ok (.iload_n 3, 1) := by decide +kernel
theorem dX9_bestLevel_81 : decode cX9_bestLevel 81 = .ok (.ireturn, 1) := by decide +kernel
set_option maxRecDepth 20000 in
theorem ggX9_put_X9_countOfSigns : GoodIn wsX9_put wsX9_countOfSigns := goodIn_r _ [7, 3, 8, 9, 10, 11, 6, 12] (by decide +kernel) (by decide +kernel)
set_option maxRecDepth 20000 in
theorem gX9_put_X9_countOfSigns : GoodIn wsX9_put (va_wsS RX9 298 yX9_countOfSigns wsX9_countOfSigns) := goodIn_app (goodIn_of _ (by decide +kernel)) ggX9_put_X9_countOfSigns
set_option maxRecDepth 20000 in
theorem ggX9_put_X4_append : GoodIn wsX9_put wsX4_append := goodIn_r _ [17, 18, 19, 25, 26, 27, 28, 29] (by decide +kernel) (by decide +kernel)
set_option maxRecDepth 20000 in
theorem gX9_put_X4_append : GoodIn wsX9_put (wsV RX9 306 RX4 yX4_append wsX4_append) := goodIn_app (goodIn_of _ (by decide +kernel)) ggX9_put_X4_append
theorem dX9_put_0 : decode cX9_put 0 = .ok (.lload_n 1, 1) := by decide +kernel
theorem dX9_put_1 : decode cX9_put 1 = .ok (.invokestatic 298, 3) := by decide +kernel
theorem dX9_put_4 : decode cX9_put 4 = .ok (.istore_n 3, 1) := by decide +kernel
theorem dX9_put_5 : decode cX9_put 5 = .ok (.iload_n 3, 1) := by decide +kernel
theorem dX9_put_6 : decode cX9_put 6 = .ok (.ifCond .ne 6, 3) := by decide +kernel
theorem dX9_put_9 : decode cX9_put 9 = .ok (.bipush (-2), 2) := by decide +kernel
theorem dX9_put_11 : decode cX9_put 11 = .ok (.ireturn, 1) := by decide +kernel
theorem dX9_put_12 : decode cX9_put 12 = .ok (.aload_n 0, 1) := by decide +kernel
theorem dX9_put_13 : decode cX9_put 13 = .ok (.getfield 33, 3) := by decide +kernel
theorem dX9_put_16 : decode cX9_put 16 = .ok (.getfield 301, 3) := by decide +kernel
theorem dX9_put_19 : decode cX9_put 19 = .ok (.iload_n 3, 1) := by decide +kernel
theorem dX9_put_20 : decode cX9_put 20 = .ok (.iadd, 1) := by decide +kernel
theorem dX9_put_21 : decode cX9_put 21 = .ok (.bipush 80, 2) := by decide +kernel
theorem dX9_put_23 : decode cX9_put 23 = .ok (.if_icmp .le 6, 3) := by decide +kernel
theorem dX9_put_26 : decode cX9_put 26 = .ok (.bipush (-4), 2) := by decide +kernel
theorem dX9_put_28 : decode cX9_put 28 = .ok (.ireturn, 1) := by decide +kernel
theorem dX9_put_29 : decode cX9_put 29 = .ok (.iload_n 3, 1) := by decide +kernel
theorem dX9_put_30 : decode cX9_put 30 = .ok (.iconst 1, 1) := by decide +kernel
theorem dX9_put_31 : decode cX9_put 31 = .ok (.isub, 1) := by decide +kernel
theorem dX9_put_32 : decode cX9_put 32 = .ok (.istore 4, 2) := by decide +kernel
theorem dX9_put_34 : decode cX9_put 34 = .ok (.iload 4, 2) := by decide +kernel
theorem dX9_put_36 : decode cX9_put 36 = .ok (.ifCond .lt 29, 3) := by decide +kernel
theorem dX9_put_39 : decode cX9_put 39 = .ok (.aload_n 0, 1) := by decide +kernel
theorem dX9_put_40 : decode cX9_put 40 = .ok (.getfield 33, 3) := by decide +kernel
theorem dX9_put_43 : decode cX9_put 43 = .ok (.lload_n 1, 1) := by decide +kernel
theorem dX9_put_44 : decode cX9_put 44 = .ok (.bipush 8, 2) := by decide +kernel
theorem dX9_put_46 : decode cX9_put 46 = .ok (.iload 4, 2) := by decide +kernel
theorem dX9_put_48 : decode cX9_put 48 = .ok (.imul, 1) := by decide +kernel
theorem dX9_put_49 : decode cX9_put 49 = .ok (.lushr, 1) := by decide +kernel
theorem dX9_put_50 : decode cX9_put 50 = .ok (.ldc2_w 304, 3) := by decide +kernel
theorem dX9_put_53 : decode cX9_put 53 = .ok (.land, 1) := by decide +kernel
theorem dX9_put_54 : decode cX9_put 54 = .ok (.l2i, 1) := by decide +kernel
theorem dX9_put_55 : decode cX9_put 55 = .ok (.i2c, 1) := by decide +kernel
theorem dX9_put_56 : decode cX9_put 56 = .ok (.invokevirtual 306, 3) := by decide +kernel
theorem dX9_put_59 : decode cX9_put 59 = .ok (.iinc 4 (-1), 3) := by decide +kernel
theorem dX9_put_62 : decode cX9_put 62 = .ok (.goto (-28), 3) := by decide +kernel
theorem dX9_put_65 : decode cX9_put 65 = .ok (.aload_n 0, 1) := by decide +kernel
theorem dX9_put_66 : decode cX9_put 66 = .ok (.getfield 33, 3) := by decide +kernel
theorem dX9_put_69 : decode cX9_put 69 = .ok (.getfield 301, 3) := by decide +kernel
theorem dX9_put_72 : decode cX9_put 72 = .ok (.ireturn, 1) := by decide +kernel
theorem dX9_wipe_0 : decode cX9_wipe 0 = .ok (.aload_n 0, 1) := by decide +kernel
theorem dX9_wipe_1 : decode cX9_wipe 1 = .ok (.getfield 33, 3) := by decide +kernel
theorem dX9_wipe_4 : decode cX9_wipe 4 = .ok (.getfield 301, 3) := by decide +kernel
theorem dX9_wipe_7 : decode cX9_wipe 7 = .ok (.istore_n 1, 1) := by decide +kernel
theorem dX9_wipe_8 : decode cX9_wipe 8 = .ok (.aload_n 0, 1) := by decide +kernel
theorem dX9_wipe_9 : decode cX9_wipe 9 = .ok (.getfield 33, 3) := by decide +kernel
theorem dX9_wipe_12 : decode cX9_wipe 12 = .ok (.iconst 0, 1) := by decide +kernel
theorem dX9_wipe_13 : decode cX9_wipe 13 = .ok (.putfield 301, 3) := by decide +kernel
theorem dX9_wipe_16 : decode cX9_wipe 16 = .ok (.iload_n 1, 1) := by decide +kernel
theorem dX9_wipe_17 : decode cX9_wipe 17 = .ok (.ireturn, 1) := by decide +kernel
set_option maxRecDepth 20000 in
theorem ggX9_fault_X4_readLegs : GoodIn wsX9_fault wsX4_readLegs := goodIn_r _ [6, 7, 8, 9, 10, 11, 12, 13, 14, 15, 16, 17, 18, 5, 19, 20, 21, 22, 23, 24, 25, 26, 27, 28, 29, 30, 31, 32, 33, 34, 35, 36, 37, 38, 39, 40, 41, 42, 43, 44, 45, 46, 47, 48, 49, 55, 56, 57, 58, 59, 60, 61, 62, 63] (by decide +kernel) (by decide +kernel)
set_option maxRecDepth 20000 in
theorem gX9_fault_X4_readLegs : GoodIn wsX9_fault (wsV RX9 310 RX4 yX4_readLegs wsX4_readLegs) := goodIn_app (goodIn_of _ (by decide +kernel)) ggX9_fault_X4_readLegs
theorem dX9_fault_0 : decode cX9_fault 0 = .ok (.aload_n 0, 1) := by decide +kernel
theorem dX9_fault_1 : decode cX9_fault 1 = .ok (.getfield 33, 3) := by decide +kernel
theorem dX9_fault_4 : decode cX9_fault 4 = .ok (.invokevirtual 310, 3) := by decide +kernel
theorem dX9_fault_7 : decode cX9_fault 7 = .ok (.ireturn, 1) := by decide +kernel
set_option maxRecDepth 20000 in
theorem ggX9_load_X4_readLegs : GoodIn wsX9_load wsX4_readLegs := goodIn_r _ [16, 17, 18, 19, 20, 21, 22, 23, 24, 25, 26, 27, 28, 15, 29, 30, 31, 32, 33, 34, 35, 36, 37, 38, 39, 40, 41, 42, 43, 44, 45, 46, 47, 48, 49, 50, 51, 52, 53, 54, 55, 56, 57, 58, 59, 228, 229, 230, 231, 232, 224, 225, 226, 227] (by decide +kernel) (by decide +kernel)
set_option maxRecDepth 20000 in
theorem gX9_load_X4_readLegs : GoodIn wsX9_load (wsV RX9 310 RX4 yX4_readLegs wsX4_readLegs) := goodIn_app (goodIn_of _ (by decide +kernel)) ggX9_load_X4_readLegs
set_option maxRecDepth 20000 in
theorem ggX9_load_X1_record : GoodIn wsX9_load wsX1_record := goodIn_r _ [64, 65, 66, 67, 68, 69, 70, 71, 72, 58, 73, 74, 75, 76, 77, 78, 79, 80, 81, 82, 83, 84, 85, 86, 87, 88, 89, 90, 91, 92, 93, 94, 95, 96, 97, 98, 99, 100, 101, 102, 103, 104, 105, 23, 106, 107, 108, 109, 110, 111, 112, 113, 54, 55, 56, 114, 115, 116, 117, 118, 119, 120, 121, 122, 123, 124, 125, 126, 127, 128, 129, 130, 131, 132, 133, 134, 135, 136, 137, 138, 139, 140, 141, 142, 143, 144, 145, 146, 147, 148, 149, 150, 151, 152, 153, 154, 155, 156, 157, 158, 159, 160, 161, 162, 163, 25, 164, 165, 166, 167, 168, 169, 170, 171, 172, 173, 174, 175, 176, 177, 178, 179, 180, 181, 182, 183, 184, 185, 186, 187, 188, 189, 190, 233, 234, 235, 211, 212, 213, 214, 215, 216, 217, 218, 219, 220, 221, 222, 223, 236, 237, 238, 239, 240, 241, 242, 243, 244, 245, 246, 247, 248, 249, 250, 251, 252, 224, 225, 226, 227, 253, 254] (by decide +kernel) (by decide +kernel)
set_option maxRecDepth 20000 in
theorem gX9_load_X1_record : GoodIn wsX9_load (wsV RX9 54 RX1 yX1_record wsX1_record) := goodIn_app (goodIn_of _ (by decide +kernel)) ggX9_load_X1_record
set_option maxRecDepth 20000 in
theorem ggX9_load_X9_at : GoodIn wsX9_load wsX9_at := goodIn_r _ [193] (by decide +kernel) (by decide +kernel)
set_option maxRecDepth 20000 in
theorem gX9_load_X9_at : GoodIn wsX9_load (va_wsS RX9 47 yX9_at wsX9_at) := goodIn_app (goodIn_of _ (by decide +kernel)) ggX9_load_X9_at
set_option maxRecDepth 20000 in
theorem ggX9_load_X5_addLeg : GoodIn wsX9_load wsX5_addLeg := goodIn_r _ [197, 106, 198, 51, 52, 23, 53, 25, 54, 55, 56, 57, 58, 59, 199, 200, 201, 87, 202, 203, 204, 157, 205, 158, 192, 193, 219, 220, 221, 222, 223, 224, 225, 226, 227] (by decide +kernel) (by decide +kernel)
set_option maxRecDepth 20000 in
theorem gX9_load_X5_addLeg : GoodIn wsX9_load (wsV RX9 143 RX5 yX5_addLeg wsX5_addLeg) := goodIn_app (goodIn_of _ (by decide +kernel)) ggX9_load_X5_addLeg
theorem dX9_load_0 : decode cX9_load 0 = .ok (.aload_n 0, 1) := by decide +kernel
theorem dX9_load_1 : decode cX9_load 1 = .ok (.getfield 33, 3) := by decide +kernel
theorem dX9_load_4 : decode cX9_load 4 = .ok (.invokevirtual 310, 3) := by decide +kernel
theorem dX9_load_7 : decode cX9_load 7 = .ok (.bipush (-6), 2) := by decide +kernel
theorem dX9_load_9 : decode cX9_load 9 = .ok (.if_icmp .eq 6, 3) := by decide +kernel
theorem dX9_load_12 : decode cX9_load 12 = .ok (.bipush (-3), 2) := by decide +kernel
theorem dX9_load_14 : decode cX9_load 14 = .ok (.ireturn, 1) := by decide +kernel
theorem dX9_load_15 : decode cX9_load 15 = .ok (.aload_n 0, 1) := by decide +kernel
theorem dX9_load_16 : decode cX9_load 16 = .ok (.getfield 10, 3) := by decide +kernel
theorem dX9_load_19 : decode cX9_load 19 = .ok (.getfield 91, 3) := by decide +kernel
theorem dX9_load_22 : decode cX9_load 22 = .ok (.getfield 95, 3) := by decide +kernel
theorem dX9_load_25 : decode cX9_load 25 = .ok (.getfield 101, 3) := by decide +kernel
theorem dX9_load_28 : decode cX9_load 28 = .ok (.aload_n 0, 1) := by decide +kernel
theorem dX9_load_29 : decode cX9_load 29 = .ok (.getfield 33, 3) := by decide +kernel
theorem dX9_load_32 : decode cX9_load 32 = .ok (.getfield 313, 3) := by decide +kernel
theorem dX9_load_35 : decode cX9_load 35 = .ok (.getfield 101, 3) := by decide +kernel
theorem dX9_load_38 : decode cX9_load 38 = .ok (.iadd, 1) := by decide +kernel
theorem dX9_load_39 : decode cX9_load 39 = .ok (.bipush 8, 2) := by decide +kernel
theorem dX9_load_41 : decode cX9_load 41 = .ok (.if_icmp .le 6, 3) := by decide +kernel
theorem dX9_load_44 : decode cX9_load 44 = .ok (.bipush (-4), 2) := by decide +kernel
theorem dX9_load_46 : decode cX9_load 46 = .ok (.ireturn, 1) := by decide +kernel
theorem dX9_load_47 : decode cX9_load 47 = .ok (.aload_n 0, 1) := by decide +kernel
theorem dX9_load_48 : decode cX9_load 48 = .ok (.getfield 22, 3) := by decide +kernel
theorem dX9_load_51 : decode cX9_load 51 = .ok (.aload_n 0, 1) := by decide +kernel
theorem dX9_load_52 : decode cX9_load 52 = .ok (.getfield 10, 3) := by decide +kernel
theorem dX9_load_55 : decode cX9_load 55 = .ok (.invokevirtual 54, 3) := by decide +kernel
theorem dX9_load_58 : decode cX9_load 58 = .ok (.iconst 0, 1) := by decide +kernel
theorem dX9_load_59 : decode cX9_load 59 = .ok (.istore_n 1, 1) := by decide +kernel
theorem dX9_load_60 : decode cX9_load 60 = .ok (.iload_n 1, 1) := by decide +kernel
theorem dX9_load_61 : decode cX9_load 61 = .ok (.aload_n 0, 1) := by decide +kernel
theorem dX9_load_62 : decode cX9_load 62 = .ok (.getfield 33, 3) := by decide +kernel
theorem dX9_load_65 : decode cX9_load 65 = .ok (.getfield 313, 3) := by decide +kernel
theorem dX9_load_68 : decode cX9_load 68 = .ok (.getfield 101, 3) := by decide +kernel
theorem dX9_load_71 : decode cX9_load 71 = .ok (.if_icmp .ge 61, 3) := by decide +kernel
theorem dX9_load_74 : decode cX9_load 74 = .ok (.aload_n 0, 1) := by decide +kernel
theorem dX9_load_75 : decode cX9_load 75 = .ok (.getfield 10, 3) := by decide +kernel
theorem dX9_load_78 : decode cX9_load 78 = .ok (.getfield 91, 3) := by decide +kernel
theorem dX9_load_81 : decode cX9_load 81 = .ok (.aload_n 0, 1) := by decide +kernel
theorem dX9_load_82 : decode cX9_load 82 = .ok (.getfield 33, 3) := by decide +kernel
theorem dX9_load_85 : decode cX9_load 85 = .ok (.getfield 313, 3) := by decide +kernel
theorem dX9_load_88 : decode cX9_load 88 = .ok (.getfield 314, 3) := by decide +kernel
theorem dX9_load_91 : decode cX9_load 91 = .ok (.iload_n 1, 1) := by decide +kernel
theorem dX9_load_92 : decode cX9_load 92 = .ok (.invokestatic 47, 3) := by decide +kernel
theorem dX9_load_95 : decode cX9_load 95 = .ok (.aload_n 0, 1) := by decide +kernel
theorem dX9_load_96 : decode cX9_load 96 = .ok (.getfield 33, 3) := by decide +kernel
theorem dX9_load_99 : decode cX9_load 99 = .ok (.getfield 313, 3) := by decide +kernel
theorem dX9_load_102 : decode cX9_load 102 = .ok (.getfield 317, 3) := by decide +kernel
theorem dX9_load_105 : decode cX9_load 105 = .ok (.iload_n 1, 1) := by decide +kernel
theorem dX9_load_106 : decode cX9_load 106 = .ok (.invokestatic 47, 3) := by decide +kernel
theorem dX9_load_109 : decode cX9_load 109 = .ok (.aload_n 0, 1) := by decide +kernel
theorem dX9_load_110 : decode cX9_load 110 = .ok (.getfield 33, 3) := by decide +kernel
theorem dX9_load_113 : decode cX9_load 113 = .ok (.getfield 313, 3) := by decide +kernel
theorem dX9_load_116 : decode cX9_load 116 = .ok (.getfield 320, 3) := by decide +kernel
theorem dX9_load_119 : decode cX9_load 119 = .ok (.iload_n 1, 1) := by decide +kernel
theorem dX9_load_120 : decode cX9_load 120 = .ok (.invokestatic 47, 3) := by decide +kernel
theorem dX9_load_123 : decode cX9_load 123 = .ok (.invokevirtual 143, 3) := by decide +kernel
theorem dX9_load_126 : decode cX9_load 126 = .ok (.iinc 1 1, 3) := by decide +kernel
theorem dX9_load_129 : decode cX9_load 129 = .ok (.goto (-69), 3) := by decide +kernel
theorem dX9_load_132 : decode cX9_load 132 = .ok (.aload_n 0, 1) := by decide +kernel
theorem dX9_load_133 : decode cX9_load 133 = .ok (.getfield 33, 3) := by decide +kernel
theorem dX9_load_136 : decode cX9_load 136 = .ok (.iconst 0, 1) := by decide +kernel
theorem dX9_load_137 : decode cX9_load 137 = .ok (.putfield 301, 3) := by decide +kernel
theorem dX9_load_140 : decode cX9_load 140 = .ok (.aload_n 0, 1) := by decide +kernel
theorem dX9_load_141 : decode cX9_load 141 = .ok (.getfield 10, 3) := by decide +kernel
theorem dX9_load_144 : decode cX9_load 144 = .ok (.getfield 91, 3) := by decide +kernel
theorem dX9_load_147 : decode cX9_load 147 = .ok (.getfield 95, 3) := by decide +kernel
theorem dX9_load_150 : decode cX9_load 150 = .ok (.getfield 101, 3) := by decide +kernel
theorem dX9_load_153 : decode cX9_load 153 = .ok (.ireturn, 1) := by decide +kernel
set_option maxRecDepth 20000 in
theorem ggX9_undo_X1_takeBack : GoodIn wsX9_undo wsX1_takeBack := goodIn_r _ [8, 9, 10, 11, 12, 13, 14, 15, 16, 17, 18, 19, 20, 21, 22, 23, 24, 25, 26, 27, 28, 29, 30, 31, 32, 33, 34, 35, 36, 37, 38, 39, 40, 41, 42, 43, 44, 45, 46, 47, 48, 49, 50, 51, 52, 53, 54, 55, 56, 57, 58, 59, 60, 61, 62, 63, 64, 65, 66, 67, 68, 69, 70, 71, 72, 73, 74, 75, 76, 77, 78, 79, 80, 81, 82, 83, 84, 85, 86, 92, 93, 94, 95, 96, 97, 98, 99, 100, 101, 102, 103, 104, 105, 106, 107, 108, 109, 110, 111, 112, 113, 114, 115, 116, 117, 118, 119, 120, 121, 122, 123, 124, 125, 126, 127, 128, 129, 130] (by decide +kernel) (by decide +kernel)
set_option maxRecDepth 20000 in
theorem gX9_undo_X1_takeBack : GoodIn wsX9_undo (wsV RX9 324 RX1 yX1_takeBack wsX1_takeBack) := goodIn_app (goodIn_of _ (by decide +kernel)) ggX9_undo_X1_takeBack
theorem dX9_undo_0 : decode cX9_undo 0 = .ok (.aload_n 0, 1) := by decide +kernel
theorem dX9_undo_1 : decode cX9_undo 1 = .ok (.getfield 22, 3) := by decide +kernel
theorem dX9_undo_4 : decode cX9_undo 4 = .ok (.getfield 323, 3) := by decide +kernel
theorem dX9_undo_7 : decode cX9_undo 7 = .ok (.ifCond .ne 6, 3) := by decide +kernel
theorem dX9_undo_10 : decode cX9_undo 10 = .ok (.bipush (-5), 2) := by decide +kernel
theorem dX9_undo_12 : decode cX9_undo 12 = .ok (.ireturn, 1) := by decide +kernel
theorem dX9_undo_13 : decode cX9_undo 13 = .ok (.aload_n 0, 1) := by decide +kernel
theorem dX9_undo_14 : decode cX9_undo 14 = .ok (.getfield 22, 3) := by decide +kernel
theorem dX9_undo_17 : decode cX9_undo 17 = .ok (.aload_n 0, 1) := by decide +kernel
theorem dX9_undo_18 : decode cX9_undo 18 = .ok (.getfield 10, 3) := by decide +kernel
theorem dX9_undo_21 : decode cX9_undo 21 = .ok (.invokevirtual 324, 3) := by decide +kernel
theorem dX9_undo_24 : decode cX9_undo 24 = .ok (.aload_n 0, 1) := by decide +kernel
theorem dX9_undo_25 : decode cX9_undo 25 = .ok (.getfield 22, 3) := by decide +kernel
theorem dX9_undo_28 : decode cX9_undo 28 = .ok (.getfield 323, 3) := by decide +kernel
theorem dX9_undo_31 : decode cX9_undo 31 = .ok (.ireturn, 1) := by decide +kernel
set_option maxRecDepth 20000 in
theorem ggX9_save_X9_isBetween : GoodIn wsX9_save wsX9_isBetween := goodIn_r _ [7] (by decide +kernel) (by decide +kernel)
set_option maxRecDepth 20000 in
theorem gX9_save_X9_isBetween : GoodIn wsX9_save (va_wsS RX9 39 yX9_isBetween wsX9_isBetween) := goodIn_app (goodIn_of _ (by decide +kernel)) ggX9_save_X9_isBetween
set_option maxRecDepth 20000 in
theorem ggX9_save_X9_keep : GoodIn wsX9_save wsX9_keep := goodIn_r _ [10, 11, 12, 13, 14, 15, 16, 17, 18, 19, 20, 21, 22, 23, 24, 25, 26, 27, 28, 29, 30, 31, 32, 33, 34, 35, 36, 37, 38, 39, 40, 41, 42, 43, 44, 45, 46, 47, 48, 49, 50, 51, 52, 53, 54, 55, 56, 57, 58, 59, 60, 61, 62, 63, 64, 65, 66, 67, 68, 69, 70, 71, 72, 73, 74, 75, 76, 77, 78, 79, 80, 81, 82, 83, 84, 85, 86, 87, 88, 89, 90, 91, 92, 6, 93, 94, 95, 96, 97, 98, 99, 100, 101, 102, 103, 104, 105, 106, 107, 108, 109, 110, 111, 112, 113, 114, 115, 116, 117, 118, 119, 120, 121, 122, 123, 124, 125, 126, 127, 128, 129, 130, 131, 132, 133, 139, 140, 141, 142, 143, 144, 145, 146, 147, 148, 149, 150, 151, 152, 153, 154, 155, 156, 157, 158, 159, 160, 161, 162, 163, 164, 165, 166, 167, 168, 169, 170, 171, 172, 173, 174] (by decide +kernel) (by decide +kernel)
set_option maxRecDepth 20000 in
theorem gX9_save_X9_keep : GoodIn wsX9_save (va_wsS RX9 327 yX9_keep wsX9_keep) := goodIn_app (goodIn_of _ (by decide +kernel)) ggX9_save_X9_keep
theorem dX9_save_0 : decode cX9_save 0 = .ok (.iload_n 1, 1) := by decide +kernel
theorem dX9_save_1 : decode cX9_save 1 = .ok (.i2l, 1) := by decide +kernel
theorem dX9_save_2 : decode cX9_save 2 = .ok (.lconst 0, 1) := by decide +kernel
theorem dX9_save_3 : decode cX9_save 3 = .ok (.aload_n 0, 1) := by decide +kernel
theorem dX9_save_4 : decode cX9_save 4 = .ok (.getfield 26, 3) := by decide +kernel
theorem dX9_save_7 : decode cX9_save 7 = .ok (.arraylength, 1) := by decide +kernel
theorem dX9_save_8 : decode cX9_save 8 = .ok (.iconst 1, 1) := by decide +kernel
theorem dX9_save_9 : decode cX9_save 9 = .ok (.isub, 1) := by decide +kernel
theorem dX9_save_10 : decode cX9_save 10 = .ok (.i2l, 1) := by decide +kernel
theorem dX9_save_11 : decode cX9_save 11 = .ok (.invokestatic 39, 3) := by decide +kernel
theorem dX9_save_14 : decode cX9_save 14 = .ok (.ifCond .ne 6, 3) := by decide +kernel
theorem dX9_save_17 : decode cX9_save 17 = .ok (.bipush (-2), 2) := by decide +kernel
theorem dX9_save_19 : decode cX9_save 19 = .ok (.ireturn, 1) := by decide +kernel
theorem dX9_save_20 : decode cX9_save 20 = .ok (.aload_n 0, 1) := by decide +kernel
theorem dX9_save_21 : decode cX9_save 21 = .ok (.getfield 26, 3) := by decide +kernel
theorem dX9_save_24 : decode cX9_save 24 = .ok (.iload_n 1, 1) := by decide +kernel
theorem dX9_save_25 : decode cX9_save 25 = .ok (.aload_n 0, 1) := by decide +kernel
theorem dX9_save_26 : decode cX9_save 26 = .ok (.getfield 10, 3) := by decide +kernel
theorem dX9_save_29 : decode cX9_save 29 = .ok (.invokestatic 327, 3) := by decide +kernel
theorem dX9_save_32 : decode cX9_save 32 = .ok (.aload_n 0, 1) := by decide +kernel
theorem dX9_save_33 : decode cX9_save 33 = .ok (.getfield 10, 3) := by decide +kernel
theorem dX9_save_36 : decode cX9_save 36 = .ok (.getfield 147, 3) := by decide +kernel
theorem dX9_save_39 : decode cX9_save 39 = .ok (.l2i, 1) := by decide +kernel
theorem dX9_save_40 : decode cX9_save 40 = .ok (.ireturn, 1) := by decide +kernel
set_option maxRecDepth 20000 in
theorem ggX9_restore_X9_isBetween : GoodIn wsX9_restore wsX9_isBetween := goodIn_r _ [8] (by decide +kernel) (by decide +kernel)
set_option maxRecDepth 20000 in
theorem gX9_restore_X9_isBetween : GoodIn wsX9_restore (va_wsS RX9 39 yX9_isBetween wsX9_isBetween) := goodIn_app (goodIn_of _ (by decide +kernel)) ggX9_restore_X9_isBetween
set_option maxRecDepth 20000 in
theorem ggX9_restore_X1_record : GoodIn wsX9_restore wsX1_record := goodIn_r _ [13, 14, 15, 16, 17, 18, 19, 20, 21, 7, 22, 23, 24, 25, 26, 27, 28, 29, 30, 31, 32, 33, 34, 35, 36, 37, 38, 39, 40, 41, 42, 43, 44, 45, 46, 47, 48, 49, 50, 51, 52, 53, 54, 55, 56, 57, 58, 59, 60, 61, 62, 63, 64, 65, 66, 67, 68, 69, 70, 71, 72, 73, 74, 75, 76, 77, 78, 79, 80, 81, 82, 83, 84, 85, 86, 87, 88, 89, 90, 91, 92, 93, 94, 95, 96, 97, 98, 99, 100, 101, 102, 103, 104, 105, 106, 107, 108, 109, 110, 111, 112, 113, 114, 115, 116, 117, 118, 119, 120, 121, 122, 123, 124, 125, 126, 127, 128, 129, 130, 131, 132, 133, 134, 135, 136, 137, 138, 139, 140, 141, 142, 143, 144, 158, 159, 160, 150, 151, 152, 153, 154, 155, 156, 157, 161, 162, 163, 164, 165, 166, 167, 168, 169, 170, 171, 172, 173, 174, 175, 176, 177, 178, 179, 180, 181, 182, 183, 184, 185, 186, 187, 188] (by decide +kernel) (by decide +kernel)
set_option maxRecDepth 20000 in
theorem gX9_restore_X1_record : GoodIn wsX9_restore (wsV RX9 54 RX1 yX1_record wsX1_record) := goodIn_app (goodIn_of _ (by decide +kernel)) ggX9_restore_X1_record
set_option maxRecDepth 20000 in
theorem ggX9_restore_X7_copyFrom : GoodIn wsX9_restore wsX7_copyFrom := goodIn_r _ [99, 33, 37, 41, 45, 49, 100, 101, 102, 103, 7, 104, 105, 106, 107, 36, 108, 56, 109, 110, 111, 112, 113, 114, 115, 55, 116, 64, 65, 66, 117, 118, 119, 120, 40, 121, 70, 122, 123, 124, 125, 71, 73, 126, 127, 128, 44, 129, 80, 81, 82, 130, 131, 132, 133, 134, 135, 79, 136, 88, 137, 138, 139, 140, 48, 141, 92, 94, 142, 143, 144, 150, 151, 152, 153, 154, 155, 156, 157, 161, 162, 163, 164, 165, 183, 184, 185, 186, 166, 167, 168, 169, 170, 171, 172, 173, 174, 175, 176, 177, 178, 187, 188, 179, 180, 181, 182] (by decide +kernel) (by decide +kernel)
set_option maxRecDepth 20000 in
theorem gX9_restore_X7_copyFrom : GoodIn wsX9_restore (wsV RX9 331 RX7 yX7_copyFrom wsX7_copyFrom) := goodIn_app (goodIn_of _ (by decide +kernel)) ggX9_restore_X7_copyFrom
theorem dX9_restore_0 : decode cX9_restore 0 = .ok (.iload_n 1, 1) := by decide +kernel
theorem dX9_restore_1 : decode cX9_restore 1 = .ok (.i2l, 1) := by decide +kernel
theorem dX9_restore_2 : decode cX9_restore 2 = .ok (.lconst 0, 1) := by decide +kernel
theorem dX9_restore_3 : decode cX9_restore 3 = .ok (.aload_n 0, 1) := by decide +kernel
theorem dX9_restore_4 : decode cX9_restore 4 = .ok (.getfield 26, 3) := by decide +kernel
theorem dX9_restore_7 : decode cX9_restore 7 = .ok (.arraylength, 1) := by decide +kernel
theorem dX9_restore_8 : decode cX9_restore 8 = .ok (.iconst 1, 1) := by decide +kernel
theorem dX9_restore_9 : decode cX9_restore 9 = .ok (.isub, 1) := by decide +kernel
theorem dX9_restore_10 : decode cX9_restore 10 = .ok (.i2l, 1) := by decide +kernel
theorem dX9_restore_11 : decode cX9_restore 11 = .ok (.invokestatic 39, 3) := by decide +kernel
theorem dX9_restore_14 : decode cX9_restore 14 = .ok (.ifCond .ne 6, 3) := by decide +kernel
theorem dX9_restore_17 : decode cX9_restore 17 = .ok (.bipush (-2), 2) := by decide +kernel
theorem dX9_restore_19 : decode cX9_restore 19 = .ok (.ireturn, 1) := by decide +kernel
theorem dX9_restore_20 : decode cX9_restore 20 = .ok (.aload_n 0, 1) := by decide +kernel
theorem dX9_restore_21 : decode cX9_restore 21 = .ok (.getfield 26, 3) := by decide +kernel
theorem dX9_restore_24 : decode cX9_restore 24 = .ok (.iload_n 1, 1) := by decide +kernel
theorem dX9_restore_25 : decode cX9_restore 25 = .ok (.aaload, 1) := by decide +kernel
theorem dX9_restore_26 : decode cX9_restore 26 = .ok (.astore_n 2, 1) := by decide +kernel
theorem dX9_restore_27 : decode cX9_restore 27 = .ok (.aload_n 2, 1) := by decide +kernel
theorem dX9_restore_28 : decode cX9_restore 28 = .ok (.ifnonnull 6, 3) := by decide +kernel
theorem dX9_restore_31 : decode cX9_restore 31 = .ok (.bipush (-5), 2) := by decide +kernel
theorem dX9_restore_33 : decode cX9_restore 33 = .ok (.ireturn, 1) := by decide +kernel
theorem dX9_restore_34 : decode cX9_restore 34 = .ok (.aload_n 0, 1) := by decide +kernel
theorem dX9_restore_35 : decode cX9_restore 35 = .ok (.getfield 22, 3) := by decide +kernel
theorem dX9_restore_38 : decode cX9_restore 38 = .ok (.aload_n 0, 1) := by decide +kernel
theorem dX9_restore_39 : decode cX9_restore 39 = .ok (.getfield 10, 3) := by decide +kernel
theorem dX9_restore_42 : decode cX9_restore 42 = .ok (.invokevirtual 54, 3) := by decide +kernel
theorem dX9_restore_45 : decode cX9_restore 45 = .ok (.aload_n 0, 1) := by decide +kernel
theorem dX9_restore_46 : decode cX9_restore 46 = .ok (.getfield 10, 3) := by decide +kernel
theorem dX9_restore_49 : decode cX9_restore 49 = .ok (.aload_n 2, 1) := by decide +kernel
theorem dX9_restore_50 : decode cX9_restore 50 = .ok (.invokevirtual 331, 3) := by decide +kernel
theorem dX9_restore_53 : decode cX9_restore 53 = .ok (.aload_n 0, 1) := by decide +kernel
theorem dX9_restore_54 : decode cX9_restore 54 = .ok (.getfield 10, 3) := by decide +kernel
theorem dX9_restore_57 : decode cX9_restore 57 = .ok (.getfield 147, 3) := by decide +kernel
theorem dX9_restore_60 : decode cX9_restore 60 = .ok (.l2i, 1) := by decide +kernel
theorem dX9_restore_61 : decode cX9_restore 61 = .ok (.ireturn, 1) := by decide +kernel
set_option maxRecDepth 20000 in
theorem ggX9_voyageNumber_X5_minutesLeft : GoodIn wsX9_voyageNumber wsX5_minutesLeft := goodIn_r _ [15, 16, 17, 18, 19, 20, 21, 45, 46, 47, 48, 49, 50, 51, 52, 53] (by decide +kernel) (by decide +kernel)
set_option maxRecDepth 20000 in
theorem gX9_voyageNumber_X5_minutesLeft : GoodIn wsX9_voyageNumber (wsV RX9 334 RX5 yX5_minutesLeft wsX5_minutesLeft) := goodIn_app (goodIn_of _ (by decide +kernel)) ggX9_voyageNumber_X5_minutesLeft
set_option maxRecDepth 20000 in
theorem ggX9_voyageNumber_X7_minutesSinceDamped : GoodIn wsX9_voyageNumber wsX7_minutesSinceDamped := goodIn_r _ [26, 27, 28, 29, 30, 31, 37, 38, 39, 40, 41, 42, 43, 44, 54, 55, 56, 57, 58, 59, 60] (by decide +kernel) (by decide +kernel)
set_option maxRecDepth 20000 in
theorem gX9_voyageNumber_X7_minutesSinceDamped : GoodIn wsX9_voyageNumber (wsV RX9 164 RX7 yX7_minutesSinceDamped wsX7_minutesSinceDamped) := goodIn_app (goodIn_of _ (by decide +kernel)) ggX9_voyageNumber_X7_minutesSinceDamped
theorem dX9_voyageNumber_0 : decode cX9_voyageNumber 0 = .ok (.iload_n 1, 1) := by decide +kernel
theorem dX9_voyageNumber_1 : decode cX9_voyageNumber 1 = .ok (.tableswitch 138 0 7 #[47, 56, 68, 80, 94, 106, 118, 129], 47) := by decide +kernel
theorem dX9_voyageNumber_48 : decode cX9_voyageNumber 48 = .ok (.aload_n 0, 1) := by decide +kernel
theorem dX9_voyageNumber_49 : decode cX9_voyageNumber 49 = .ok (.getfield 10, 3) := by decide +kernel
theorem dX9_voyageNumber_52 : decode cX9_voyageNumber 52 = .ok (.getfield 147, 3) := by decide +kernel
theorem dX9_voyageNumber_55 : decode cX9_voyageNumber 55 = .ok (.l2i, 1) := by decide +kernel
theorem dX9_voyageNumber_56 : decode cX9_voyageNumber 56 = .ok (.ireturn, 1) := by decide +kernel
theorem dX9_voyageNumber_57 : decode cX9_voyageNumber 57 = .ok (.aload_n 0, 1) := by decide +kernel
theorem dX9_voyageNumber_58 : decode cX9_voyageNumber 58 = .ok (.getfield 10, 3) := by decide +kernel
theorem dX9_voyageNumber_61 : decode cX9_voyageNumber 61 = .ok (.getfield 91, 3) := by decide +kernel
theorem dX9_voyageNumber_64 : decode cX9_voyageNumber 64 = .ok (.getfield 134, 3) := by decide +kernel
theorem dX9_voyageNumber_67 : decode cX9_voyageNumber 67 = .ok (.l2i, 1) := by decide +kernel
theorem dX9_voyageNumber_68 : decode cX9_voyageNumber 68 = .ok (.ireturn, 1) := by decide +kernel
theorem dX9_voyageNumber_69 : decode cX9_voyageNumber 69 = .ok (.aload_n 0, 1) := by decide +kernel
theorem dX9_voyageNumber_70 : decode cX9_voyageNumber 70 = .ok (.getfield 10, 3) := by decide +kernel
theorem dX9_voyageNumber_73 : decode cX9_voyageNumber 73 = .ok (.getfield 91, 3) := by decide +kernel
theorem dX9_voyageNumber_76 : decode cX9_voyageNumber 76 = .ok (.getfield 137, 3) := by decide +kernel
theorem dX9_voyageNumber_79 : decode cX9_voyageNumber 79 = .ok (.l2i, 1) := by decide +kernel
theorem dX9_voyageNumber_80 : decode cX9_voyageNumber 80 = .ok (.ireturn, 1) := by decide +kernel
theorem dX9_voyageNumber_81 : decode cX9_voyageNumber 81 = .ok (.aload_n 0, 1) := by decide +kernel
theorem dX9_voyageNumber_82 : decode cX9_voyageNumber 82 = .ok (.getfield 10, 3) := by decide +kernel
theorem dX9_voyageNumber_85 : decode cX9_voyageNumber 85 = .ok (.getfield 91, 3) := by decide +kernel
theorem dX9_voyageNumber_88 : decode cX9_voyageNumber 88 = .ok (.getfield 95, 3) := by decide +kernel
theorem dX9_voyageNumber_91 : decode cX9_voyageNumber 91 = .ok (.getfield 101, 3) := by decide +kernel
theorem dX9_voyageNumber_94 : decode cX9_voyageNumber 94 = .ok (.ireturn, 1) := by decide +kernel
theorem dX9_voyageNumber_95 : decode cX9_voyageNumber 95 = .ok (.aload_n 0, 1) := by decide +kernel
theorem dX9_voyageNumber_96 : decode cX9_voyageNumber 96 = .ok (.getfield 10, 3) := by decide +kernel
theorem dX9_voyageNumber_99 : decode cX9_voyageNumber 99 = .ok (.getfield 91, 3) := by decide +kernel
theorem dX9_voyageNumber_102 : decode cX9_voyageNumber 102 = .ok (.invokevirtual 334, 3) := by decide +kernel
theorem dX9_voyageNumber_105 : decode cX9_voyageNumber 105 = .ok (.l2i, 1) := by decide +kernel
theorem dX9_voyageNumber_106 : decode cX9_voyageNumber 106 = .ok (.ireturn, 1) := by decide +kernel
theorem dX9_voyageNumber_107 : decode cX9_voyageNumber 107 = .ok (.aload_n 0, 1) := by decide +kernel
theorem dX9_voyageNumber_108 : decode cX9_voyageNumber 108 = .ok (.getfield 10, 3) := by decide +kernel
theorem dX9_voyageNumber_111 : decode cX9_voyageNumber 111 = .ok (.getfield 91, 3) := by decide +kernel
theorem dX9_voyageNumber_114 : decode cX9_voyageNumber 114 = .ok (.getfield 337, 3) := by decide +kernel
theorem dX9_voyageNumber_117 : decode cX9_voyageNumber 117 = .ok (.l2i, 1) := by decide +kernel
theorem dX9_voyageNumber_118 : decode cX9_voyageNumber 118 = .ok (.ireturn, 1) := by decide +kernel
theorem dX9_voyageNumber_119 : decode cX9_voyageNumber 119 = .ok (.aload_n 0, 1) := by decide +kernel
theorem dX9_voyageNumber_120 : decode cX9_voyageNumber 120 = .ok (.getfield 10, 3) := by decide +kernel
theorem dX9_voyageNumber_123 : decode cX9_voyageNumber 123 = .ok (.getfield 74, 3) := by decide +kernel
theorem dX9_voyageNumber_126 : decode cX9_voyageNumber 126 = .ok (.getfield 170, 3) := by decide +kernel
theorem dX9_voyageNumber_129 : decode cX9_voyageNumber 129 = .ok (.ireturn, 1) := by decide +kernel
theorem dX9_voyageNumber_130 : decode cX9_voyageNumber 130 = .ok (.aload_n 0, 1) := by decide +kernel
theorem dX9_voyageNumber_131 : decode cX9_voyageNumber 131 = .ok (.getfield 10, 3) := by decide +kernel
theorem dX9_voyageNumber_134 : decode cX9_voyageNumber 134 = .ok (.invokevirtual 164, 3) := by decide +kernel
theorem dX9_voyageNumber_137 : decode cX9_voyageNumber 137 = .ok (.l2i, 1) := by decide +kernel
theorem dX9_voyageNumber_138 : decode cX9_voyageNumber 138 = .ok (.ireturn, 1) := by decide +kernel
theorem dX9_voyageNumber_139 : decode cX9_voyageNumber 139 = .ok (.bipush (-2), 2) := by decide +kernel
theorem dX9_voyageNumber_141 : decode cX9_voyageNumber 141 = .ok (.ireturn, 1) := by decide +kernel
theorem dX9_trainerNumber_0 : decode cX9_trainerNumber 0 = .ok (.iload_n 1, 1) := by decide +kernel
theorem dX9_trainerNumber_1 : decode cX9_trainerNumber 1 = .ok (.tableswitch 147 13 21 #[51, 65, 76, 90, 101, 109, 120, 131, 139], 51) := by decide +kernel
theorem dX9_trainerNumber_52 : decode cX9_trainerNumber 52 = .ok (.aload_n 0, 1) := by decide +kernel
theorem dX9_trainerNumber_53 : decode cX9_trainerNumber 53 = .ok (.getfield 10, 3) := by decide +kernel
theorem dX9_trainerNumber_56 : decode cX9_trainerNumber 56 = .ok (.getfield 150, 3) := by decide +kernel
theorem dX9_trainerNumber_59 : decode cX9_trainerNumber 59 = .ok (.getfield 185, 3) := by decide +kernel
theorem dX9_trainerNumber_62 : decode cX9_trainerNumber 62 = .ok (.getfield 189, 3) := by decide +kernel
theorem dX9_trainerNumber_65 : decode cX9_trainerNumber 65 = .ok (.ireturn, 1) := by decide +kernel
theorem dX9_trainerNumber_66 : decode cX9_trainerNumber 66 = .ok (.aload_n 0, 1) := by decide +kernel
theorem dX9_trainerNumber_67 : decode cX9_trainerNumber 67 = .ok (.getfield 10, 3) := by decide +kernel
theorem dX9_trainerNumber_70 : decode cX9_trainerNumber 70 = .ok (.getfield 150, 3) := by decide +kernel
theorem dX9_trainerNumber_73 : decode cX9_trainerNumber 73 = .ok (.getfield 154, 3) := by decide +kernel
theorem dX9_trainerNumber_76 : decode cX9_trainerNumber 76 = .ok (.ireturn, 1) := by decide +kernel
theorem dX9_trainerNumber_77 : decode cX9_trainerNumber 77 = .ok (.aload_n 0, 1) := by decide +kernel
theorem dX9_trainerNumber_78 : decode cX9_trainerNumber 78 = .ok (.getfield 10, 3) := by decide +kernel
theorem dX9_trainerNumber_81 : decode cX9_trainerNumber 81 = .ok (.getfield 115, 3) := by decide +kernel
theorem dX9_trainerNumber_84 : decode cX9_trainerNumber 84 = .ok (.getfield 246, 3) := by decide +kernel
theorem dX9_trainerNumber_87 : decode cX9_trainerNumber 87 = .ok (.getfield 189, 3) := by decide +kernel
theorem dX9_trainerNumber_90 : decode cX9_trainerNumber 90 = .ok (.ireturn, 1) := by decide +kernel
theorem dX9_trainerNumber_91 : decode cX9_trainerNumber 91 = .ok (.aload_n 0, 1) := by decide +kernel
theorem dX9_trainerNumber_92 : decode cX9_trainerNumber 92 = .ok (.getfield 10, 3) := by decide +kernel
theorem dX9_trainerNumber_95 : decode cX9_trainerNumber 95 = .ok (.getfield 115, 3) := by decide +kernel
theorem dX9_trainerNumber_98 : decode cX9_trainerNumber 98 = .ok (.getfield 340, 3) := by decide +kernel
theorem dX9_trainerNumber_101 : decode cX9_trainerNumber 101 = .ok (.ireturn, 1) := by decide +kernel
theorem dX9_trainerNumber_102 : decode cX9_trainerNumber 102 = .ok (.aload_n 0, 1) := by decide +kernel
theorem dX9_trainerNumber_103 : decode cX9_trainerNumber 103 = .ok (.getfield 10, 3) := by decide +kernel
theorem dX9_trainerNumber_106 : decode cX9_trainerNumber 106 = .ok (.getfield 223, 3) := by decide +kernel
theorem dX9_trainerNumber_109 : decode cX9_trainerNumber 109 = .ok (.ireturn, 1) := by decide +kernel
theorem dX9_trainerNumber_110 : decode cX9_trainerNumber 110 = .ok (.aload_n 0, 1) := by decide +kernel
theorem dX9_trainerNumber_111 : decode cX9_trainerNumber 111 = .ok (.getfield 10, 3) := by decide +kernel
theorem dX9_trainerNumber_114 : decode cX9_trainerNumber 114 = .ok (.getfield 74, 3) := by decide +kernel
theorem dX9_trainerNumber_117 : decode cX9_trainerNumber 117 = .ok (.getfield 182, 3) := by decide +kernel
theorem dX9_trainerNumber_120 : decode cX9_trainerNumber 120 = .ok (.ireturn, 1) := by decide +kernel
theorem dX9_trainerNumber_121 : decode cX9_trainerNumber 121 = .ok (.aload_n 0, 1) := by decide +kernel
theorem dX9_trainerNumber_122 : decode cX9_trainerNumber 122 = .ok (.getfield 10, 3) := by decide +kernel
theorem dX9_trainerNumber_125 : decode cX9_trainerNumber 125 = .ok (.getfield 115, 3) := by decide +kernel
theorem dX9_trainerNumber_128 : decode cX9_trainerNumber 128 = .ok (.getfield 119, 3) := by decide +kernel
theorem dX9_trainerNumber_131 : decode cX9_trainerNumber 131 = .ok (.ireturn, 1) := by decide +kernel
theorem dX9_trainerNumber_132 : decode cX9_trainerNumber 132 = .ok (.aload_n 0, 1) := by decide +kernel
theorem dX9_trainerNumber_133 : decode cX9_trainerNumber 133 = .ok (.getfield 33, 3) := by decide +kernel
theorem dX9_trainerNumber_136 : decode cX9_trainerNumber 136 = .ok (.getfield 301, 3) := by decide +kernel
theorem dX9_trainerNumber_139 : decode cX9_trainerNumber 139 = .ok (.ireturn, 1) := by decide +kernel
theorem dX9_trainerNumber_140 : decode cX9_trainerNumber 140 = .ok (.aload_n 0, 1) := by decide +kernel
theorem dX9_trainerNumber_141 : decode cX9_trainerNumber 141 = .ok (.getfield 22, 3) := by decide +kernel
theorem dX9_trainerNumber_144 : decode cX9_trainerNumber 144 = .ok (.getfield 323, 3) := by decide +kernel
theorem dX9_trainerNumber_147 : decode cX9_trainerNumber 147 = .ok (.ireturn, 1) := by decide +kernel
theorem dX9_trainerNumber_148 : decode cX9_trainerNumber 148 = .ok (.bipush (-2), 2) := by decide +kernel
theorem dX9_trainerNumber_150 : decode cX9_trainerNumber 150 = .ok (.ireturn, 1) := by decide +kernel
set_option maxRecDepth 20000 in
theorem ggX9_minutesUntilCalm_X7_copyFrom : GoodIn wsX9_minutesUntilCalm wsX7_copyFrom := goodIn_r _ [9, 10, 11, 12, 13, 14, 15, 16, 17, 18, 19, 20, 21, 22, 23, 24, 25, 26, 27, 28, 29, 30, 31, 32, 33, 34, 35, 36, 37, 38, 39, 40, 41, 42, 43, 44, 45, 46, 47, 48, 49, 50, 51, 52, 53, 54, 55, 56, 57, 58, 59, 60, 61, 62, 63, 64, 65, 66, 67, 68, 69, 70, 71, 72, 73, 74, 75, 76, 77, 78, 79, 190, 191, 192, 193, 194, 195, 196, 197, 205, 206, 207, 208, 209, 210, 211, 212, 213, 198, 199, 200, 201, 202, 203, 204, 214, 215, 216, 217, 218, 219, 220, 221, 222, 223, 224, 225] (by decide +kernel) (by decide +kernel)
set_option maxRecDepth 20000 in
theorem gX9_minutesUntilCalm_X7_copyFrom : GoodIn wsX9_minutesUntilCalm (wsV RX9 331 RX7 yX7_copyFrom wsX7_copyFrom) := goodIn_app (goodIn_of _ (by decide +kernel)) ggX9_minutesUntilCalm_X7_copyFrom
set_option maxRecDepth 20000 in
theorem ggX9_minutesUntilCalm_X7_isCalm : GoodIn wsX9_minutesUntilCalm wsX7_isCalm := goodIn_r _ [83, 12, 84, 85, 86, 87, 88, 89, 90, 91, 92, 8, 93, 10, 11, 94, 95, 96, 97, 98, 99, 100, 19, 101, 102, 103, 104, 105, 106, 107, 108, 109, 110, 111, 112, 113, 114, 115, 116, 117, 118, 119, 120, 121, 122, 123, 190, 191, 192, 193, 194, 195, 196, 197, 198, 199, 200, 201, 202, 203, 204, 205, 206, 207, 208, 209] (by decide +kernel) (by decide +kernel)
set_option maxRecDepth 20000 in
theorem gX9_minutesUntilCalm_X7_isCalm : GoodIn wsX9_minutesUntilCalm (wsV RX9 343 RX7 yX7_isCalm wsX7_isCalm) := goodIn_app (goodIn_of _ (by decide +kernel)) ggX9_minutesUntilCalm_X7_isCalm
set_option maxRecDepth 20000 in
theorem ggX9_minutesUntilCalm_X7_liveMinute : GoodIn wsX9_minutesUntilCalm wsX7_liveMinute := goodIn_r _ [127, 12, 84, 11, 94, 10, 13, 15, 128, 129, 106, 19, 107, 108, 86, 87, 88, 109, 117, 118, 119, 120, 110, 111, 112, 113, 114, 115, 100, 101, 90, 91, 92, 8, 93, 95, 96, 97, 98, 99, 102, 103, 104, 105, 116, 121, 122, 123, 130, 131, 132, 43, 133, 47, 46, 134, 135, 50, 136, 137, 138, 139, 140, 141, 142, 143, 144, 145, 146, 147, 148, 55, 149, 61, 57, 58, 59, 60, 62, 150, 151, 152, 66, 153, 68, 69, 154, 155, 156, 157, 158, 159, 160, 161, 24, 162, 27, 29, 163, 28, 164, 165, 30, 26, 166, 167, 168, 169, 170, 171, 172, 173, 174, 34, 175, 39, 36, 37, 38, 176, 177, 178, 179, 180, 181, 182, 183, 184, 190, 191, 192, 193, 194, 195, 196, 197, 198, 199, 200, 201, 202, 203, 204, 205, 206, 207, 208, 209, 214, 215, 216, 217, 218, 219, 220, 221, 210, 211, 212, 213] (by decide +kernel) (by decide +kernel)
set_option maxRecDepth 20000 in
theorem gX9_minutesUntilCalm_X7_liveMinute : GoodIn wsX9_minutesUntilCalm (wsV RX9 159 RX7 yX7_liveMinute wsX7_liveMinute) := goodIn_app (goodIn_of _ (by decide +kernel)) ggX9_minutesUntilCalm_X7_liveMinute
theorem dX9_minutesUntilCalm_0 : decode cX9_minutesUntilCalm 0 = .ok (.aload_n 0, 1) := by decide +kernel
theorem dX9_minutesUntilCalm_1 : decode cX9_minutesUntilCalm 1 = .ok (.getfield 16, 3) := by decide +kernel
theorem dX9_minutesUntilCalm_4 : decode cX9_minutesUntilCalm 4 = .ok (.aload_n 0, 1) := by decide +kernel
theorem dX9_minutesUntilCalm_5 : decode cX9_minutesUntilCalm 5 = .ok (.getfield 10, 3) := by decide +kernel
theorem dX9_minutesUntilCalm_8 : decode cX9_minutesUntilCalm 8 = .ok (.invokevirtual 331, 3) := by decide +kernel
theorem dX9_minutesUntilCalm_11 : decode cX9_minutesUntilCalm 11 = .ok (.aload_n 0, 1) := by decide +kernel
theorem dX9_minutesUntilCalm_12 : decode cX9_minutesUntilCalm 12 = .ok (.getfield 16, 3) := by decide +kernel
theorem dX9_minutesUntilCalm_15 : decode cX9_minutesUntilCalm 15 = .ok (.getfield 74, 3) := by decide +kernel
theorem dX9_minutesUntilCalm_18 : decode cX9_minutesUntilCalm 18 = .ok (.iload_n 1, 1) := by decide +kernel
theorem dX9_minutesUntilCalm_19 : decode cX9_minutesUntilCalm 19 = .ok (.putfield 170, 3) := by decide +kernel
theorem dX9_minutesUntilCalm_22 : decode cX9_minutesUntilCalm 22 = .ok (.iconst 0, 1) := by decide +kernel
theorem dX9_minutesUntilCalm_23 : decode cX9_minutesUntilCalm 23 = .ok (.istore 4, 2) := by decide +kernel
theorem dX9_minutesUntilCalm_25 : decode cX9_minutesUntilCalm 25 = .ok (.iload 4, 2) := by decide +kernel
theorem dX9_minutesUntilCalm_27 : decode cX9_minutesUntilCalm 27 = .ok (.iload_n 3, 1) := by decide +kernel
theorem dX9_minutesUntilCalm_28 : decode cX9_minutesUntilCalm 28 = .ok (.if_icmp .gt 31, 3) := by decide +kernel
theorem dX9_minutesUntilCalm_31 : decode cX9_minutesUntilCalm 31 = .ok (.aload_n 0, 1) := by decide +kernel
theorem dX9_minutesUntilCalm_32 : decode cX9_minutesUntilCalm 32 = .ok (.getfield 16, 3) := by decide +kernel
theorem dX9_minutesUntilCalm_35 : decode cX9_minutesUntilCalm 35 = .ok (.iload_n 2, 1) := by decide +kernel
theorem dX9_minutesUntilCalm_36 : decode cX9_minutesUntilCalm 36 = .ok (.i2l, 1) := by decide +kernel
theorem dX9_minutesUntilCalm_37 : decode cX9_minutesUntilCalm 37 = .ok (.invokevirtual 343, 3) := by decide +kernel
theorem dX9_minutesUntilCalm_40 : decode cX9_minutesUntilCalm 40 = .ok (.ifCond .eq 6, 3) := by decide +kernel
theorem dX9_minutesUntilCalm_43 : decode cX9_minutesUntilCalm 43 = .ok (.iload 4, 2) := by decide +kernel
theorem dX9_minutesUntilCalm_45 : decode cX9_minutesUntilCalm 45 = .ok (.ireturn, 1) := by decide +kernel
theorem dX9_minutesUntilCalm_46 : decode cX9_minutesUntilCalm 46 = .ok (.aload_n 0, 1) := by decide +kernel
theorem dX9_minutesUntilCalm_47 : decode cX9_minutesUntilCalm 47 = .ok (.getfield 16, 3) := by decide +kernel
theorem dX9_minutesUntilCalm_50 : decode cX9_minutesUntilCalm 50 = .ok (.invokevirtual 159, 3) := by decide +kernel
theorem dX9_minutesUntilCalm_53 : decode cX9_minutesUntilCalm 53 = .ok (.iinc 4 1, 3) := by decide +kernel
theorem dX9_minutesUntilCalm_56 : decode cX9_minutesUntilCalm 56 = .ok (.goto (-31), 3) := by decide +kernel
theorem dX9_minutesUntilCalm_59 : decode cX9_minutesUntilCalm 59 = .ok (.bipush (-6), 2) := by decide +kernel
theorem dX9_minutesUntilCalm_61 : decode cX9_minutesUntilCalm 61 = .ok (.ireturn, 1) := by decide +kernel
set_option maxRecDepth 20000 in
theorem ggX9_countOfSigns_X9_isBetween : GoodIn wsX9_countOfSigns wsX9_isBetween := goodIn_r _ [7] (by decide +kernel) (by decide +kernel)
set_option maxRecDepth 20000 in
theorem gX9_countOfSigns_X9_isBetween : GoodIn wsX9_countOfSigns (va_wsS RX9 39 yX9_isBetween wsX9_isBetween) := goodIn_app (goodIn_of _ (by decide +kernel)) ggX9_countOfSigns_X9_isBetween
theorem dX9_countOfSigns_0 : decode cX9_countOfSigns 0 = .ok (.iconst 0, 1) := by decide +kernel
theorem dX9_countOfSigns_1 : decode cX9_countOfSigns 1 = .ok (.istore_n 2, 1) := by decide +kernel
theorem dX9_countOfSigns_2 : decode cX9_countOfSigns 2 = .ok (.lload_n 0, 1) := by decide +kernel
theorem dX9_countOfSigns_3 : decode cX9_countOfSigns 3 = .ok (.lstore_n 3, 1) := by decide +kernel
theorem dX9_countOfSigns_4 : decode cX9_countOfSigns 4 = .ok (.iconst 0, 1) := by decide +kernel
theorem dX9_countOfSigns_5 : decode cX9_countOfSigns 5 = .ok (.istore 5, 2) := by decide +kernel
theorem dX9_countOfSigns_7 : decode cX9_countOfSigns 7 = .ok (.iload 5, 2) := by decide +kernel
theorem dX9_countOfSigns_9 : decode cX9_countOfSigns 9 = .ok (.bipush 8, 2) := by decide +kernel
theorem dX9_countOfSigns_11 : decode cX9_countOfSigns 11 = .ok (.if_icmp .ge 46, 3) := by decide +kernel
theorem dX9_countOfSigns_14 : decode cX9_countOfSigns 14 = .ok (.lload_n 3, 1) := by decide +kernel
theorem dX9_countOfSigns_15 : decode cX9_countOfSigns 15 = .ok (.ldc2_w 304, 3) := by decide +kernel
theorem dX9_countOfSigns_18 : decode cX9_countOfSigns 18 = .ok (.land, 1) := by decide +kernel
theorem dX9_countOfSigns_19 : decode cX9_countOfSigns 19 = .ok (.lconst 0, 1) := by decide +kernel
theorem dX9_countOfSigns_20 : decode cX9_countOfSigns 20 = .ok (.lcmp, 1) := by decide +kernel
theorem dX9_countOfSigns_21 : decode cX9_countOfSigns 21 = .ok (.ifCond .eq 36, 3) := by decide +kernel
theorem dX9_countOfSigns_24 : decode cX9_countOfSigns 24 = .ok (.lload_n 3, 1) := by decide +kernel
theorem dX9_countOfSigns_25 : decode cX9_countOfSigns 25 = .ok (.ldc2_w 304, 3) := by decide +kernel
theorem dX9_countOfSigns_28 : decode cX9_countOfSigns 28 = .ok (.land, 1) := by decide +kernel
theorem dX9_countOfSigns_29 : decode cX9_countOfSigns 29 = .ok (.ldc2_w 347, 3) := by decide +kernel
theorem dX9_countOfSigns_32 : decode cX9_countOfSigns 32 = .ok (.ldc2_w 349, 3) := by decide +kernel
theorem dX9_countOfSigns_35 : decode cX9_countOfSigns 35 = .ok (.invokestatic 39, 3) := by decide +kernel
theorem dX9_countOfSigns_38 : decode cX9_countOfSigns 38 = .ok (.ifCond .ne 5, 3) := by decide +kernel
theorem dX9_countOfSigns_41 : decode cX9_countOfSigns 41 = .ok (.iconst 0, 1) := by decide +kernel
theorem dX9_countOfSigns_42 : decode cX9_countOfSigns 42 = .ok (.ireturn, 1) := by decide +kernel
theorem dX9_countOfSigns_43 : decode cX9_countOfSigns 43 = .ok (.iinc 2 1, 3) := by decide +kernel
theorem dX9_countOfSigns_46 : decode cX9_countOfSigns 46 = .ok (.lload_n 3, 1) := by decide +kernel
theorem dX9_countOfSigns_47 : decode cX9_countOfSigns 47 = .ok (.bipush 8, 2) := by decide +kernel
theorem dX9_countOfSigns_49 : decode cX9_countOfSigns 49 = .ok (.lushr, 1) := by decide +kernel
theorem dX9_countOfSigns_50 : decode cX9_countOfSigns 50 = .ok (.lstore_n 3, 1) := by decide +kernel
theorem dX9_countOfSigns_51 : decode cX9_countOfSigns 51 = .ok (.iinc 5 1, 3) := by decide +kernel
theorem dX9_countOfSigns_54 : decode cX9_countOfSigns 54 = .ok (.goto (-47), 3) := by decide +kernel
theorem dX9_countOfSigns_57 : decode cX9_countOfSigns 57 = .ok (.lload_n 3, 1) := by decide +kernel
theorem dX9_countOfSigns_58 : decode cX9_countOfSigns 58 = .ok (.lconst 0, 1) := by decide +kernel
theorem dX9_countOfSigns_59 : decode cX9_countOfSigns 59 = .ok (.lcmp, 1) := by decide +kernel
theorem dX9_countOfSigns_60 : decode cX9_countOfSigns 60 = .ok (.ifCond .ne 7, 3) := by decide +kernel
theorem dX9_countOfSigns_63 : decode cX9_countOfSigns 63 = .ok (.iload_n 2, 1) := by decide +kernel
theorem dX9_countOfSigns_64 : decode cX9_countOfSigns 64 = .ok (.goto 4, 3) := by decide +kernel
theorem dX9_countOfSigns_67 : decode cX9_countOfSigns 67 = .ok (.iconst 0, 1) := by decide +kernel
theorem dX9_countOfSigns_68 : decode cX9_countOfSigns 68 = .ok (.ireturn, 1) := by decide +kernel
theorem dX9_isBetween_0 : decode cX9_isBetween 0 = .ok (.lload_n 0, 1) := by decide +kernel
theorem dX9_isBetween_1 : decode cX9_isBetween 1 = .ok (.lload_n 2, 1) := by decide +kernel
theorem dX9_isBetween_2 : decode cX9_isBetween 2 = .ok (.lcmp, 1) := by decide +kernel
theorem dX9_isBetween_3 : decode cX9_isBetween 3 = .ok (.ifCond .lt 14, 3) := by decide +kernel
theorem dX9_isBetween_6 : decode cX9_isBetween 6 = .ok (.lload_n 0, 1) := by decide +kernel
theorem dX9_isBetween_7 : decode cX9_isBetween 7 = .ok (.lload 4, 2) := by decide +kernel
theorem dX9_isBetween_9 : decode cX9_isBetween 9 = .ok (.lcmp, 1) := by decide +kernel
theorem dX9_isBetween_10 : decode cX9_isBetween 10 = .ok (.ifCond .gt 7, 3) := by decide +kernel
theorem dX9_isBetween_13 : decode cX9_isBetween 13 = .ok (.iconst 1, 1) := by decide +kernel
theorem dX9_isBetween_14 : decode cX9_isBetween 14 = .ok (.goto 4, 3) := by decide +kernel
theorem dX9_isBetween_17 : decode cX9_isBetween 17 = .ok (.iconst 0, 1) := by decide +kernel
theorem dX9_isBetween_18 : decode cX9_isBetween 18 = .ok (.ireturn, 1) := by decide +kernel
set_option maxRecDepth 20000 in
theorem ggX9_isCourse_X9_isBetween : GoodIn wsX9_isCourse wsX9_isBetween := goodIn_r _ [5] (by decide +kernel) (by decide +kernel)
set_option maxRecDepth 20000 in
theorem gX9_isCourse_X9_isBetween : GoodIn wsX9_isCourse (va_wsS RX9 39 yX9_isBetween wsX9_isBetween) := goodIn_app (goodIn_of _ (by decide +kernel)) ggX9_isCourse_X9_isBetween
theorem dX9_isCourse_0 : decode cX9_isCourse 0 = .ok (.iload_n 0, 1) := by decide +kernel
theorem dX9_isCourse_1 : decode cX9_isCourse 1 = .ok (.i2l, 1) := by decide +kernel
theorem dX9_isCourse_2 : decode cX9_isCourse 2 = .ok (.lconst 0, 1) := by decide +kernel
theorem dX9_isCourse_3 : decode cX9_isCourse 3 = .ok (.ldc2_w 351, 3) := by decide +kernel
theorem dX9_isCourse_6 : decode cX9_isCourse 6 = .ok (.invokestatic 39, 3) := by decide +kernel
theorem dX9_isCourse_9 : decode cX9_isCourse 9 = .ok (.ireturn, 1) := by decide +kernel
set_option maxRecDepth 20000 in
theorem ggX9_isSpeed_X9_isBetween : GoodIn wsX9_isSpeed wsX9_isBetween := goodIn_r _ [5] (by decide +kernel) (by decide +kernel)
set_option maxRecDepth 20000 in
theorem gX9_isSpeed_X9_isBetween : GoodIn wsX9_isSpeed (va_wsS RX9 39 yX9_isBetween wsX9_isBetween) := goodIn_app (goodIn_of _ (by decide +kernel)) ggX9_isSpeed_X9_isBetween
theorem dX9_isSpeed_0 : decode cX9_isSpeed 0 = .ok (.iload_n 0, 1) := by decide +kernel
theorem dX9_isSpeed_1 : decode cX9_isSpeed 1 = .ok (.i2l, 1) := by decide +kernel
theorem dX9_isSpeed_2 : decode cX9_isSpeed 2 = .ok (.lconst 0, 1) := by decide +kernel
theorem dX9_isSpeed_3 : decode cX9_isSpeed 3 = .ok (.ldc2_w 353, 3) := by decide +kernel
theorem dX9_isSpeed_6 : decode cX9_isSpeed 6 = .ok (.invokestatic 39, 3) := by decide +kernel
theorem dX9_isSpeed_9 : decode cX9_isSpeed 9 = .ok (.ireturn, 1) := by decide +kernel
set_option maxRecDepth 20000 in
theorem ggX9_isMinutes_X9_isBetween : GoodIn wsX9_isMinutes wsX9_isBetween := goodIn_r _ [5] (by decide +kernel) (by decide +kernel)
set_option maxRecDepth 20000 in
theorem gX9_isMinutes_X9_isBetween : GoodIn wsX9_isMinutes (va_wsS RX9 39 yX9_isBetween wsX9_isBetween) := goodIn_app (goodIn_of _ (by decide +kernel)) ggX9_isMinutes_X9_isBetween
theorem dX9_isMinutes_0 : decode cX9_isMinutes 0 = .ok (.iload_n 0, 1) := by decide +kernel
theorem dX9_isMinutes_1 : decode cX9_isMinutes 1 = .ok (.i2l, 1) := by decide +kernel
theorem dX9_isMinutes_2 : decode cX9_isMinutes 2 = .ok (.lconst 1, 1) := by decide +kernel
theorem dX9_isMinutes_3 : decode cX9_isMinutes 3 = .ok (.ldc2_w 355, 3) := by decide +kernel
theorem dX9_isMinutes_6 : decode cX9_isMinutes 6 = .ok (.invokestatic 39, 3) := by decide +kernel
theorem dX9_isMinutes_9 : decode cX9_isMinutes 9 = .ok (.ireturn, 1) := by decide +kernel
set_option maxRecDepth 20000 in
theorem ggX9_isDegrees_X9_isBetween : GoodIn wsX9_isDegrees wsX9_isBetween := goodIn_r _ [6] (by decide +kernel) (by decide +kernel)
set_option maxRecDepth 20000 in
theorem gX9_isDegrees_X9_isBetween : GoodIn wsX9_isDegrees (va_wsS RX9 39 yX9_isBetween wsX9_isBetween) := goodIn_app (goodIn_of _ (by decide +kernel)) ggX9_isDegrees_X9_isBetween
theorem dX9_isDegrees_0 : decode cX9_isDegrees 0 = .ok (.iload_n 0, 1) := by decide +kernel
theorem dX9_isDegrees_1 : decode cX9_isDegrees 1 = .ok (.i2l, 1) := by decide +kernel
theorem dX9_isDegrees_2 : decode cX9_isDegrees 2 = .ok (.ldc2_w 357, 3) := by decide +kernel
theorem dX9_isDegrees_5 : decode cX9_isDegrees 5 = .ok (.ldc2_w 359, 3) := by decide +kernel
theorem dX9_isDegrees_8 : decode cX9_isDegrees 8 = .ok (.invokestatic 39, 3) := by decide +kernel
theorem dX9_isDegrees_11 : decode cX9_isDegrees 11 = .ok (.ireturn, 1) := by decide +kernel
theorem dX9_limited_0 : decode cX9_limited 0 = .ok (.lload_n 2, 1) := by decide +kernel
theorem dX9_limited_1 : decode cX9_limited 1 = .ok (.lneg, 1) := by decide +kernel
theorem dX9_limited_2 : decode cX9_limited 2 = .ok (.lload_n 2, 1) := by decide +kernel
theorem dX9_limited_3 : decode cX9_limited 3 = .ok (.lload_n 0, 1) := by decide +kernel
theorem dX9_limited_4 : decode cX9_limited 4 = .ok (.invokestatic 361, 3) := by decide +kernel
theorem dX9_limited_7 : decode cX9_limited 7 = .ok (.invokestatic 364, 3) := by decide +kernel
theorem dX9_limited_10 : decode cX9_limited 10 = .ok (.lreturn, 1) := by decide +kernel
theorem dX9_at_0 : decode cX9_at 0 = .ok (.iload_n 1, 1) := by decide +kernel
theorem dX9_at_1 : decode cX9_at 1 = .ok (.ifCond .lt 15, 3) := by decide +kernel
theorem dX9_at_4 : decode cX9_at 4 = .ok (.iload_n 1, 1) := by decide +kernel
theorem dX9_at_5 : decode cX9_at 5 = .ok (.aload_n 0, 1) := by decide +kernel
theorem dX9_at_6 : decode cX9_at 6 = .ok (.arraylength, 1) := by decide +kernel
theorem dX9_at_7 : decode cX9_at 7 = .ok (.if_icmp .ge 9, 3) := by decide +kernel
theorem dX9_at_10 : decode cX9_at 10 = .ok (.aload_n 0, 1) := by decide +kernel
theorem dX9_at_11 : decode cX9_at 11 = .ok (.iload_n 1, 1) := by decide +kernel
theorem dX9_at_12 : decode cX9_at 12 = .ok (.laload, 1) := by decide +kernel
theorem dX9_at_13 : decode cX9_at 13 = .ok (.goto 4, 3) := by decide +kernel
theorem dX9_at_16 : decode cX9_at 16 = .ok (.lconst 0, 1) := by decide +kernel
theorem dX9_at_17 : decode cX9_at 17 = .ok (.lreturn, 1) := by decide +kernel
theorem dX9_write_0 : decode cX9_write 0 = .ok (.iload_n 1, 1) := by decide +kernel
theorem dX9_write_1 : decode cX9_write 1 = .ok (.ifCond .lt 13, 3) := by decide +kernel
theorem dX9_write_4 : decode cX9_write 4 = .ok (.iload_n 1, 1) := by decide +kernel
theorem dX9_write_5 : decode cX9_write 5 = .ok (.aload_n 0, 1) := by decide +kernel
theorem dX9_write_6 : decode cX9_write 6 = .ok (.arraylength, 1) := by decide +kernel
theorem dX9_write_7 : decode cX9_write 7 = .ok (.if_icmp .ge 7, 3) := by decide +kernel
theorem dX9_write_10 : decode cX9_write 10 = .ok (.aload_n 0, 1) := by decide +kernel
theorem dX9_write_11 : decode cX9_write 11 = .ok (.iload_n 1, 1) := by decide +kernel
theorem dX9_write_12 : decode cX9_write 12 = .ok (.lload_n 2, 1) := by decide +kernel
theorem dX9_write_13 : decode cX9_write 13 = .ok (.lastore, 1) := by decide +kernel
theorem dX9_write_14 : decode cX9_write 14 = .ok (.return_, 1) := by decide +kernel
theorem dX9_copy_0 : decode cX9_copy 0 = .ok (.iconst 0, 1) := by decide +kernel
theorem dX9_copy_1 : decode cX9_copy 1 = .ok (.istore_n 2, 1) := by decide +kernel
theorem dX9_copy_2 : decode cX9_copy 2 = .ok (.iload_n 2, 1) := by decide +kernel
theorem dX9_copy_3 : decode cX9_copy 3 = .ok (.aload_n 0, 1) := by decide +kernel
theorem dX9_copy_4 : decode cX9_copy 4 = .ok (.arraylength, 1) := by decide +kernel
theorem dX9_copy_5 : decode cX9_copy 5 = .ok (.if_icmp .ge 21, 3) := by decide +kernel
theorem dX9_copy_8 : decode cX9_copy 8 = .ok (.iload_n 2, 1) := by decide +kernel
theorem dX9_copy_9 : decode cX9_copy 9 = .ok (.aload_n 1, 1) := by decide +kernel
theorem dX9_copy_10 : decode cX9_copy 10 = .ok (.arraylength, 1) := by decide +kernel
theorem dX9_copy_11 : decode cX9_copy 11 = .ok (.if_icmp .ge 15, 3) := by decide +kernel
theorem dX9_copy_14 : decode cX9_copy 14 = .ok (.aload_n 1, 1) := by decide +kernel
theorem dX9_copy_15 : decode cX9_copy 15 = .ok (.iload_n 2, 1) := by decide +kernel
theorem dX9_copy_16 : decode cX9_copy 16 = .ok (.aload_n 0, 1) := by decide +kernel
theorem dX9_copy_17 : decode cX9_copy 17 = .ok (.iload_n 2, 1) := by decide +kernel
theorem dX9_copy_18 : decode cX9_copy 18 = .ok (.laload, 1) := by decide +kernel
theorem dX9_copy_19 : decode cX9_copy 19 = .ok (.lastore, 1) := by decide +kernel
theorem dX9_copy_20 : decode cX9_copy 20 = .ok (.iinc 2 1, 3) := by decide +kernel
theorem dX9_copy_23 : decode cX9_copy 23 = .ok (.goto (-21), 3) := by decide +kernel
theorem dX9_copy_26 : decode cX9_copy 26 = .ok (.return_, 1) := by decide +kernel
set_option maxRecDepth 20000 in
theorem ggX9_keep_X7_init : GoodIn wsX9_keep wsX7_init := goodIn_r _ [6, 7, 8, 9, 10, 11, 12, 13, 14, 15, 16, 17, 18, 19, 20, 21, 22, 23, 24, 25, 26, 27, 28, 29, 30, 31, 32, 33, 34, 35, 36, 37, 38, 39, 40, 41, 42, 43, 44, 45, 46, 47, 48, 49, 50, 51, 52, 53, 54, 55, 56, 57, 58, 59, 60, 61, 62, 63, 64, 65, 66, 67, 68, 69, 70, 71, 72, 73, 74, 125, 126, 127, 128, 129, 130, 131, 132, 133, 134, 135, 136, 137, 138, 139, 140, 141, 142, 143, 144, 145, 146, 147, 148, 149, 150, 151, 152, 153, 154, 155, 156, 157, 158, 159, 160] (by decide +kernel) (by decide +kernel)
set_option maxRecDepth 20000 in
theorem gX9_keep_X7_init : GoodIn wsX9_keep (wsX7_init) := ggX9_keep_X7_init
set_option maxRecDepth 20000 in
theorem ggX9_keep_X7_copyFrom : GoodIn wsX9_keep wsX7_copyFrom := goodIn_r _ [78, 11, 15, 19, 23, 27, 79, 80, 81, 82, 83, 84, 85, 86, 87, 14, 88, 34, 89, 90, 91, 92, 93, 94, 95, 33, 96, 43, 44, 45, 97, 98, 99, 100, 18, 101, 49, 102, 103, 104, 105, 50, 52, 106, 107, 108, 22, 109, 59, 60, 61, 110, 111, 112, 113, 114, 115, 58, 116, 67, 117, 118, 119, 120, 26, 121, 71, 73, 122, 123, 124, 125, 126, 127, 128, 129, 130, 131, 132, 133, 134, 135, 136, 137, 155, 156, 157, 158, 138, 139, 140, 141, 142, 143, 144, 145, 146, 147, 148, 149, 150, 159, 160, 151, 152, 153, 154] (by decide +kernel) (by decide +kernel)
set_option maxRecDepth 20000 in
theorem gX9_keep_X7_copyFrom : GoodIn wsX9_keep (wsV RX9 331 RX7 yX7_copyFrom wsX7_copyFrom) := goodIn_app (goodIn_of _ (by decide +kernel)) ggX9_keep_X7_copyFrom
theorem dX9_keep_0 : decode cX9_keep 0 = .ok (.iload_n 1, 1) := by decide +kernel
theorem dX9_keep_1 : decode cX9_keep 1 = .ok (.ifCond .lt 9, 3) := by decide +kernel
theorem dX9_keep_4 : decode cX9_keep 4 = .ok (.iload_n 1, 1) := by decide +kernel
theorem dX9_keep_5 : decode cX9_keep 5 = .ok (.aload_n 0, 1) := by decide +kernel
theorem dX9_keep_6 : decode cX9_keep 6 = .ok (.arraylength, 1) := by decide +kernel
theorem dX9_keep_7 : decode cX9_keep 7 = .ok (.if_icmp .lt 4, 3) := by decide +kernel
theorem dX9_keep_10 : decode cX9_keep 10 = .ok (.return_, 1) := by decide +kernel
theorem dX9_keep_11 : decode cX9_keep 11 = .ok (.aload_n 0, 1) := by decide +kernel
theorem dX9_keep_12 : decode cX9_keep 12 = .ok (.iload_n 1, 1) := by decide +kernel
theorem dX9_keep_13 : decode cX9_keep 13 = .ok (.aaload, 1) := by decide +kernel
theorem dX9_keep_14 : decode cX9_keep 14 = .ok (.astore_n 3, 1) := by decide +kernel
theorem dX9_keep_15 : decode cX9_keep 15 = .ok (.aload_n 3, 1) := by decide +kernel
theorem dX9_keep_16 : decode cX9_keep 16 = .ok (.ifnonnull 15, 3) := by decide +kernel
theorem dX9_keep_19 : decode cX9_keep 19 = .ok (.new 7, 3) := by decide +kernel
theorem dX9_keep_22 : decode cX9_keep 22 = .ok (.dup, 1) := by decide +kernel
theorem dX9_keep_23 : decode cX9_keep 23 = .ok (.invokespecial 9, 3) := by decide +kernel
theorem dX9_keep_26 : decode cX9_keep 26 = .ok (.astore_n 3, 1) := by decide +kernel
theorem dX9_keep_27 : decode cX9_keep 27 = .ok (.aload_n 0, 1) := by decide +kernel
theorem dX9_keep_28 : decode cX9_keep 28 = .ok (.iload_n 1, 1) := by decide +kernel
theorem dX9_keep_29 : decode cX9_keep 29 = .ok (.aload_n 3, 1) := by decide +kernel
theorem dX9_keep_30 : decode cX9_keep 30 = .ok (.aastore, 1) := by decide +kernel
theorem dX9_keep_31 : decode cX9_keep 31 = .ok (.aload_n 3, 1) := by decide +kernel
theorem dX9_keep_32 : decode cX9_keep 32 = .ok (.aload_n 2, 1) := by decide +kernel
theorem dX9_keep_33 : decode cX9_keep 33 = .ok (.invokevirtual 331, 3) := by decide +kernel
theorem dX9_keep_36 : decode cX9_keep 36 = .ok (.return_, 1) := by decide +kernel
theorem dX9_quotient_0 : decode cX9_quotient 0 = .ok (.lload_n 2, 1) := by decide +kernel
theorem dX9_quotient_1 : decode cX9_quotient 1 = .ok (.lconst 0, 1) := by decide +kernel
theorem dX9_quotient_2 : decode cX9_quotient 2 = .ok (.lcmp, 1) := by decide +kernel
theorem dX9_quotient_3 : decode cX9_quotient 3 = .ok (.ifCond .ne 7, 3) := by decide +kernel
theorem dX9_quotient_6 : decode cX9_quotient 6 = .ok (.lconst 0, 1) := by decide +kernel
theorem dX9_quotient_7 : decode cX9_quotient 7 = .ok (.goto 6, 3) := by decide +kernel
theorem dX9_quotient_10 : decode cX9_quotient 10 = .ok (.lload_n 0, 1) := by decide +kernel
theorem dX9_quotient_11 : decode cX9_quotient 11 = .ok (.lload_n 2, 1) := by decide +kernel
theorem dX9_quotient_12 : decode cX9_quotient 12 = .ok (.ldiv, 1) := by decide +kernel
theorem dX9_quotient_13 : decode cX9_quotient 13 = .ok (.lreturn, 1) := by decide +kernel
theorem dX9_sine_0 : decode cX9_sine 0 = .ok (.lload_n 0, 1) := by decide +kernel
theorem dX9_sine_1 : decode cX9_sine 1 = .ok (.ldc2_w 367, 3) := by decide +kernel
theorem dX9_sine_4 : decode cX9_sine 4 = .ok (.lcmp, 1) := by decide +kernel
theorem dX9_sine_5 : decode cX9_sine 5 = .ok (.ifCond .le 11, 3) := by decide +kernel
theorem dX9_sine_8 : decode cX9_sine 8 = .ok (.lload_n 0, 1) := by decide +kernel
theorem dX9_sine_9 : decode cX9_sine 9 = .ok (.ldc2_w 367, 3) := by decide +kernel
theorem dX9_sine_12 : decode cX9_sine 12 = .ok (.lsub, 1) := by decide +kernel
theorem dX9_sine_13 : decode cX9_sine 13 = .ok (.goto 4, 3) := by decide +kernel
theorem dX9_sine_16 : decode cX9_sine 16 = .ok (.lload_n 0, 1) := by decide +kernel
theorem dX9_sine_17 : decode cX9_sine 17 = .ok (.lstore_n 2, 1) := by decide +kernel
theorem dX9_sine_18 : decode cX9_sine 18 = .ok (.lload_n 2, 1) := by decide +kernel
theorem dX9_sine_19 : decode cX9_sine 19 = .ok (.ldc2_w 367, 3) := by decide +kernel
theorem dX9_sine_22 : decode cX9_sine 22 = .ok (.lload_n 2, 1) := by decide +kernel
theorem dX9_sine_23 : decode cX9_sine 23 = .ok (.lsub, 1) := by decide +kernel
theorem dX9_sine_24 : decode cX9_sine 24 = .ok (.lmul, 1) := by decide +kernel
theorem dX9_sine_25 : decode cX9_sine 25 = .ok (.lstore 4, 2) := by decide +kernel
theorem dX9_sine_27 : decode cX9_sine 27 = .ok (.ldc2_w 369, 3) := by decide +kernel
theorem dX9_sine_30 : decode cX9_sine 30 = .ok (.lload 4, 2) := by decide +kernel
theorem dX9_sine_32 : decode cX9_sine 32 = .ok (.lsub, 1) := by decide +kernel
theorem dX9_sine_33 : decode cX9_sine 33 = .ok (.lstore 6, 2) := by decide +kernel
theorem dX9_sine_35 : decode cX9_sine 35 = .ok (.lload 6, 2) := by decide +kernel
theorem dX9_sine_37 : decode cX9_sine 37 = .ok (.lconst 0, 1) := by decide +kernel
theorem dX9_sine_38 : decode cX9_sine 38 = .ok (.lcmp, 1) := by decide +kernel
theorem dX9_sine_39 : decode cX9_sine 39 = .ok (.ifCond .ne 5, 3) := by decide +kernel
theorem dX9_sine_42 : decode cX9_sine 42 = .ok (.lconst 0, 1) := by decide +kernel
theorem dX9_sine_43 : decode cX9_sine 43 = .ok (.lreturn, 1) := by decide +kernel
theorem dX9_sine_44 : decode cX9_sine 44 = .ok (.ldc2_w 371, 3) := by decide +kernel
theorem dX9_sine_47 : decode cX9_sine 47 = .ok (.lload 4, 2) := by decide +kernel
theorem dX9_sine_49 : decode cX9_sine 49 = .ok (.lmul, 1) := by decide +kernel
theorem dX9_sine_50 : decode cX9_sine 50 = .ok (.lload 6, 2) := by decide +kernel
theorem dX9_sine_52 : decode cX9_sine 52 = .ok (.ldiv, 1) := by decide +kernel
theorem dX9_sine_53 : decode cX9_sine 53 = .ok (.lstore 8, 2) := by decide +kernel
theorem dX9_sine_55 : decode cX9_sine 55 = .ok (.lload_n 0, 1) := by decide +kernel
theorem dX9_sine_56 : decode cX9_sine 56 = .ok (.ldc2_w 367, 3) := by decide +kernel
theorem dX9_sine_59 : decode cX9_sine 59 = .ok (.lcmp, 1) := by decide +kernel
theorem dX9_sine_60 : decode cX9_sine 60 = .ok (.ifCond .le 9, 3) := by decide +kernel
theorem dX9_sine_63 : decode cX9_sine 63 = .ok (.lload 8, 2) := by decide +kernel
theorem dX9_sine_65 : decode cX9_sine 65 = .ok (.lneg, 1) := by decide +kernel
theorem dX9_sine_66 : decode cX9_sine 66 = .ok (.goto 5, 3) := by decide +kernel
theorem dX9_sine_69 : decode cX9_sine 69 = .ok (.lload 8, 2) := by decide +kernel
theorem dX9_sine_71 : decode cX9_sine 71 = .ok (.lreturn, 1) := by decide +kernel
set_option maxRecDepth 20000 in
theorem ggX9_cosine_X9_sine : GoodIn wsX9_cosine wsX9_sine := goodIn_r _ [6, 7, 8, 9] (by decide +kernel) (by decide +kernel)
set_option maxRecDepth 20000 in
theorem gX9_cosine_X9_sine : GoodIn wsX9_cosine (va_wsS RX9 280 yX9_sine wsX9_sine) := goodIn_app (goodIn_of _ (by decide +kernel)) ggX9_cosine_X9_sine
theorem dX9_cosine_0 : decode cX9_cosine 0 = .ok (.lload_n 0, 1) := by decide +kernel
theorem dX9_cosine_1 : decode cX9_cosine 1 = .ok (.ldc2_w 373, 3) := by decide +kernel
theorem dX9_cosine_4 : decode cX9_cosine 4 = .ok (.ladd, 1) := by decide +kernel
theorem dX9_cosine_5 : decode cX9_cosine 5 = .ok (.ldc2_w 207, 3) := by decide +kernel
theorem dX9_cosine_8 : decode cX9_cosine 8 = .ok (.lrem, 1) := by decide +kernel
theorem dX9_cosine_9 : decode cX9_cosine 9 = .ok (.invokestatic 280, 3) := by decide +kernel
theorem dX9_cosine_12 : decode cX9_cosine 12 = .ok (.lreturn, 1) := by decide +kernel
theorem dX9_courseOfLatitude_0 : decode cX9_courseOfLatitude 0 = .ok (.lload_n 0, 1) := by decide +kernel
theorem dX9_courseOfLatitude_1 : decode cX9_courseOfLatitude 1 = .ok (.invokestatic 219, 3) := by decide +kernel
theorem dX9_courseOfLatitude_4 : decode cX9_courseOfLatitude 4 = .ok (.ldc2_w 375, 3) := by decide +kernel
theorem dX9_courseOfLatitude_7 : decode cX9_courseOfLatitude 7 = .ok (.ldiv, 1) := by decide +kernel
theorem dX9_courseOfLatitude_8 : decode cX9_courseOfLatitude 8 = .ok (.lreturn, 1) := by decide +kernel
set_option maxRecDepth 20000 in
theorem ggX9_freeRest_X9_courseOfLatitude : GoodIn wsX9_freeRest wsX9_courseOfLatitude := goodIn_r _ [5, 6, 7, 8, 9, 10] (by decide +kernel) (by decide +kernel)
set_option maxRecDepth 20000 in
theorem gX9_freeRest_X9_courseOfLatitude : GoodIn wsX9_freeRest (va_wsS RX9 377 yX9_courseOfLatitude wsX9_courseOfLatitude) := goodIn_app (goodIn_of _ (by decide +kernel)) ggX9_freeRest_X9_courseOfLatitude
set_option maxRecDepth 20000 in
theorem ggX9_freeRest_X9_sine : GoodIn wsX9_freeRest wsX9_sine := goodIn_r _ [13, 14, 15, 16] (by decide +kernel) (by decide +kernel)
set_option maxRecDepth 20000 in
theorem gX9_freeRest_X9_sine : GoodIn wsX9_freeRest (va_wsS RX9 280 yX9_sine wsX9_sine) := goodIn_app (goodIn_of _ (by decide +kernel)) ggX9_freeRest_X9_sine
set_option maxRecDepth 20000 in
theorem ggX9_freeRest_X9_cosine : GoodIn wsX9_freeRest wsX9_cosine := goodIn_r _ [19, 20, 21, 11, 12, 4, 13, 14, 15, 16] (by decide +kernel) (by decide +kernel)
set_option maxRecDepth 20000 in
theorem gX9_freeRest_X9_cosine : GoodIn wsX9_freeRest (va_wsS RX9 283 yX9_cosine wsX9_cosine) := goodIn_app (goodIn_of _ (by decide +kernel)) ggX9_freeRest_X9_cosine
set_option maxRecDepth 20000 in
theorem ggX9_freeRest_X9_quotient : GoodIn wsX9_freeRest wsX9_quotient := goodIn_r _ [24] (by decide +kernel) (by decide +kernel)
set_option maxRecDepth 20000 in
theorem gX9_freeRest_X9_quotient : GoodIn wsX9_freeRest (va_wsS RX9 380 yX9_quotient wsX9_quotient) := goodIn_app (goodIn_of _ (by decide +kernel)) ggX9_freeRest_X9_quotient
theorem dX9_freeRest_0 : decode cX9_freeRest 0 = .ok (.lload_n 2, 1) := by decide +kernel
theorem dX9_freeRest_1 : decode cX9_freeRest 1 = .ok (.invokestatic 377, 3) := by decide +kernel
theorem dX9_freeRest_4 : decode cX9_freeRest 4 = .ok (.lstore 8, 2) := by decide +kernel
theorem dX9_freeRest_6 : decode cX9_freeRest 6 = .ok (.lload_n 2, 1) := by decide +kernel
theorem dX9_freeRest_7 : decode cX9_freeRest 7 = .ok (.lconst 0, 1) := by decide +kernel
theorem dX9_freeRest_8 : decode cX9_freeRest 8 = .ok (.lcmp, 1) := by decide +kernel
theorem dX9_freeRest_9 : decode cX9_freeRest 9 = .ok (.ifCond .ge 12, 3) := by decide +kernel
theorem dX9_freeRest_12 : decode cX9_freeRest 12 = .ok (.lload 8, 2) := by decide +kernel
theorem dX9_freeRest_14 : decode cX9_freeRest 14 = .ok (.invokestatic 280, 3) := by decide +kernel
theorem dX9_freeRest_17 : decode cX9_freeRest 17 = .ok (.lneg, 1) := by decide +kernel
theorem dX9_freeRest_18 : decode cX9_freeRest 18 = .ok (.goto 8, 3) := by decide +kernel
theorem dX9_freeRest_21 : decode cX9_freeRest 21 = .ok (.lload 8, 2) := by decide +kernel
theorem dX9_freeRest_23 : decode cX9_freeRest 23 = .ok (.invokestatic 280, 3) := by decide +kernel
theorem dX9_freeRest_26 : decode cX9_freeRest 26 = .ok (.lstore 10, 2) := by decide +kernel
theorem dX9_freeRest_28 : decode cX9_freeRest 28 = .ok (.lload 8, 2) := by decide +kernel
theorem dX9_freeRest_30 : decode cX9_freeRest 30 = .ok (.invokestatic 283, 3) := by decide +kernel
theorem dX9_freeRest_33 : decode cX9_freeRest 33 = .ok (.lstore 12, 2) := by decide +kernel
theorem dX9_freeRest_35 : decode cX9_freeRest 35 = .ok (.lload_n 0, 1) := by decide +kernel
theorem dX9_freeRest_36 : decode cX9_freeRest 36 = .ok (.lload 10, 2) := by decide +kernel
theorem dX9_freeRest_38 : decode cX9_freeRest 38 = .ok (.lmul, 1) := by decide +kernel
theorem dX9_freeRest_39 : decode cX9_freeRest 39 = .ok (.lload 12, 2) := by decide +kernel
theorem dX9_freeRest_41 : decode cX9_freeRest 41 = .ok (.invokestatic 380, 3) := by decide +kernel
theorem dX9_freeRest_44 : decode cX9_freeRest 44 = .ok (.ldc2_w 383, 3) := by decide +kernel
theorem dX9_freeRest_47 : decode cX9_freeRest 47 = .ok (.lload 4, 2) := by decide +kernel
theorem dX9_freeRest_49 : decode cX9_freeRest 49 = .ok (.lmul, 1) := by decide +kernel
theorem dX9_freeRest_50 : decode cX9_freeRest 50 = .ok (.lload 6, 2) := by decide +kernel
theorem dX9_freeRest_52 : decode cX9_freeRest 52 = .ok (.invokestatic 283, 3) := by decide +kernel
theorem dX9_freeRest_55 : decode cX9_freeRest 55 = .ok (.lmul, 1) := by decide +kernel
theorem dX9_freeRest_56 : decode cX9_freeRest 56 = .ok (.lload 12, 2) := by decide +kernel
theorem dX9_freeRest_58 : decode cX9_freeRest 58 = .ok (.invokestatic 380, 3) := by decide +kernel
theorem dX9_freeRest_61 : decode cX9_freeRest 61 = .ok (.lsub, 1) := by decide +kernel
theorem dX9_freeRest_62 : decode cX9_freeRest 62 = .ok (.lreturn, 1) := by decide +kernel
theorem dJ9_floorMod_f86c9_0 : decode cJ9_floorMod_f86c9 0 = .ok (.lload_n 0, 1) := by decide +kernel
theorem dJ9_floorMod_f86c9_1 : decode cJ9_floorMod_f86c9 1 = .ok (.lload_n 2, 1) := by decide +kernel
theorem dJ9_floorMod_f86c9_2 : decode cJ9_floorMod_f86c9 2 = .ok (.lrem, 1) := by decide +kernel
theorem dJ9_floorMod_f86c9_3 : decode cJ9_floorMod_f86c9 3 = .ok (.lstore 4, 2) := by decide +kernel
theorem dJ9_floorMod_f86c9_5 : decode cJ9_floorMod_f86c9 5 = .ok (.lload_n 0, 1) := by decide +kernel
theorem dJ9_floorMod_f86c9_6 : decode cJ9_floorMod_f86c9 6 = .ok (.lload_n 2, 1) := by decide +kernel
theorem dJ9_floorMod_f86c9_7 : decode cJ9_floorMod_f86c9 7 = .ok (.lxor, 1) := by decide +kernel
theorem dJ9_floorMod_f86c9_8 : decode cJ9_floorMod_f86c9 8 = .ok (.lconst 0, 1) := by decide +kernel
theorem dJ9_floorMod_f86c9_9 : decode cJ9_floorMod_f86c9 9 = .ok (.lcmp, 1) := by decide +kernel
theorem dJ9_floorMod_f86c9_10 : decode cJ9_floorMod_f86c9 10 = .ok (.ifCond .ge 15, 3) := by decide +kernel
theorem dJ9_floorMod_f86c9_13 : decode cJ9_floorMod_f86c9 13 = .ok (.lload 4, 2) := by decide +kernel
theorem dJ9_floorMod_f86c9_15 : decode cJ9_floorMod_f86c9 15 = .ok (.lconst 0, 1) := by decide +kernel
theorem dJ9_floorMod_f86c9_16 : decode cJ9_floorMod_f86c9 16 = .ok (.lcmp, 1) := by decide +kernel
theorem dJ9_floorMod_f86c9_17 : decode cJ9_floorMod_f86c9 17 = .ok (.ifCond .eq 8, 3) := by decide +kernel
theorem dJ9_floorMod_f86c9_20 : decode cJ9_floorMod_f86c9 20 = .ok (.lload 4, 2) := by decide +kernel
theorem dJ9_floorMod_f86c9_22 : decode cJ9_floorMod_f86c9 22 = .ok (.lload_n 2, 1) := by decide +kernel
theorem dJ9_floorMod_f86c9_23 : decode cJ9_floorMod_f86c9 23 = .ok (.ladd, 1) := by decide +kernel
theorem dJ9_floorMod_f86c9_24 : decode cJ9_floorMod_f86c9 24 = .ok (.lreturn, 1) := by decide +kernel
theorem dJ9_floorMod_f86c9_25 : decode cJ9_floorMod_f86c9 25 = .ok (.lload 4, 2) := by decide +kernel
theorem dJ9_floorMod_f86c9_27 : decode cJ9_floorMod_f86c9 27 = .ok (.lreturn, 1) := by decide +kernel
theorem dJ9_abs_067f4_0 : decode cJ9_abs_067f4 0 = .ok (.lload_n 0, 1) := by decide +kernel
theorem dJ9_abs_067f4_1 : decode cJ9_abs_067f4 1 = .ok (.lconst 0, 1) := by decide +kernel
theorem dJ9_abs_067f4_2 : decode cJ9_abs_067f4 2 = .ok (.lcmp, 1) := by decide +kernel
theorem dJ9_abs_067f4_3 : decode cJ9_abs_067f4 3 = .ok (.ifCond .ge 8, 3) := by decide +kernel
theorem dJ9_abs_067f4_6 : decode cJ9_abs_067f4 6 = .ok (.lload_n 0, 1) := by decide +kernel
theorem dJ9_abs_067f4_7 : decode cJ9_abs_067f4 7 = .ok (.lneg, 1) := by decide +kernel
theorem dJ9_abs_067f4_8 : decode cJ9_abs_067f4 8 = .ok (.goto 4, 3) := by decide +kernel
theorem dJ9_abs_067f4_11 : decode cJ9_abs_067f4 11 = .ok (.lload_n 0, 1) := by decide +kernel
theorem dJ9_abs_067f4_12 : decode cJ9_abs_067f4 12 = .ok (.lreturn, 1) := by decide +kernel
theorem dJ9_max_7cf53_0 : decode cJ9_max_7cf53 0 = .ok (.iload_n 0, 1) := by decide +kernel
theorem dJ9_max_7cf53_1 : decode cJ9_max_7cf53 1 = .ok (.iload_n 1, 1) := by decide +kernel
theorem dJ9_max_7cf53_2 : decode cJ9_max_7cf53 2 = .ok (.if_icmp .lt 7, 3) := by decide +kernel
theorem dJ9_max_7cf53_5 : decode cJ9_max_7cf53 5 = .ok (.iload_n 0, 1) := by decide +kernel
theorem dJ9_max_7cf53_6 : decode cJ9_max_7cf53 6 = .ok (.goto 4, 3) := by decide +kernel
theorem dJ9_max_7cf53_9 : decode cJ9_max_7cf53 9 = .ok (.iload_n 1, 1) := by decide +kernel
theorem dJ9_max_7cf53_10 : decode cJ9_max_7cf53 10 = .ok (.ireturn, 1) := by decide +kernel
theorem dJ9_max_f86c9_0 : decode cJ9_max_f86c9 0 = .ok (.lload_n 0, 1) := by decide +kernel
theorem dJ9_max_f86c9_1 : decode cJ9_max_f86c9 1 = .ok (.lload_n 2, 1) := by decide +kernel
theorem dJ9_max_f86c9_2 : decode cJ9_max_f86c9 2 = .ok (.lcmp, 1) := by decide +kernel
theorem dJ9_max_f86c9_3 : decode cJ9_max_f86c9 3 = .ok (.ifCond .lt 7, 3) := by decide +kernel
theorem dJ9_max_f86c9_6 : decode cJ9_max_f86c9 6 = .ok (.lload_n 0, 1) := by decide +kernel
theorem dJ9_max_f86c9_7 : decode cJ9_max_f86c9 7 = .ok (.goto 4, 3) := by decide +kernel
theorem dJ9_max_f86c9_10 : decode cJ9_max_f86c9 10 = .ok (.lload_n 2, 1) := by decide +kernel
theorem dJ9_max_f86c9_11 : decode cJ9_max_f86c9 11 = .ok (.lreturn, 1) := by decide +kernel
theorem dJ9_min_7cf53_0 : decode cJ9_min_7cf53 0 = .ok (.iload_n 0, 1) := by decide +kernel
theorem dJ9_min_7cf53_1 : decode cJ9_min_7cf53 1 = .ok (.iload_n 1, 1) := by decide +kernel
theorem dJ9_min_7cf53_2 : decode cJ9_min_7cf53 2 = .ok (.if_icmp .gt 7, 3) := by decide +kernel
theorem dJ9_min_7cf53_5 : decode cJ9_min_7cf53 5 = .ok (.iload_n 0, 1) := by decide +kernel
theorem dJ9_min_7cf53_6 : decode cJ9_min_7cf53 6 = .ok (.goto 4, 3) := by decide +kernel
theorem dJ9_min_7cf53_9 : decode cJ9_min_7cf53 9 = .ok (.iload_n 1, 1) := by decide +kernel
theorem dJ9_min_7cf53_10 : decode cJ9_min_7cf53 10 = .ok (.ireturn, 1) := by decide +kernel
theorem dJ9_min_f86c9_0 : decode cJ9_min_f86c9 0 = .ok (.lload_n 0, 1) := by decide +kernel
theorem dJ9_min_f86c9_1 : decode cJ9_min_f86c9 1 = .ok (.lload_n 2, 1) := by decide +kernel
theorem dJ9_min_f86c9_2 : decode cJ9_min_f86c9 2 = .ok (.lcmp, 1) := by decide +kernel
theorem dJ9_min_f86c9_3 : decode cJ9_min_f86c9 3 = .ok (.ifCond .gt 7, 3) := by decide +kernel
theorem dJ9_min_f86c9_6 : decode cJ9_min_f86c9 6 = .ok (.lload_n 0, 1) := by decide +kernel
theorem dJ9_min_f86c9_7 : decode cJ9_min_f86c9 7 = .ok (.goto 4, 3) := by decide +kernel
theorem dJ9_min_f86c9_10 : decode cJ9_min_f86c9 10 = .ok (.lload_n 2, 1) := by decide +kernel
theorem dJ9_min_f86c9_11 : decode cJ9_min_f86c9 11 = .ok (.lreturn, 1) := by decide +kernel
