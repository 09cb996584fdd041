set_option maxRecDepth 20000 in
theorem ggX0_init_X2_init : GoodIn wsX0_init wsX2_init := goodIn_r _ [17, 18, 2, 3, 19, 20, 21, 22, 23, 24, 25, 26, 27, 28, 46, 47, 48, 49, 50, 51, 52, 53, 54, 55, 56] (by decide +kernel) (by decide +kernel)
set_option maxRecDepth 20000 in
theorem ggX0_init_X4_init : GoodIn wsX0_init wsX4_init := goodIn_r _ [30, 31, 2, 3, 24, 32, 33, 34, 35, 19, 36, 37, 38, 39, 60, 61, 62, 63, 64, 65, 66, 67, 68] (by decide +kernel) (by decide +kernel)
set_option maxRecDepth 20000 in
theorem ggX0_init_X1_init : GoodIn wsX0_init wsX1_init := goodIn_r _ [41, 42, 2, 3, 19, 43, 44, 45, 69, 70, 71, 72] (by decide +kernel) (by decide +kernel)
theorem dX0_init_0 : decode cX0_init 0 = .ok (.aload_n 0, 1) := by decide +kernel
theorem dX0_init_1 : decode cX0_init 1 = .ok (.invokespecial 3, 3) := by decide +kernel
theorem dX0_init_4 : decode cX0_init 4 = .ok (.aload_n 0, 1) := by decide +kernel
theorem dX0_init_5 : decode cX0_init 5 = .ok (.new 9, 3) := by decide +kernel
theorem dX0_init_8 : decode cX0_init 8 = .ok (.dup, 1) := by decide +kernel
theorem dX0_init_9 : decode cX0_init 9 = .ok (.invokespecial 11, 3) := by decide +kernel
theorem dX0_init_12 : decode cX0_init 12 = .ok (.putfield 12, 3) := by decide +kernel
theorem dX0_init_15 : decode cX0_init 15 = .ok (.aload_n 0, 1) := by decide +kernel
theorem dX0_init_16 : decode cX0_init 16 = .ok (.new 18, 3) := by decide +kernel
theorem dX0_init_19 : decode cX0_init 19 = .ok (.dup, 1) := by decide +kernel
theorem dX0_init_20 : decode cX0_init 20 = .ok (.invokespecial 20, 3) := by decide +kernel
theorem dX0_init_23 : decode cX0_init 23 = .ok (.putfield 21, 3) := by decide +kernel
theorem dX0_init_26 : decode cX0_init 26 = .ok (.aload_n 0, 1) := by decide +kernel
theorem dX0_init_27 : decode cX0_init 27 = .ok (.new 25, 3) := by decide +kernel
theorem dX0_init_30 : decode cX0_init 30 = .ok (.dup, 1) := by decide +kernel
theorem dX0_init_31 : decode cX0_init 31 = .ok (.iload_n 1, 1) := by decide +kernel
theorem dX0_init_32 : decode cX0_init 32 = .ok (.invokespecial 27, 3) := by decide +kernel
theorem dX0_init_35 : decode cX0_init 35 = .ok (.putfield 30, 3) := by decide +kernel
theorem dX0_init_38 : decode cX0_init 38 = .ok (.return_, 1) := by decide +kernel
set_option maxRecDepth 20000 in
theorem ggX0_run_X2_prepare : GoodIn wsX0_run wsX2_prepare := goodIn_r _ [7, 8, 9, 10, 11, 12, 13, 5, 14, 15, 16, 17, 18, 19, 20, 21, 22, 23, 24, 25, 26, 27, 28, 29, 30, 31, 32, 33, 34, 35, 36, 37, 38, 39, 40, 41, 42, 43, 44, 45, 46, 47, 48, 49, 50, 51, 52, 53, 54, 55, 56, 167, 168, 169, 170, 171, 172, 173, 174, 175, 176, 177, 178, 179, 180, 181, 182, 183, 184, 185, 186, 187, 188, 189, 190] (by decide +kernel) (by decide +kernel)
set_option maxRecDepth 20000 in
theorem ggX0_run_X4_begin : GoodIn wsX0_run wsX4_begin := goodIn_r _ [60, 61, 62, 63, 64, 65, 66, 67, 180, 181, 182, 183, 184, 185, 186, 187, 188, 189, 190, 191, 192, 193, 194, 195, 196, 197, 198, 199, 167, 168, 169, 170, 171, 172, 173, 174, 175, 176, 177, 178, 179] (by decide +kernel) (by decide +kernel)
set_option maxRecDepth 20000 in
theorem ggX0_run_X4_findAhead : GoodIn wsX0_run wsX4_findAhead := goodIn_r _ [70, 71, 72, 73, 74, 58, 75, 67, 76, 77, 78, 79, 80, 81, 82, 83, 84, 85, 86, 87, 88, 18, 89, 90, 55, 91, 92, 93, 94, 21, 95, 96, 97, 98, 66, 99, 100, 101, 102, 103, 61, 62, 63, 104, 105, 106, 180, 181, 182, 183, 184, 185, 186, 187, 188, 189, 190, 191, 192, 193, 194, 195, 196, 197, 198, 199, 167, 168, 169, 170, 171, 172, 173, 174, 175, 176, 177, 178, 179] (by decide +kernel) (by decide +kernel)
set_option maxRecDepth 20000 in
theorem ggX0_run_X4_findAwaited : GoodIn wsX0_run wsX4_findAwaited := goodIn_r _ [109, 71, 72, 73, 74, 58, 75, 67, 76, 77, 78, 110, 111, 112, 113, 64, 114, 115, 116, 117, 180, 181, 182, 183, 184, 185, 186, 187, 188, 189, 190, 191, 192, 193, 194, 195, 196, 197, 198, 199] (by decide +kernel) (by decide +kernel)
set_option maxRecDepth 20000 in
theorem ggX0_run_X4_findLiving : GoodIn wsX0_run wsX4_findLiving := goodIn_r _ [120, 64, 65, 76, 77, 78, 95, 96, 97, 58, 98, 66, 180, 181, 182, 183, 184, 185, 186, 187, 188, 189, 190, 167, 168, 169, 170, 171, 172, 173, 174, 175, 176, 177, 178, 179, 191, 192, 193, 194, 195, 196, 197, 198, 199] (by decide +kernel) (by decide +kernel)
set_option maxRecDepth 20000 in
theorem ggX0_run_X1_noteAll : GoodIn wsX0_run wsX1_noteAll := goodIn_r _ [124, 125, 73, 58, 74, 75, 67, 76, 77, 78, 37, 5, 38, 39, 9, 46, 47, 48, 10, 126, 127, 128, 122, 129, 49, 18, 50, 51, 130, 131, 132, 133, 134, 135, 52, 53, 54, 55, 56, 136, 137, 138, 61, 62, 63, 139, 140, 141, 142, 143, 144, 145, 146, 147, 148, 149, 150, 151, 152, 153, 154, 155, 156, 157, 158, 159, 160, 161, 162, 163, 96, 97, 98, 66, 200, 201, 202, 203, 180, 181, 182, 183, 184, 185, 186, 187, 188, 189, 190, 191, 192, 193, 194, 195, 196, 197, 198, 199, 167, 168, 169, 170, 171, 172, 173, 174, 175, 176, 177, 178, 179] (by decide +kernel) (by decide +kernel)
theorem dX0_run_0 : decode cX0_run 0 = .ok (.aload_n 0, 1) := by decide +kernel
theorem dX0_run_1 : decode cX0_run 1 = .ok (.getfield 12, 3) := by decide +kernel
theorem dX0_run_4 : decode cX0_run 4 = .ok (.aload_n 1, 1) := by decide +kernel
theorem dX0_run_5 : decode cX0_run 5 = .ok (.iload_n 2, 1) := by decide +kernel
theorem dX0_run_6 : decode cX0_run 6 = .ok (.iload_n 3, 1) := by decide +kernel
theorem dX0_run_7 : decode cX0_run 7 = .ok (.invokevirtual 34, 3) := by decide +kernel
theorem dX0_run_10 : decode cX0_run 10 = .ok (.aload_n 0, 1) := by decide +kernel
theorem dX0_run_11 : decode cX0_run 11 = .ok (.getfield 21, 3) := by decide +kernel
theorem dX0_run_14 : decode cX0_run 14 = .ok (.aload_n 1, 1) := by decide +kernel
theorem dX0_run_15 : decode cX0_run 15 = .ok (.aload_n 0, 1) := by decide +kernel
theorem dX0_run_16 : decode cX0_run 16 = .ok (.getfield 12, 3) := by decide +kernel
theorem dX0_run_19 : decode cX0_run 19 = .ok (.invokevirtual 38, 3) := by decide +kernel
theorem dX0_run_22 : decode cX0_run 22 = .ok (.aload_n 0, 1) := by decide +kernel
theorem dX0_run_23 : decode cX0_run 23 = .ok (.getfield 21, 3) := by decide +kernel
theorem dX0_run_26 : decode cX0_run 26 = .ok (.aload_n 1, 1) := by decide +kernel
theorem dX0_run_27 : decode cX0_run 27 = .ok (.aload_n 0, 1) := by decide +kernel
theorem dX0_run_28 : decode cX0_run 28 = .ok (.getfield 12, 3) := by decide +kernel
theorem dX0_run_31 : decode cX0_run 31 = .ok (.invokevirtual 42, 3) := by decide +kernel
theorem dX0_run_34 : decode cX0_run 34 = .ok (.aload_n 0, 1) := by decide +kernel
theorem dX0_run_35 : decode cX0_run 35 = .ok (.getfield 21, 3) := by decide +kernel
theorem dX0_run_38 : decode cX0_run 38 = .ok (.aload_n 0, 1) := by decide +kernel
theorem dX0_run_39 : decode cX0_run 39 = .ok (.getfield 12, 3) := by decide +kernel
theorem dX0_run_42 : decode cX0_run 42 = .ok (.invokevirtual 45, 3) := by decide +kernel
theorem dX0_run_45 : decode cX0_run 45 = .ok (.aload_n 0, 1) := by decide +kernel
theorem dX0_run_46 : decode cX0_run 46 = .ok (.getfield 21, 3) := by decide +kernel
theorem dX0_run_49 : decode cX0_run 49 = .ok (.aload_n 1, 1) := by decide +kernel
theorem dX0_run_50 : decode cX0_run 50 = .ok (.aload_n 0, 1) := by decide +kernel
theorem dX0_run_51 : decode cX0_run 51 = .ok (.getfield 12, 3) := by decide +kernel
theorem dX0_run_54 : decode cX0_run 54 = .ok (.invokevirtual 49, 3) := by decide +kernel
theorem dX0_run_57 : decode cX0_run 57 = .ok (.aload_n 0, 1) := by decide +kernel
theorem dX0_run_58 : decode cX0_run 58 = .ok (.getfield 30, 3) := by decide +kernel
theorem dX0_run_61 : decode cX0_run 61 = .ok (.aload_n 1, 1) := by decide +kernel
theorem dX0_run_62 : decode cX0_run 62 = .ok (.aload_n 0, 1) := by decide +kernel
theorem dX0_run_63 : decode cX0_run 63 = .ok (.getfield 12, 3) := by decide +kernel
theorem dX0_run_66 : decode cX0_run 66 = .ok (.aload_n 0, 1) := by decide +kernel
theorem dX0_run_67 : decode cX0_run 67 = .ok (.getfield 21, 3) := by decide +kernel
theorem dX0_run_70 : decode cX0_run 70 = .ok (.invokevirtual 52, 3) := by decide +kernel
theorem dX0_run_73 : decode cX0_run 73 = .ok (.return_, 1) := by decide +kernel
theorem dX0_countLoans_0 : decode cX0_countLoans 0 = .ok (.iconst 0, 1) := by decide +kernel
theorem dX0_countLoans_1 : decode cX0_countLoans 1 = .ok (.istore_n 2, 1) := by decide +kernel
theorem dX0_countLoans_2 : decode cX0_countLoans 2 = .ok (.iconst 0, 1) := by decide +kernel
theorem dX0_countLoans_3 : decode cX0_countLoans 3 = .ok (.istore_n 3, 1) := by decide +kernel
theorem dX0_countLoans_4 : decode cX0_countLoans 4 = .ok (.iload_n 3, 1) := by decide +kernel
theorem dX0_countLoans_5 : decode cX0_countLoans 5 = .ok (.aload_n 1, 1) := by decide +kernel
theorem dX0_countLoans_6 : decode cX0_countLoans 6 = .ok (.getfield 56, 3) := by decide +kernel
theorem dX0_countLoans_9 : decode cX0_countLoans 9 = .ok (.if_icmp .ge 36, 3) := by decide +kernel
theorem dX0_countLoans_45 : decode cX0_countLoans 45 = .ok (.iload_n 2, 1) := by decide +kernel
theorem dX0_countLoans_46 : decode cX0_countLoans 46 = .ok (.ireturn, 1) := by decide +kernel
set_option maxRecDepth 20000 in
theorem ggX0_sizeOfRegion_X3_isMadeLoan : GoodIn wsX0_sizeOfRegion wsX3_isMadeLoan := goodIn_r _ [5, 6, 7, 19, 20, 21, 22, 23, 24, 25, 26, 27, 28, 29, 30, 31] (by decide +kernel) (by decide +kernel)
theorem dX0_sizeOfRegion_0 : decode cX0_sizeOfRegion 0 = .ok (.aload_n 1, 1) := by decide +kernel
theorem dX0_sizeOfRegion_1 : decode cX0_sizeOfRegion 1 = .ok (.iload_n 2, 1) := by decide +kernel
theorem dX0_sizeOfRegion_2 : decode cX0_sizeOfRegion 2 = .ok (.invokevirtual 62, 3) := by decide +kernel
theorem dX0_sizeOfRegion_5 : decode cX0_sizeOfRegion 5 = .ok (.ifCond .eq 14, 3) := by decide +kernel
theorem dX0_sizeOfRegion_19 : decode cX0_sizeOfRegion 19 = .ok (.iconst (-1), 1) := by decide +kernel
theorem dX0_sizeOfRegion_20 : decode cX0_sizeOfRegion 20 = .ok (.ireturn, 1) := by decide +kernel
theorem dX1_init_0 : decode cX1_init 0 = .ok (.aload_n 0, 1) := by decide +kernel
theorem dX1_init_1 : decode cX1_init 1 = .ok (.invokespecial 3, 3) := by decide +kernel
theorem dX1_init_4 : decode cX1_init 4 = .ok (.aload_n 0, 1) := by decide +kernel
theorem dX1_init_5 : decode cX1_init 5 = .ok (.iload_n 1, 1) := by decide +kernel
theorem dX1_init_6 : decode cX1_init 6 = .ok (.newarray .int, 2) := by decide +kernel
theorem dX1_init_8 : decode cX1_init 8 = .ok (.putfield 9, 3) := by decide +kernel
theorem dX1_init_11 : decode cX1_init 11 = .ok (.aload_n 0, 1) := by decide +kernel
theorem dX1_init_12 : decode cX1_init 12 = .ok (.iload_n 1, 1) := by decide +kernel
theorem dX1_init_13 : decode cX1_init 13 = .ok (.newarray .int, 2) := by decide +kernel
theorem dX1_init_15 : decode cX1_init 15 = .ok (.putfield 15, 3) := by decide +kernel
theorem dX1_init_18 : decode cX1_init 18 = .ok (.aload_n 0, 1) := by decide +kernel
theorem dX1_init_19 : decode cX1_init 19 = .ok (.iload_n 1, 1) := by decide +kernel
theorem dX1_init_20 : decode cX1_init 20 = .ok (.newarray .int, 2) := by decide +kernel
theorem dX1_init_22 : decode cX1_init 22 = .ok (.putfield 18, 3) := by decide +kernel
theorem dX1_init_25 : decode cX1_init 25 = .ok (.return_, 1) := by decide +kernel
theorem dX1_noteAll_0 : decode cX1_noteAll 0 = .ok (.aload_n 0, 1) := by decide +kernel
theorem dX1_noteAll_1 : decode cX1_noteAll 1 = .ok (.iconst 0, 1) := by decide +kernel
theorem dX1_noteAll_2 : decode cX1_noteAll 2 = .ok (.putfield 21, 3) := by decide +kernel
theorem dX1_noteAll_5 : decode cX1_noteAll 5 = .ok (.iconst 0, 1) := by decide +kernel
theorem dX1_noteAll_6 : decode cX1_noteAll 6 = .ok (.istore 4, 2) := by decide +kernel
theorem dX1_noteAll_8 : decode cX1_noteAll 8 = .ok (.iload 4, 2) := by decide +kernel
theorem dX1_noteAll_10 : decode cX1_noteAll 10 = .ok (.aload_n 2, 1) := by decide +kernel
theorem dX1_noteAll_11 : decode cX1_noteAll 11 = .ok (.getfield 25, 3) := by decide +kernel
theorem dX1_noteAll_14 : decode cX1_noteAll 14 = .ok (.if_icmp .ge 95, 3) := by decide +kernel
theorem dX1_noteAll_109 : decode cX1_noteAll 109 = .ok (.return_, 1) := by decide +kernel
theorem dX1_rowCount_0 : decode cX1_rowCount 0 = .ok (.aload_n 0, 1) := by decide +kernel
theorem dX1_rowCount_1 : decode cX1_rowCount 1 = .ok (.getfield 21, 3) := by decide +kernel
theorem dX1_rowCount_4 : decode cX1_rowCount 4 = .ok (.aload_n 0, 1) := by decide +kernel
theorem dX1_rowCount_5 : decode cX1_rowCount 5 = .ok (.getfield 9, 3) := by decide +kernel
theorem dX1_rowCount_8 : decode cX1_rowCount 8 = .ok (.arraylength, 1) := by decide +kernel
theorem dX1_rowCount_9 : decode cX1_rowCount 9 = .ok (.invokestatic 104, 3) := by decide +kernel
theorem dX1_rowCount_12 : decode cX1_rowCount 12 = .ok (.ireturn, 1) := by decide +kernel
set_option maxRecDepth 20000 in
theorem ggX1_countOf_X1_rowCount : GoodIn wsX1_countOf wsX1_rowCount := goodIn_r _ [6, 7, 8, 9, 10, 11, 12, 13, 14, 15, 16] (by decide +kernel) (by decide +kernel)
set_option maxRecDepth 20000 in
theorem gX1_countOf_X1_rowCount : GoodIn wsX1_countOf (wsV RX1 110 RX1 yX1_rowCount wsX1_rowCount) := goodIn_app (goodIn_of _ (by decide +kernel)) ggX1_countOf_X1_rowCount
theorem dX1_countOf_0 : decode cX1_countOf 0 = .ok (.iconst 0, 1) := by decide +kernel
theorem dX1_countOf_1 : decode cX1_countOf 1 = .ok (.istore_n 2, 1) := by decide +kernel
theorem dX1_countOf_2 : decode cX1_countOf 2 = .ok (.iconst 0, 1) := by decide +kernel
theorem dX1_countOf_3 : decode cX1_countOf 3 = .ok (.istore_n 3, 1) := by decide +kernel
theorem dX1_countOf_4 : decode cX1_countOf 4 = .ok (.iload_n 3, 1) := by decide +kernel
theorem dX1_countOf_5 : decode cX1_countOf 5 = .ok (.aload_n 0, 1) := by decide +kernel
theorem dX1_countOf_6 : decode cX1_countOf 6 = .ok (.invokevirtual 110, 3) := by decide +kernel
theorem dX1_countOf_9 : decode cX1_countOf 9 = .ok (.if_icmp .ge 27, 3) := by decide +kernel
theorem dX1_countOf_36 : decode cX1_countOf 36 = .ok (.iload_n 2, 1) := by decide +kernel
theorem dX1_countOf_37 : decode cX1_countOf 37 = .ok (.ireturn, 1) := by decide +kernel
theorem dX2_init_0 : decode cX2_init 0 = .ok (.aload_n 0, 1) := by decide +kernel
theorem dX2_init_1 : decode cX2_init 1 = .ok (.invokespecial 3, 3) := by decide +kernel
theorem dX2_init_4 : decode cX2_init 4 = .ok (.aload_n 0, 1) := by decide +kernel
theorem dX2_init_5 : decode cX2_init 5 = .ok (.bipush 40, 2) := by decide +kernel
theorem dX2_init_7 : decode cX2_init 7 = .ok (.newarray .int, 2) := by decide +kernel
theorem dX2_init_9 : decode cX2_init 9 = .ok (.putfield 9, 3) := by decide +kernel
theorem dX2_init_12 : decode cX2_init 12 = .ok (.aload_n 0, 1) := by decide +kernel
theorem dX2_init_13 : decode cX2_init 13 = .ok (.bipush 40, 2) := by decide +kernel
theorem dX2_init_15 : decode cX2_init 15 = .ok (.newarray .int, 2) := by decide +kernel
theorem dX2_init_17 : decode cX2_init 17 = .ok (.putfield 15, 3) := by decide +kernel
theorem dX2_init_20 : decode cX2_init 20 = .ok (.aload_n 0, 1) := by decide +kernel
theorem dX2_init_21 : decode cX2_init 21 = .ok (.bipush 40, 2) := by decide +kernel
theorem dX2_init_23 : decode cX2_init 23 = .ok (.newarray .int, 2) := by decide +kernel
theorem dX2_init_25 : decode cX2_init 25 = .ok (.putfield 18, 3) := by decide +kernel
theorem dX2_init_28 : decode cX2_init 28 = .ok (.aload_n 0, 1) := by decide +kernel
theorem dX2_init_29 : decode cX2_init 29 = .ok (.bipush 40, 2) := by decide +kernel
theorem dX2_init_31 : decode cX2_init 31 = .ok (.newarray .int, 2) := by decide +kernel
theorem dX2_init_33 : decode cX2_init 33 = .ok (.putfield 21, 3) := by decide +kernel
theorem dX2_init_36 : decode cX2_init 36 = .ok (.aload_n 0, 1) := by decide +kernel
theorem dX2_init_37 : decode cX2_init 37 = .ok (.bipush 40, 2) := by decide +kernel
theorem dX2_init_39 : decode cX2_init 39 = .ok (.newarray .long, 2) := by decide +kernel
theorem dX2_init_41 : decode cX2_init 41 = .ok (.putfield 24, 3) := by decide +kernel
theorem dX2_init_44 : decode cX2_init 44 = .ok (.aload_n 0, 1) := by decide +kernel
theorem dX2_init_45 : decode cX2_init 45 = .ok (.bipush 40, 2) := by decide +kernel
theorem dX2_init_47 : decode cX2_init 47 = .ok (.newarray .long, 2) := by decide +kernel
theorem dX2_init_49 : decode cX2_init 49 = .ok (.putfield 28, 3) := by decide +kernel
theorem dX2_init_52 : decode cX2_init 52 = .ok (.aload_n 0, 1) := by decide +kernel
theorem dX2_init_53 : decode cX2_init 53 = .ok (.bipush 40, 2) := by decide +kernel
theorem dX2_init_55 : decode cX2_init 55 = .ok (.newarray .long, 2) := by decide +kernel
theorem dX2_init_57 : decode cX2_init 57 = .ok (.putfield 31, 3) := by decide +kernel
theorem dX2_init_60 : decode cX2_init 60 = .ok (.aload_n 0, 1) := by decide +kernel
theorem dX2_init_61 : decode cX2_init 61 = .ok (.bipush 40, 2) := by decide +kernel
theorem dX2_init_63 : decode cX2_init 63 = .ok (.newarray .long, 2) := by decide +kernel
theorem dX2_init_65 : decode cX2_init 65 = .ok (.putfield 34, 3) := by decide +kernel
theorem dX2_init_68 : decode cX2_init 68 = .ok (.return_, 1) := by decide +kernel
theorem dX2_prepare_0 : decode cX2_prepare 0 = .ok (.aload_n 0, 1) := by decide +kernel
theorem dX2_prepare_1 : decode cX2_prepare 1 = .ok (.aload_n 1, 1) := by decide +kernel
theorem dX2_prepare_2 : decode cX2_prepare 2 = .ok (.getfield 37, 3) := by decide +kernel
theorem dX2_prepare_5 : decode cX2_prepare 5 = .ok (.putfield 43, 3) := by decide +kernel
theorem dX2_prepare_8 : decode cX2_prepare 8 = .ok (.aload_n 0, 1) := by decide +kernel
theorem dX2_prepare_9 : decode cX2_prepare 9 = .ok (.iload_n 2, 1) := by decide +kernel
theorem dX2_prepare_10 : decode cX2_prepare 10 = .ok (.putfield 46, 3) := by decide +kernel
theorem dX2_prepare_13 : decode cX2_prepare 13 = .ok (.aload_n 0, 1) := by decide +kernel
theorem dX2_prepare_14 : decode cX2_prepare 14 = .ok (.iload_n 3, 1) := by decide +kernel
theorem dX2_prepare_15 : decode cX2_prepare 15 = .ok (.putfield 49, 3) := by decide +kernel
theorem dX2_prepare_18 : decode cX2_prepare 18 = .ok (.iconst 0, 1) := by decide +kernel
theorem dX2_prepare_19 : decode cX2_prepare 19 = .ok (.istore 4, 2) := by decide +kernel
theorem dX2_prepare_21 : decode cX2_prepare 21 = .ok (.iload 4, 2) := by decide +kernel
theorem dX2_prepare_23 : decode cX2_prepare 23 = .ok (.aload_n 0, 1) := by decide +kernel
theorem dX2_prepare_24 : decode cX2_prepare 24 = .ok (.getfield 43, 3) := by decide +kernel
theorem dX2_prepare_27 : decode cX2_prepare 27 = .ok (.if_icmp .ge 23, 3) := by decide +kernel
theorem dX2_prepare_50 : decode cX2_prepare 50 = .ok (.return_, 1) := by decide +kernel
theorem dX3_init_0 : decode cX3_init 0 = .ok (.aload_n 0, 1) := by decide +kernel
theorem dX3_init_1 : decode cX3_init 1 = .ok (.invokespecial 3, 3) := by decide +kernel
theorem dX3_init_4 : decode cX3_init 4 = .ok (.aload_n 0, 1) := by decide +kernel
theorem dX3_init_5 : decode cX3_init 5 = .ok (.bipush 12, 2) := by decide +kernel
theorem dX3_init_7 : decode cX3_init 7 = .ok (.newarray .int, 2) := by decide +kernel
theorem dX3_init_9 : decode cX3_init 9 = .ok (.putfield 9, 3) := by decide +kernel
theorem dX3_init_12 : decode cX3_init 12 = .ok (.aload_n 0, 1) := by decide +kernel
theorem dX3_init_13 : decode cX3_init 13 = .ok (.bipush 40, 2) := by decide +kernel
theorem dX3_init_15 : decode cX3_init 15 = .ok (.newarray .int, 2) := by decide +kernel
theorem dX3_init_17 : decode cX3_init 17 = .ok (.putfield 15, 3) := by decide +kernel
theorem dX3_init_20 : decode cX3_init 20 = .ok (.aload_n 0, 1) := by decide +kernel
theorem dX3_init_21 : decode cX3_init 21 = .ok (.bipush 40, 2) := by decide +kernel
theorem dX3_init_23 : decode cX3_init 23 = .ok (.newarray .int, 2) := by decide +kernel
theorem dX3_init_25 : decode cX3_init 25 = .ok (.putfield 18, 3) := by decide +kernel
theorem dX3_init_28 : decode cX3_init 28 = .ok (.aload_n 0, 1) := by decide +kernel
theorem dX3_init_29 : decode cX3_init 29 = .ok (.bipush 40, 2) := by decide +kernel
theorem dX3_init_31 : decode cX3_init 31 = .ok (.newarray .int, 2) := by decide +kernel
theorem dX3_init_33 : decode cX3_init 33 = .ok (.putfield 21, 3) := by decide +kernel
theorem dX3_init_36 : decode cX3_init 36 = .ok (.aload_n 0, 1) := by decide +kernel
theorem dX3_init_37 : decode cX3_init 37 = .ok (.bipush 40, 2) := by decide +kernel
theorem dX3_init_39 : decode cX3_init 39 = .ok (.newarray .int, 2) := by decide +kernel
theorem dX3_init_41 : decode cX3_init 41 = .ok (.putfield 24, 3) := by decide +kernel
theorem dX3_init_44 : decode cX3_init 44 = .ok (.aload_n 0, 1) := by decide +kernel
theorem dX3_init_45 : decode cX3_init 45 = .ok (.bipush 40, 2) := by decide +kernel
theorem dX3_init_47 : decode cX3_init 47 = .ok (.newarray .int, 2) := by decide +kernel
theorem dX3_init_49 : decode cX3_init 49 = .ok (.putfield 27, 3) := by decide +kernel
theorem dX3_init_52 : decode cX3_init 52 = .ok (.aload_n 0, 1) := by decide +kernel
theorem dX3_init_53 : decode cX3_init 53 = .ok (.bipush 120, 2) := by decide +kernel
theorem dX3_init_55 : decode cX3_init 55 = .ok (.newarray .int, 2) := by decide +kernel
theorem dX3_init_57 : decode cX3_init 57 = .ok (.putfield 30, 3) := by decide +kernel
theorem dX3_init_60 : decode cX3_init 60 = .ok (.aload_n 0, 1) := by decide +kernel
theorem dX3_init_61 : decode cX3_init 61 = .ok (.bipush 120, 2) := by decide +kernel
theorem dX3_init_63 : decode cX3_init 63 = .ok (.newarray .int, 2) := by decide +kernel
theorem dX3_init_65 : decode cX3_init 65 = .ok (.putfield 33, 3) := by decide +kernel
theorem dX3_init_68 : decode cX3_init 68 = .ok (.aload_n 0, 1) := by decide +kernel
theorem dX3_init_69 : decode cX3_init 69 = .ok (.bipush 120, 2) := by decide +kernel
theorem dX3_init_71 : decode cX3_init 71 = .ok (.newarray .int, 2) := by decide +kernel
theorem dX3_init_73 : decode cX3_init 73 = .ok (.putfield 36, 3) := by decide +kernel
theorem dX3_init_76 : decode cX3_init 76 = .ok (.return_, 1) := by decide +kernel
set_option maxRecDepth 20000 in
theorem ggX3_addVariable_X3_cellsOf : GoodIn wsX3_addVariable wsX3_cellsOf := goodIn_r _ [9, 2, 10, 11, 12, 13, 14, 15, 16, 17, 18, 19, 20, 21, 22, 23] (by decide +kernel) (by decide +kernel)
set_option maxRecDepth 20000 in
theorem gX3_addVariable_X3_cellsOf : GoodIn wsX3_addVariable (wsV RX3 43 RX3 yX3_cellsOf wsX3_cellsOf) := goodIn_app (goodIn_of _ (by decide +kernel)) ggX3_addVariable_X3_cellsOf
theorem dX3_addVariable_0 : decode cX3_addVariable 0 = .ok (.aload_n 0, 1) := by decide +kernel
theorem dX3_addVariable_1 : decode cX3_addVariable 1 = .ok (.getfield 39, 3) := by decide +kernel
theorem dX3_addVariable_4 : decode cX3_addVariable 4 = .ok (.istore_n 3, 1) := by decide +kernel
theorem dX3_addVariable_5 : decode cX3_addVariable 5 = .ok (.aload_n 0, 1) := by decide +kernel
theorem dX3_addVariable_6 : decode cX3_addVariable 6 = .ok (.getfield 9, 3) := by decide +kernel
theorem dX3_addVariable_9 : decode cX3_addVariable 9 = .ok (.iload_n 3, 1) := by decide +kernel
theorem dX3_addVariable_10 : decode cX3_addVariable 10 = .ok (.iload_n 1, 1) := by decide +kernel
theorem dX3_addVariable_11 : decode cX3_addVariable 11 = .ok (.iastore, 1) := by decide +kernel
theorem dX3_addVariable_12 : decode cX3_addVariable 12 = .ok (.aload_n 0, 1) := by decide +kernel
theorem dX3_addVariable_13 : decode cX3_addVariable 13 = .ok (.dup, 1) := by decide +kernel
theorem dX3_addVariable_14 : decode cX3_addVariable 14 = .ok (.getfield 39, 3) := by decide +kernel
theorem dX3_addVariable_17 : decode cX3_addVariable 17 = .ok (.iconst 1, 1) := by decide +kernel
theorem dX3_addVariable_18 : decode cX3_addVariable 18 = .ok (.iadd, 1) := by decide +kernel
theorem dX3_addVariable_19 : decode cX3_addVariable 19 = .ok (.putfield 39, 3) := by decide +kernel
theorem dX3_addVariable_22 : decode cX3_addVariable 22 = .ok (.aload_n 0, 1) := by decide +kernel
theorem dX3_addVariable_23 : decode cX3_addVariable 23 = .ok (.iload_n 3, 1) := by decide +kernel
theorem dX3_addVariable_24 : decode cX3_addVariable 24 = .ok (.iconst (-1), 1) := by decide +kernel
theorem dX3_addVariable_25 : decode cX3_addVariable 25 = .ok (.invokevirtual 43, 3) := by decide +kernel
theorem dX3_addVariable_28 : decode cX3_addVariable 28 = .ok (.lstore 4, 2) := by decide +kernel
theorem dX3_addVariable_30 : decode cX3_addVariable 30 = .ok (.iload_n 2, 1) := by decide +kernel
theorem dX3_addVariable_31 : decode cX3_addVariable 31 = .ok (.ifCond .eq 17, 3) := by decide +kernel
theorem dX3_addVariable_34 : decode cX3_addVariable 34 = .ok (.aload_n 0, 1) := by decide +kernel
theorem dX3_addVariable_35 : decode cX3_addVariable 35 = .ok (.dup, 1) := by decide +kernel
theorem dX3_addVariable_36 : decode cX3_addVariable 36 = .ok (.getfield 47, 3) := by decide +kernel
theorem dX3_addVariable_39 : decode cX3_addVariable 39 = .ok (.lload 4, 2) := by decide +kernel
theorem dX3_addVariable_41 : decode cX3_addVariable 41 = .ok (.lor, 1) := by decide +kernel
theorem dX3_addVariable_42 : decode cX3_addVariable 42 = .ok (.putfield 47, 3) := by decide +kernel
theorem dX3_addVariable_45 : decode cX3_addVariable 45 = .ok (.goto 14, 3) := by decide +kernel
theorem dX3_addVariable_48 : decode cX3_addVariable 48 = .ok (.aload_n 0, 1) := by decide +kernel
theorem dX3_addVariable_49 : decode cX3_addVariable 49 = .ok (.dup, 1) := by decide +kernel
theorem dX3_addVariable_50 : decode cX3_addVariable 50 = .ok (.getfield 51, 3) := by decide +kernel
theorem dX3_addVariable_53 : decode cX3_addVariable 53 = .ok (.lload 4, 2) := by decide +kernel
theorem dX3_addVariable_55 : decode cX3_addVariable 55 = .ok (.lor, 1) := by decide +kernel
theorem dX3_addVariable_56 : decode cX3_addVariable 56 = .ok (.putfield 51, 3) := by decide +kernel
theorem dX3_addVariable_59 : decode cX3_addVariable 59 = .ok (.iload_n 3, 1) := by decide +kernel
theorem dX3_addVariable_60 : decode cX3_addVariable 60 = .ok (.ireturn, 1) := by decide +kernel
theorem dX3_addStatement_0 : decode cX3_addStatement 0 = .ok (.aload_n 0, 1) := by decide +kernel
theorem dX3_addStatement_1 : decode cX3_addStatement 1 = .ok (.getfield 54, 3) := by decide +kernel
theorem dX3_addStatement_4 : decode cX3_addStatement 4 = .ok (.istore_n 2, 1) := by decide +kernel
theorem dX3_addStatement_5 : decode cX3_addStatement 5 = .ok (.aload_n 0, 1) := by decide +kernel
theorem dX3_addStatement_6 : decode cX3_addStatement 6 = .ok (.getfield 15, 3) := by decide +kernel
theorem dX3_addStatement_9 : decode cX3_addStatement 9 = .ok (.iload_n 2, 1) := by decide +kernel
theorem dX3_addStatement_10 : decode cX3_addStatement 10 = .ok (.iload_n 1, 1) := by decide +kernel
theorem dX3_addStatement_11 : decode cX3_addStatement 11 = .ok (.iastore, 1) := by decide +kernel
theorem dX3_addStatement_12 : decode cX3_addStatement 12 = .ok (.aload_n 0, 1) := by decide +kernel
theorem dX3_addStatement_13 : decode cX3_addStatement 13 = .ok (.getfield 18, 3) := by decide +kernel
theorem dX3_addStatement_16 : decode cX3_addStatement 16 = .ok (.iload_n 2, 1) := by decide +kernel
theorem dX3_addStatement_17 : decode cX3_addStatement 17 = .ok (.iconst (-1), 1) := by decide +kernel
theorem dX3_addStatement_18 : decode cX3_addStatement 18 = .ok (.iastore, 1) := by decide +kernel
theorem dX3_addStatement_19 : decode cX3_addStatement 19 = .ok (.aload_n 0, 1) := by decide +kernel
theorem dX3_addStatement_20 : decode cX3_addStatement 20 = .ok (.getfield 21, 3) := by decide +kernel
theorem dX3_addStatement_23 : decode cX3_addStatement 23 = .ok (.iload_n 2, 1) := by decide +kernel
theorem dX3_addStatement_24 : decode cX3_addStatement 24 = .ok (.iconst (-1), 1) := by decide +kernel
theorem dX3_addStatement_25 : decode cX3_addStatement 25 = .ok (.iastore, 1) := by decide +kernel
theorem dX3_addStatement_26 : decode cX3_addStatement 26 = .ok (.aload_n 0, 1) := by decide +kernel
theorem dX3_addStatement_27 : decode cX3_addStatement 27 = .ok (.getfield 24, 3) := by decide +kernel
theorem dX3_addStatement_30 : decode cX3_addStatement 30 = .ok (.iload_n 2, 1) := by decide +kernel
theorem dX3_addStatement_31 : decode cX3_addStatement 31 = .ok (.iconst 0, 1) := by decide +kernel
theorem dX3_addStatement_32 : decode cX3_addStatement 32 = .ok (.iastore, 1) := by decide +kernel
theorem dX3_addStatement_33 : decode cX3_addStatement 33 = .ok (.aload_n 0, 1) := by decide +kernel
theorem dX3_addStatement_34 : decode cX3_addStatement 34 = .ok (.getfield 27, 3) := by decide +kernel
theorem dX3_addStatement_37 : decode cX3_addStatement 37 = .ok (.iload_n 2, 1) := by decide +kernel
theorem dX3_addStatement_38 : decode cX3_addStatement 38 = .ok (.iconst 0, 1) := by decide +kernel
theorem dX3_addStatement_39 : decode cX3_addStatement 39 = .ok (.iastore, 1) := by decide +kernel
theorem dX3_addStatement_40 : decode cX3_addStatement 40 = .ok (.aload_n 0, 1) := by decide +kernel
theorem dX3_addStatement_41 : decode cX3_addStatement 41 = .ok (.dup, 1) := by decide +kernel
theorem dX3_addStatement_42 : decode cX3_addStatement 42 = .ok (.getfield 54, 3) := by decide +kernel
theorem dX3_addStatement_45 : decode cX3_addStatement 45 = .ok (.iconst 1, 1) := by decide +kernel
theorem dX3_addStatement_46 : decode cX3_addStatement 46 = .ok (.iadd, 1) := by decide +kernel
theorem dX3_addStatement_47 : decode cX3_addStatement 47 = .ok (.putfield 54, 3) := by decide +kernel
theorem dX3_addStatement_50 : decode cX3_addStatement 50 = .ok (.iload_n 2, 1) := by decide +kernel
theorem dX3_addStatement_51 : decode cX3_addStatement 51 = .ok (.ireturn, 1) := by decide +kernel
theorem dX3_isMadeLoan_0 : decode cX3_isMadeLoan 0 = .ok (.iload_n 1, 1) := by decide +kernel
theorem dX3_isMadeLoan_1 : decode cX3_isMadeLoan 1 = .ok (.ifCond .lt 35, 3) := by decide +kernel
theorem dX3_isMadeLoan_4 : decode cX3_isMadeLoan 4 = .ok (.iload_n 1, 1) := by decide +kernel
theorem dX3_isMadeLoan_5 : decode cX3_isMadeLoan 5 = .ok (.aload_n 0, 1) := by decide +kernel
theorem dX3_isMadeLoan_6 : decode cX3_isMadeLoan 6 = .ok (.getfield 54, 3) := by decide +kernel
theorem dX3_isMadeLoan_9 : decode cX3_isMadeLoan 9 = .ok (.if_icmp .ge 27, 3) := by decide +kernel
theorem dX3_isMadeLoan_36 : decode cX3_isMadeLoan 36 = .ok (.iconst 0, 1) := by decide +kernel
theorem dX3_isMadeLoan_37 : decode cX3_isMadeLoan 37 = .ok (.ireturn, 1) := by decide +kernel
theorem dX3_cellsOf_0 : decode cX3_cellsOf 0 = .ok (.iconst 3, 1) := by decide +kernel
theorem dX3_cellsOf_1 : decode cX3_cellsOf 1 = .ok (.iload_n 1, 1) := by decide +kernel
theorem dX3_cellsOf_2 : decode cX3_cellsOf 2 = .ok (.imul, 1) := by decide +kernel
theorem dX3_cellsOf_3 : decode cX3_cellsOf 3 = .ok (.istore_n 3, 1) := by decide +kernel
theorem dX3_cellsOf_4 : decode cX3_cellsOf 4 = .ok (.aload_n 0, 1) := by decide +kernel
theorem dX3_cellsOf_5 : decode cX3_cellsOf 5 = .ok (.getfield 9, 3) := by decide +kernel
theorem dX3_cellsOf_8 : decode cX3_cellsOf 8 = .ok (.iload_n 1, 1) := by decide +kernel
theorem dX3_cellsOf_9 : decode cX3_cellsOf 9 = .ok (.iaload, 1) := by decide +kernel
theorem dX3_cellsOf_10 : decode cX3_cellsOf 10 = .ok (.iconst 1, 1) := by decide +kernel
theorem dX3_cellsOf_11 : decode cX3_cellsOf 11 = .ok (.if_icmp .eq 7, 3) := by decide +kernel
theorem dX3_cellsOf_14 : decode cX3_cellsOf 14 = .ok (.lconst 1, 1) := by decide +kernel
theorem dX3_cellsOf_15 : decode cX3_cellsOf 15 = .ok (.iload_n 3, 1) := by decide +kernel
theorem dX3_cellsOf_16 : decode cX3_cellsOf 16 = .ok (.lshl, 1) := by decide +kernel
theorem dX3_cellsOf_17 : decode cX3_cellsOf 17 = .ok (.lreturn, 1) := by decide +kernel
theorem dX3_cellsOf_18 : decode cX3_cellsOf 18 = .ok (.iload_n 2, 1) := by decide +kernel
theorem dX3_cellsOf_19 : decode cX3_cellsOf 19 = .ok (.iconst (-1), 1) := by decide +kernel
theorem dX3_cellsOf_20 : decode cX3_cellsOf 20 = .ok (.if_icmp .ne 11, 3) := by decide +kernel
theorem dX3_cellsOf_23 : decode cX3_cellsOf 23 = .ok (.ldc2_w 61, 3) := by decide +kernel
theorem dX3_cellsOf_26 : decode cX3_cellsOf 26 = .ok (.iload_n 3, 1) := by decide +kernel
theorem dX3_cellsOf_27 : decode cX3_cellsOf 27 = .ok (.lshl, 1) := by decide +kernel
theorem dX3_cellsOf_28 : decode cX3_cellsOf 28 = .ok (.goto 8, 3) := by decide +kernel
theorem dX3_cellsOf_36 : decode cX3_cellsOf 36 = .ok (.lreturn, 1) := by decide +kernel
theorem dX4_init_0 : decode cX4_init 0 = .ok (.aload_n 0, 1) := by decide +kernel
theorem dX4_init_1 : decode cX4_init 1 = .ok (.invokespecial 3, 3) := by decide +kernel
theorem dX4_init_4 : decode cX4_init 4 = .ok (.aload_n 0, 1) := by decide +kernel
theorem dX4_init_5 : decode cX4_init 5 = .ok (.bipush 40, 2) := by decide +kernel
theorem dX4_init_7 : decode cX4_init 7 = .ok (.newarray .long, 2) := by decide +kernel
theorem dX4_init_9 : decode cX4_init 9 = .ok (.putfield 9, 3) := by decide +kernel
theorem dX4_init_12 : decode cX4_init 12 = .ok (.aload_n 0, 1) := by decide +kernel
theorem dX4_init_13 : decode cX4_init 13 = .ok (.bipush 40, 2) := by decide +kernel
theorem dX4_init_15 : decode cX4_init 15 = .ok (.newarray .long, 2) := by decide +kernel
theorem dX4_init_17 : decode cX4_init 17 = .ok (.putfield 15, 3) := by decide +kernel
theorem dX4_init_20 : decode cX4_init 20 = .ok (.aload_n 0, 1) := by decide +kernel
theorem dX4_init_21 : decode cX4_init 21 = .ok (.bipush 40, 2) := by decide +kernel
theorem dX4_init_23 : decode cX4_init 23 = .ok (.newarray .long, 2) := by decide +kernel
theorem dX4_init_25 : decode cX4_init 25 = .ok (.putfield 18, 3) := by decide +kernel
theorem dX4_init_28 : decode cX4_init 28 = .ok (.aload_n 0, 1) := by decide +kernel
theorem dX4_init_29 : decode cX4_init 29 = .ok (.sipush 480, 3) := by decide +kernel
theorem dX4_init_32 : decode cX4_init 32 = .ok (.newarray .long, 2) := by decide +kernel
theorem dX4_init_34 : decode cX4_init 34 = .ok (.putfield 21, 3) := by decide +kernel
theorem dX4_init_37 : decode cX4_init 37 = .ok (.aload_n 0, 1) := by decide +kernel
theorem dX4_init_38 : decode cX4_init 38 = .ok (.bipush 40, 2) := by decide +kernel
theorem dX4_init_40 : decode cX4_init 40 = .ok (.newarray .int, 2) := by decide +kernel
theorem dX4_init_42 : decode cX4_init 42 = .ok (.putfield 24, 3) := by decide +kernel
theorem dX4_init_45 : decode cX4_init 45 = .ok (.aload_n 0, 1) := by decide +kernel
theorem dX4_init_46 : decode cX4_init 46 = .ok (.bipush 40, 2) := by decide +kernel
theorem dX4_init_48 : decode cX4_init 48 = .ok (.newarray .long, 2) := by decide +kernel
theorem dX4_init_50 : decode cX4_init 50 = .ok (.putfield 28, 3) := by decide +kernel
theorem dX4_init_53 : decode cX4_init 53 = .ok (.aload_n 0, 1) := by decide +kernel
theorem dX4_init_54 : decode cX4_init 54 = .ok (.bipush 12, 2) := by decide +kernel
theorem dX4_init_56 : decode cX4_init 56 = .ok (.newarray .long, 2) := by decide +kernel
theorem dX4_init_58 : decode cX4_init 58 = .ok (.putfield 31, 3) := by decide +kernel
theorem dX4_init_61 : decode cX4_init 61 = .ok (.aload_n 0, 1) := by decide +kernel
theorem dX4_init_62 : decode cX4_init 62 = .ok (.bipush 40, 2) := by decide +kernel
theorem dX4_init_64 : decode cX4_init 64 = .ok (.newarray .long, 2) := by decide +kernel
theorem dX4_init_66 : decode cX4_init 66 = .ok (.putfield 34, 3) := by decide +kernel
theorem dX4_init_69 : decode cX4_init 69 = .ok (.return_, 1) := by decide +kernel
theorem dX4_begin_0 : decode cX4_begin 0 = .ok (.iconst 0, 1) := by decide +kernel
theorem dX4_begin_1 : decode cX4_begin 1 = .ok (.istore_n 3, 1) := by decide +kernel
theorem dX4_begin_2 : decode cX4_begin 2 = .ok (.iload_n 3, 1) := by decide +kernel
theorem dX4_begin_3 : decode cX4_begin 3 = .ok (.aload_n 2, 1) := by decide +kernel
theorem dX4_begin_4 : decode cX4_begin 4 = .ok (.getfield 37, 3) := by decide +kernel
theorem dX4_begin_7 : decode cX4_begin 7 = .ok (.if_icmp .ge 75, 3) := by decide +kernel
theorem dX4_begin_82 : decode cX4_begin 82 = .ok (.aload_n 0, 1) := by decide +kernel
theorem dX4_begin_83 : decode cX4_begin 83 = .ok (.lconst 0, 1) := by decide +kernel
theorem dX4_begin_84 : decode cX4_begin 84 = .ok (.putfield 48, 3) := by decide +kernel
theorem dX4_begin_87 : decode cX4_begin 87 = .ok (.aload_n 2, 1) := by decide +kernel
theorem dX4_begin_88 : decode cX4_begin 88 = .ok (.getfield 37, 3) := by decide +kernel
theorem dX4_begin_91 : decode cX4_begin 91 = .ok (.ifCond .le 28, 3) := by decide +kernel
theorem dX4_begin_119 : decode cX4_begin 119 = .ok (.return_, 1) := by decide +kernel
theorem dX4_findAhead_0 : decode cX4_findAhead 0 = .ok (.iconst 1, 1) := by decide +kernel
theorem dX4_findAhead_1 : decode cX4_findAhead 1 = .ok (.istore_n 3, 1) := by decide +kernel
theorem dX4_findAhead_2 : decode cX4_findAhead 2 = .ok (.iconst 0, 1) := by decide +kernel
theorem dX4_findAhead_3 : decode cX4_findAhead 3 = .ok (.istore 4, 2) := by decide +kernel
theorem dX4_findAhead_5 : decode cX4_findAhead 5 = .ok (.iload 4, 2) := by decide +kernel
theorem dX4_findAhead_7 : decode cX4_findAhead 7 = .ok (.ldc 62, 2) := by decide +kernel
theorem dX4_findAhead_9 : decode cX4_findAhead 9 = .ok (.if_icmp .ge 55, 3) := by decide +kernel
theorem dX4_findAhead_12 : decode cX4_findAhead 12 = .ok (.iload_n 3, 1) := by decide +kernel
theorem dX4_findAhead_13 : decode cX4_findAhead 13 = .ok (.ifCond .eq 51, 3) := by decide +kernel
theorem dX4_findAhead_16 : decode cX4_findAhead 16 = .ok (.iconst 0, 1) := by decide +kernel
theorem dX4_findAhead_17 : decode cX4_findAhead 17 = .ok (.istore_n 3, 1) := by decide +kernel
theorem dX4_findAhead_18 : decode cX4_findAhead 18 = .ok (.iconst 0, 1) := by decide +kernel
theorem dX4_findAhead_19 : decode cX4_findAhead 19 = .ok (.istore 5, 2) := by decide +kernel
theorem dX4_findAhead_21 : decode cX4_findAhead 21 = .ok (.iload 5, 2) := by decide +kernel
theorem dX4_findAhead_23 : decode cX4_findAhead 23 = .ok (.aload_n 2, 1) := by decide +kernel
theorem dX4_findAhead_24 : decode cX4_findAhead 24 = .ok (.getfield 37, 3) := by decide +kernel
theorem dX4_findAhead_27 : decode cX4_findAhead 27 = .ok (.if_icmp .ge 31, 3) := by decide +kernel
theorem dX4_findAhead_58 : decode cX4_findAhead 58 = .ok (.iinc 4 1, 3) := by decide +kernel
theorem dX4_findAhead_61 : decode cX4_findAhead 61 = .ok (.goto (-56), 3) := by decide +kernel
theorem dX4_findAhead_64 : decode cX4_findAhead 64 = .ok (.return_, 1) := by decide +kernel
theorem dX4_findAwaited_0 : decode cX4_findAwaited 0 = .ok (.iconst 1, 1) := by decide +kernel
theorem dX4_findAwaited_1 : decode cX4_findAwaited 1 = .ok (.istore_n 2, 1) := by decide +kernel
theorem dX4_findAwaited_2 : decode cX4_findAwaited 2 = .ok (.iconst 0, 1) := by decide +kernel
theorem dX4_findAwaited_3 : decode cX4_findAwaited 3 = .ok (.istore_n 3, 1) := by decide +kernel
theorem dX4_findAwaited_4 : decode cX4_findAwaited 4 = .ok (.iload_n 3, 1) := by decide +kernel
theorem dX4_findAwaited_5 : decode cX4_findAwaited 5 = .ok (.ldc 62, 2) := by decide +kernel
theorem dX4_findAwaited_7 : decode cX4_findAwaited 7 = .ok (.if_icmp .ge 55, 3) := by decide +kernel
theorem dX4_findAwaited_10 : decode cX4_findAwaited 10 = .ok (.iload_n 2, 1) := by decide +kernel
theorem dX4_findAwaited_11 : decode cX4_findAwaited 11 = .ok (.ifCond .eq 51, 3) := by decide +kernel
theorem dX4_findAwaited_14 : decode cX4_findAwaited 14 = .ok (.iconst 0, 1) := by decide +kernel
theorem dX4_findAwaited_15 : decode cX4_findAwaited 15 = .ok (.istore_n 2, 1) := by decide +kernel
theorem dX4_findAwaited_16 : decode cX4_findAwaited 16 = .ok (.aload_n 1, 1) := by decide +kernel
theorem dX4_findAwaited_17 : decode cX4_findAwaited 17 = .ok (.getfield 37, 3) := by decide +kernel
theorem dX4_findAwaited_20 : decode cX4_findAwaited 20 = .ok (.iconst 1, 1) := by decide +kernel
theorem dX4_findAwaited_21 : decode cX4_findAwaited 21 = .ok (.isub, 1) := by decide +kernel
theorem dX4_findAwaited_22 : decode cX4_findAwaited 22 = .ok (.istore 4, 2) := by decide +kernel
theorem dX4_findAwaited_24 : decode cX4_findAwaited 24 = .ok (.iload 4, 2) := by decide +kernel
theorem dX4_findAwaited_26 : decode cX4_findAwaited 26 = .ok (.ifCond .lt 30, 3) := by decide +kernel
theorem dX4_findAwaited_56 : decode cX4_findAwaited 56 = .ok (.iinc 3 1, 3) := by decide +kernel
theorem dX4_findAwaited_59 : decode cX4_findAwaited 59 = .ok (.goto (-55), 3) := by decide +kernel
theorem dX4_findAwaited_62 : decode cX4_findAwaited 62 = .ok (.return_, 1) := by decide +kernel
theorem dX4_findLiving_0 : decode cX4_findLiving 0 = .ok (.iconst 0, 1) := by decide +kernel
theorem dX4_findLiving_1 : decode cX4_findLiving 1 = .ok (.istore_n 3, 1) := by decide +kernel
theorem dX4_findLiving_2 : decode cX4_findLiving 2 = .ok (.iload_n 3, 1) := by decide +kernel
theorem dX4_findLiving_3 : decode cX4_findLiving 3 = .ok (.aload_n 2, 1) := by decide +kernel
theorem dX4_findLiving_4 : decode cX4_findLiving 4 = .ok (.getfield 37, 3) := by decide +kernel
theorem dX4_findLiving_7 : decode cX4_findLiving 7 = .ok (.if_icmp .ge 58, 3) := by decide +kernel
theorem dX4_findLiving_65 : decode cX4_findLiving 65 = .ok (.return_, 1) := by decide +kernel
set_option maxRecDepth 20000 in
theorem ggX5_init_X3_init : GoodIn wsX5_init wsX3_init := goodIn_r _ [15, 16, 2, 3, 17, 18, 19, 20, 21, 22, 23, 24, 25, 26, 71, 72, 73, 74, 75, 76, 77, 78, 79, 80, 81, 82, 83] (by decide +kernel) (by decide +kernel)
set_option maxRecDepth 20000 in
theorem ggX5_init_X0_init : GoodIn wsX5_init wsX0_init := goodIn_r _ [28, 29, 2, 3, 30, 31, 32, 33, 34, 35, 36, 37, 38, 39, 40, 41, 42, 43, 44, 17, 45, 46, 47, 48, 49, 50, 51, 52, 53, 54, 55, 56, 57, 58, 59, 60, 61, 62, 63, 64, 65, 66, 67, 68, 69, 70, 91, 92, 93, 94, 95, 96, 97, 98, 99, 100, 101, 88, 89, 90, 102, 103, 104, 105, 106, 107, 108, 109, 110, 111, 112, 113, 114] (by decide +kernel) (by decide +kernel)
theorem dX5_init_0 : decode cX5_init 0 = .ok (.aload_n 0, 1) := by decide +kernel
theorem dX5_init_1 : decode cX5_init 1 = .ok (.invokespecial 3, 3) := by decide +kernel
theorem dX5_init_4 : decode cX5_init 4 = .ok (.aload_n 0, 1) := by decide +kernel
theorem dX5_init_5 : decode cX5_init 5 = .ok (.new 9, 3) := by decide +kernel
theorem dX5_init_8 : decode cX5_init 8 = .ok (.dup, 1) := by decide +kernel
theorem dX5_init_9 : decode cX5_init 9 = .ok (.invokespecial 11, 3) := by decide +kernel
theorem dX5_init_12 : decode cX5_init 12 = .ok (.putfield 12, 3) := by decide +kernel
theorem dX5_init_15 : decode cX5_init 15 = .ok (.aload_n 0, 1) := by decide +kernel
theorem dX5_init_16 : decode cX5_init 16 = .ok (.new 16, 3) := by decide +kernel
theorem dX5_init_19 : decode cX5_init 19 = .ok (.dup, 1) := by decide +kernel
theorem dX5_init_20 : decode cX5_init 20 = .ok (.sipush 280, 3) := by decide +kernel
theorem dX5_init_23 : decode cX5_init 23 = .ok (.invokespecial 18, 3) := by decide +kernel
theorem dX5_init_26 : decode cX5_init 26 = .ok (.putfield 21, 3) := by decide +kernel
theorem dX5_init_29 : decode cX5_init 29 = .ok (.aload_n 0, 1) := by decide +kernel
theorem dX5_init_30 : decode cX5_init 30 = .ok (.new 16, 3) := by decide +kernel
theorem dX5_init_33 : decode cX5_init 33 = .ok (.dup, 1) := by decide +kernel
theorem dX5_init_34 : decode cX5_init 34 = .ok (.iconst 0, 1) := by decide +kernel
theorem dX5_init_35 : decode cX5_init 35 = .ok (.invokespecial 18, 3) := by decide +kernel
theorem dX5_init_38 : decode cX5_init 38 = .ok (.putfield 25, 3) := by decide +kernel
theorem dX5_init_41 : decode cX5_init 41 = .ok (.aload_n 0, 1) := by decide +kernel
theorem dX5_init_42 : decode cX5_init 42 = .ok (.iconst 0, 1) := by decide +kernel
theorem dX5_init_43 : decode cX5_init 43 = .ok (.putfield 28, 3) := by decide +kernel
theorem dX5_init_46 : decode cX5_init 46 = .ok (.return_, 1) := by decide +kernel
set_option maxRecDepth 20000 in
theorem ggX5_variable_X3_addVariable : GoodIn wsX5_variable wsX3_addVariable := goodIn_r _ [10, 11, 12, 13, 14, 15, 16, 17, 8, 18, 19, 24, 25, 26, 27, 28, 29, 30, 31, 32, 33, 34, 35, 36] (by decide +kernel) (by decide +kernel)
theorem dX5_variable_0 : decode cX5_variable 0 = .ok (.iload_n 1, 1) := by decide +kernel
theorem dX5_variable_1 : decode cX5_variable 1 = .ok (.ifCond .lt 8, 3) := by decide +kernel
theorem dX5_variable_4 : decode cX5_variable 4 = .ok (.iload_n 1, 1) := by decide +kernel
theorem dX5_variable_5 : decode cX5_variable 5 = .ok (.iconst 3, 1) := by decide +kernel
theorem dX5_variable_6 : decode cX5_variable 6 = .ok (.if_icmp .le 13, 3) := by decide +kernel
theorem dX5_variable_9 : decode cX5_variable 9 = .ok (.new 32, 3) := by decide +kernel
theorem dX5_variable_12 : decode cX5_variable 12 = .ok (.dup, 1) := by decide +kernel
theorem dX5_variable_13 : decode cX5_variable 13 = .ok (.ldc 34, 2) := by decide +kernel
theorem dX5_variable_15 : decode cX5_variable 15 = .ok (.invokespecial 36, 3) := by decide +kernel
theorem dX5_variable_18 : decode cX5_variable 18 = .ok (.athrow, 1) := by decide +kernel
theorem dX5_variable_19 : decode cX5_variable 19 = .ok (.aload_n 0, 1) := by decide +kernel
theorem dX5_variable_20 : decode cX5_variable 20 = .ok (.getfield 12, 3) := by decide +kernel
theorem dX5_variable_23 : decode cX5_variable 23 = .ok (.getfield 39, 3) := by decide +kernel
theorem dX5_variable_26 : decode cX5_variable 26 = .ok (.bipush 12, 2) := by decide +kernel
theorem dX5_variable_28 : decode cX5_variable 28 = .ok (.if_icmp .lt 13, 3) := by decide +kernel
theorem dX5_variable_41 : decode cX5_variable 41 = .ok (.aload_n 0, 1) := by decide +kernel
theorem dX5_variable_42 : decode cX5_variable 42 = .ok (.iconst 0, 1) := by decide +kernel
theorem dX5_variable_43 : decode cX5_variable 43 = .ok (.putfield 28, 3) := by decide +kernel
theorem dX5_variable_46 : decode cX5_variable 46 = .ok (.aload_n 0, 1) := by decide +kernel
theorem dX5_variable_47 : decode cX5_variable 47 = .ok (.getfield 12, 3) := by decide +kernel
theorem dX5_variable_50 : decode cX5_variable 50 = .ok (.iload_n 1, 1) := by decide +kernel
theorem dX5_variable_51 : decode cX5_variable 51 = .ok (.iload_n 2, 1) := by decide +kernel
theorem dX5_variable_52 : decode cX5_variable 52 = .ok (.invokevirtual 48, 3) := by decide +kernel
theorem dX5_variable_55 : decode cX5_variable 55 = .ok (.ireturn, 1) := by decide +kernel
set_option maxRecDepth 20000 in
theorem ggX5_write_X5_requireVariable : GoodIn wsX5_write wsX5_requireVariable := goodIn_ca (goodIn_r _ [8, 9, 10, 3, 49, 50, 51, 52, 53, 54, 55, 56, 57, 58, 59, 60, 61, 62, 63, 64, 65] (by decide +kernel) (by decide +kernel)) (goodIn_sub (fun _ h => List.mem_cons_of_mem _ (List.mem_append_left _ (List.mem_append_right _ h))) (by decide +kernel))
set_option maxRecDepth 20000 in
theorem gX5_write_X5_requireVariable : GoodIn wsX5_write (wsV RX5 52 RX5 yX5_requireVariable wsX5_requireVariable) := goodIn_app (goodIn_of _ (by decide +kernel)) ggX5_write_X5_requireVariable
theorem dX5_write_0 : decode cX5_write 0 = .ok (.aload_n 0, 1) := by decide +kernel
theorem dX5_write_1 : decode cX5_write 1 = .ok (.iload_n 1, 1) := by decide +kernel
theorem dX5_write_2 : decode cX5_write 2 = .ok (.invokevirtual 52, 3) := by decide +kernel
set_option maxRecDepth 20000 in
theorem ggX5_move_X5_requireVariable : GoodIn wsX5_move wsX5_requireVariable := goodIn_ca (goodIn_r _ [8, 9, 10, 3, 49, 50, 51, 52, 53, 54, 55, 56, 57, 58, 59, 60, 61, 62, 63, 64, 65] (by decide +kernel) (by decide +kernel)) (goodIn_sub (fun _ h => List.mem_cons_of_mem _ (List.mem_append_left _ (List.mem_append_right _ h))) (by decide +kernel))
set_option maxRecDepth 20000 in
theorem gX5_move_X5_requireVariable : GoodIn wsX5_move (wsV RX5 52 RX5 yX5_requireVariable wsX5_requireVariable) := goodIn_app (goodIn_of _ (by decide +kernel)) ggX5_move_X5_requireVariable
theorem dX5_move_0 : decode cX5_move 0 = .ok (.aload_n 0, 1) := by decide +kernel
theorem dX5_move_1 : decode cX5_move 1 = .ok (.iload_n 1, 1) := by decide +kernel
theorem dX5_move_2 : decode cX5_move 2 = .ok (.invokevirtual 52, 3) := by decide +kernel
set_option maxRecDepth 20000 in
theorem ggX5_lend_X5_requireVariable : GoodIn wsX5_lend wsX5_requireVariable := goodIn_ca (goodIn_r _ [8, 9, 10, 3, 52, 53, 54, 55, 56, 57, 58, 59, 60, 61, 62, 63, 64, 65, 66, 67, 68] (by decide +kernel) (by decide +kernel)) (goodIn_sub (fun _ h => List.mem_cons_of_mem _ (List.mem_append_left _ (List.mem_append_right _ h))) (by decide +kernel))
set_option maxRecDepth 20000 in
theorem gX5_lend_X5_requireVariable : GoodIn wsX5_lend (wsV RX5 52 RX5 yX5_requireVariable wsX5_requireVariable) := goodIn_app (goodIn_of _ (by decide +kernel)) ggX5_lend_X5_requireVariable
theorem dX5_lend_0 : decode cX5_lend 0 = .ok (.aload_n 0, 1) := by decide +kernel
theorem dX5_lend_1 : decode cX5_lend 1 = .ok (.iload_n 1, 1) := by decide +kernel
theorem dX5_lend_2 : decode cX5_lend 2 = .ok (.invokevirtual 52, 3) := by decide +kernel
set_option maxRecDepth 20000 in
theorem ggX5_relend_X5_requireVariable : GoodIn wsX5_relend wsX5_requireVariable := goodIn_ca (goodIn_r _ [8, 9, 10, 3, 49, 50, 51, 52, 53, 54, 55, 56, 57, 58, 59, 60, 61, 62, 63, 64, 65] (by decide +kernel) (by decide +kernel)) (goodIn_sub (fun _ h => List.mem_cons_of_mem _ (List.mem_append_left _ (List.mem_append_right _ h))) (by decide +kernel))
set_option maxRecDepth 20000 in
theorem gX5_relend_X5_requireVariable : GoodIn wsX5_relend (wsV RX5 52 RX5 yX5_requireVariable wsX5_requireVariable) := goodIn_app (goodIn_of _ (by decide +kernel)) ggX5_relend_X5_requireVariable
theorem dX5_relend_0 : decode cX5_relend 0 = .ok (.aload_n 0, 1) := by decide +kernel
theorem dX5_relend_1 : decode cX5_relend 1 = .ok (.iload_n 1, 1) := by decide +kernel
theorem dX5_relend_2 : decode cX5_relend 2 = .ok (.invokevirtual 52, 3) := by decide +kernel
set_option maxRecDepth 20000 in
theorem ggX5_read_X5_requireVariable : GoodIn wsX5_read wsX5_requireVariable := goodIn_ca (goodIn_r _ [8, 9, 10, 3, 45, 46, 47, 48, 49, 50, 51, 52, 53, 54, 55, 56, 57, 58, 59, 60, 61] (by decide +kernel) (by decide +kernel)) (goodIn_sub (fun _ h => List.mem_cons_of_mem _ (List.mem_append_left _ (List.mem_append_right _ h))) (by decide +kernel))
set_option maxRecDepth 20000 in
theorem gX5_read_X5_requireVariable : GoodIn wsX5_read (wsV RX5 52 RX5 yX5_requireVariable wsX5_requireVariable) := goodIn_app (goodIn_of _ (by decide +kernel)) ggX5_read_X5_requireVariable
theorem dX5_read_0 : decode cX5_read 0 = .ok (.aload_n 0, 1) := by decide +kernel
theorem dX5_read_1 : decode cX5_read 1 = .ok (.iload_n 1, 1) := by decide +kernel
theorem dX5_read_2 : decode cX5_read 2 = .ok (.invokevirtual 52, 3) := by decide +kernel
set_option maxRecDepth 20000 in
theorem ggX5_drop_X5_requireVariable : GoodIn wsX5_drop wsX5_requireVariable := goodIn_ca (goodIn_r _ [6, 7, 8, 1, 36, 37, 38, 39, 40, 41, 42, 43, 44, 45, 46, 47, 48, 49, 50, 51, 52] (by decide +kernel) (by decide +kernel)) (goodIn_sub (fun _ h => List.mem_cons_of_mem _ (List.mem_append_left _ (List.mem_append_right _ h))) (by decide +kernel))
set_option maxRecDepth 20000 in
theorem gX5_drop_X5_requireVariable : GoodIn wsX5_drop (wsV RX5 52 RX5 yX5_requireVariable wsX5_requireVariable) := goodIn_app (goodIn_of _ (by decide +kernel)) ggX5_drop_X5_requireVariable
theorem dX5_drop_0 : decode cX5_drop 0 = .ok (.aload_n 0, 1) := by decide +kernel
theorem dX5_drop_1 : decode cX5_drop 1 = .ok (.iload_n 1, 1) := by decide +kernel
theorem dX5_drop_2 : decode cX5_drop 2 = .ok (.invokevirtual 52, 3) := by decide +kernel
set_option maxRecDepth 20000 in
theorem ggX5_call_X5_requireVariable : GoodIn wsX5_call wsX5_requireVariable := goodIn_ca (goodIn_r _ [8, 9, 10, 3, 50, 51, 52, 53, 54, 55, 56, 57, 58, 59, 60, 61, 62, 63, 64, 65, 66] (by decide +kernel) (by decide +kernel)) (goodIn_sub (fun _ h => List.mem_cons_of_mem _ (List.mem_append_left _ (List.mem_append_right _ h))) (by decide +kernel))
set_option maxRecDepth 20000 in
theorem gX5_call_X5_requireVariable : GoodIn wsX5_call (wsV RX5 52 RX5 yX5_requireVariable wsX5_requireVariable) := goodIn_app (goodIn_of _ (by decide +kernel)) ggX5_call_X5_requireVariable
theorem dX5_call_0 : decode cX5_call 0 = .ok (.aload_n 0, 1) := by decide +kernel
theorem dX5_call_1 : decode cX5_call 1 = .ok (.iload_n 1, 1) := by decide +kernel
theorem dX5_call_2 : decode cX5_call 2 = .ok (.invokevirtual 52, 3) := by decide +kernel
set_option maxRecDepth 20000 in
theorem ggX5_branch_X5_requireTarget : GoodIn wsX5_branch wsX5_requireTarget := goodIn_ca (goodIn_r _ [6, 7, 8] (by decide +kernel) (by decide +kernel)) (goodIn_sub (fun _ h => List.mem_cons_of_mem _ (List.mem_append_left _ (List.mem_append_right _ h))) (by decide +kernel))
set_option maxRecDepth 20000 in
theorem gX5_branch_X5_requireTarget : GoodIn wsX5_branch (wsV RX5 107 RX5 yX5_requireTarget wsX5_requireTarget) := goodIn_app (goodIn_of _ (by decide +kernel)) ggX5_branch_X5_requireTarget
set_option maxRecDepth 20000 in
theorem ggX5_branch_X5_requireRoom : GoodIn wsX5_branch wsX5_requireRoom := goodIn_ca (goodIn_r _ [12, 13, 14, 1, 30, 31, 32, 33, 34, 35, 36, 37, 38, 39, 40, 41, 42, 43, 44, 45, 46] (by decide +kernel) (by decide +kernel)) (goodIn_sub (fun _ h => List.mem_cons_of_mem _ (List.mem_append_right _ h)) (by decide +kernel))
set_option maxRecDepth 20000 in
theorem gX5_branch_X5_requireRoom : GoodIn wsX5_branch (wsV RX5 69 RX5 yX5_requireRoom wsX5_requireRoom) := goodIn_app (goodIn_of _ (by decide +kernel)) ggX5_branch_X5_requireRoom
set_option maxRecDepth 20000 in
theorem ggX5_branch_X5_begin : GoodIn wsX5_branch wsX5_begin := goodIn_r _ [18, 19, 1, 20, 21, 22, 23, 24, 25, 26, 27, 28, 29, 30, 31, 32, 33, 34, 35, 36, 37, 38, 39, 40, 41, 42, 43, 44, 45, 46] (by decide +kernel) (by decide +kernel)
set_option maxRecDepth 20000 in
theorem gX5_branch_X5_begin : GoodIn wsX5_branch (wsV RX5 72 RX5 yX5_begin wsX5_begin) := goodIn_app (goodIn_of _ (by decide +kernel)) ggX5_branch_X5_begin
theorem dX5_branch_0 : decode cX5_branch 0 = .ok (.aload_n 0, 1) := by decide +kernel
theorem dX5_branch_1 : decode cX5_branch 1 = .ok (.iload_n 2, 1) := by decide +kernel
theorem dX5_branch_2 : decode cX5_branch 2 = .ok (.invokevirtual 107, 3) := by decide +kernel
theorem dX5_branch_5 : decode cX5_branch 5 = .ok (.aload_n 0, 1) := by decide +kernel
theorem dX5_branch_6 : decode cX5_branch 6 = .ok (.invokevirtual 69, 3) := by decide +kernel
theorem dX5_branch_9 : decode cX5_branch 9 = .ok (.aload_n 0, 1) := by decide +kernel
theorem dX5_branch_10 : decode cX5_branch 10 = .ok (.iload_n 1, 1) := by decide +kernel
theorem dX5_branch_11 : decode cX5_branch 11 = .ok (.ifCond .eq 8, 3) := by decide +kernel
theorem dX5_branch_14 : decode cX5_branch 14 = .ok (.bipush 8, 2) := by decide +kernel
theorem dX5_branch_16 : decode cX5_branch 16 = .ok (.goto 5, 3) := by decide +kernel
theorem dX5_branch_19 : decode cX5_branch 19 = .ok (.bipush 7, 2) := by decide +kernel
theorem dX5_branch_21 : decode cX5_branch 21 = .ok (.invokevirtual 72, 3) := by decide +kernel
theorem dX5_branch_24 : decode cX5_branch 24 = .ok (.istore_n 3, 1) := by decide +kernel
theorem dX5_branch_25 : decode cX5_branch 25 = .ok (.aload_n 0, 1) := by decide +kernel
theorem dX5_branch_26 : decode cX5_branch 26 = .ok (.getfield 12, 3) := by decide +kernel
theorem dX5_branch_29 : decode cX5_branch 29 = .ok (.getfield 110, 3) := by decide +kernel
theorem dX5_branch_32 : decode cX5_branch 32 = .ok (.iload_n 3, 1) := by decide +kernel
theorem dX5_branch_33 : decode cX5_branch 33 = .ok (.iload_n 2, 1) := by decide +kernel
theorem dX5_branch_34 : decode cX5_branch 34 = .ok (.iastore, 1) := by decide +kernel
theorem dX5_branch_35 : decode cX5_branch 35 = .ok (.iload_n 3, 1) := by decide +kernel
theorem dX5_branch_36 : decode cX5_branch 36 = .ok (.ireturn, 1) := by decide +kernel
set_option maxRecDepth 20000 in
theorem ggX5_finish_X5_requireVariableOrNone : GoodIn wsX5_finish wsX5_requireVariableOrNone := goodIn_ca (goodIn_r _ [6, 7, 8, 9, 5, 10, 11, 12, 1, 44, 45, 46, 47, 48, 49, 50, 51, 52, 53, 54, 55, 56, 57, 58, 59, 60] (by decide +kernel) (by decide +kernel)) (goodIn_sub (fun _ h => List.mem_cons_of_mem _ (List.mem_append_left _ (List.mem_append_right _ h))) (by decide +kernel))
set_option maxRecDepth 20000 in
theorem gX5_finish_X5_requireVariableOrNone : GoodIn wsX5_finish (wsV RX5 100 RX5 yX5_requireVariableOrNone wsX5_requireVariableOrNone) := goodIn_app (goodIn_of _ (by decide +kernel)) ggX5_finish_X5_requireVariableOrNone
set_option maxRecDepth 20000 in
theorem ggX5_finish_X5_requireRoom : GoodIn wsX5_finish wsX5_requireRoom := goodIn_ca (goodIn_r _ [16, 17, 18, 1, 44, 45, 46, 47, 48, 49, 50, 51, 52, 53, 54, 55, 56, 57, 58, 59, 60] (by decide +kernel) (by decide +kernel)) (goodIn_sub (fun _ h => List.mem_cons_of_mem _ (List.mem_append_right _ h)) (by decide +kernel))
set_option maxRecDepth 20000 in
theorem gX5_finish_X5_requireRoom : GoodIn wsX5_finish (wsV RX5 69 RX5 yX5_requireRoom wsX5_requireRoom) := goodIn_app (goodIn_of _ (by decide +kernel)) ggX5_finish_X5_requireRoom
set_option maxRecDepth 20000 in
theorem ggX5_finish_X5_begin : GoodIn wsX5_finish wsX5_begin := goodIn_r _ [22, 23, 1, 24, 25, 26, 27, 28, 29, 30, 31, 32, 33, 44, 45, 46, 47, 48, 49, 50, 51, 52, 53, 54, 55, 56, 57, 58, 59, 60] (by decide +kernel) (by decide +kernel)
set_option maxRecDepth 20000 in
theorem gX5_finish_X5_begin : GoodIn wsX5_finish (wsV RX5 72 RX5 yX5_begin wsX5_begin) := goodIn_app (goodIn_of _ (by decide +kernel)) ggX5_finish_X5_begin
theorem dX5_finish_0 : decode cX5_finish 0 = .ok (.aload_n 0, 1) := by decide +kernel
theorem dX5_finish_1 : decode cX5_finish 1 = .ok (.iload_n 1, 1) := by decide +kernel
theorem dX5_finish_2 : decode cX5_finish 2 = .ok (.invokevirtual 100, 3) := by decide +kernel
theorem dX5_finish_5 : decode cX5_finish 5 = .ok (.aload_n 0, 1) := by decide +kernel
theorem dX5_finish_6 : decode cX5_finish 6 = .ok (.invokevirtual 69, 3) := by decide +kernel
theorem dX5_finish_9 : decode cX5_finish 9 = .ok (.aload_n 0, 1) := by decide +kernel
theorem dX5_finish_10 : decode cX5_finish 10 = .ok (.bipush 9, 2) := by decide +kernel
theorem dX5_finish_12 : decode cX5_finish 12 = .ok (.invokevirtual 72, 3) := by decide +kernel
theorem dX5_finish_15 : decode cX5_finish 15 = .ok (.istore_n 2, 1) := by decide +kernel
theorem dX5_finish_16 : decode cX5_finish 16 = .ok (.iload_n 1, 1) := by decide +kernel
theorem dX5_finish_17 : decode cX5_finish 17 = .ok (.iconst (-1), 1) := by decide +kernel
theorem dX5_finish_18 : decode cX5_finish 18 = .ok (.if_icmp .eq 21, 3) := by decide +kernel
theorem dX5_finish_39 : decode cX5_finish 39 = .ok (.iload_n 2, 1) := by decide +kernel
theorem dX5_finish_40 : decode cX5_finish 40 = .ok (.ireturn, 1) := by decide +kernel
set_option maxRecDepth 20000 in
theorem ggX5_setTarget_X5_requireStatement : GoodIn wsX5_setTarget wsX5_requireStatement := goodIn_ca (goodIn_r _ [9, 10, 11, 3, 21, 22, 23, 24, 25, 26, 27, 28, 29, 30, 31, 32, 33, 34, 35, 36, 37] (by decide +kernel) (by decide +kernel)) (goodIn_sub (fun _ h => List.mem_cons_of_mem _ (List.mem_append_right _ h)) (by decide +kernel))
set_option maxRecDepth 20000 in
theorem gX5_setTarget_X5_requireStatement : GoodIn wsX5_setTarget (wsV RX5 113 RX5 yX5_requireStatement wsX5_requireStatement) := goodIn_app (goodIn_of _ (by decide +kernel)) ggX5_setTarget_X5_requireStatement
theorem dX5_setTarget_0 : decode cX5_setTarget 0 = .ok (.aload_n 0, 1) := by decide +kernel
theorem dX5_setTarget_1 : decode cX5_setTarget 1 = .ok (.iload_n 1, 1) := by decide +kernel
theorem dX5_setTarget_2 : decode cX5_setTarget 2 = .ok (.invokevirtual 113, 3) := by decide +kernel
theorem dX5_undo_0 : decode cX5_undo 0 = .ok (.aload_n 0, 1) := by decide +kernel
theorem dX5_undo_1 : decode cX5_undo 1 = .ok (.getfield 12, 3) := by decide +kernel
theorem dX5_undo_4 : decode cX5_undo 4 = .ok (.getfield 121, 3) := by decide +kernel
theorem dX5_undo_7 : decode cX5_undo 7 = .ok (.ifCond .gt 13, 3) := by decide +kernel
theorem dX5_undo_10 : decode cX5_undo 10 = .ok (.new 43, 3) := by decide +kernel
theorem dX5_undo_13 : decode cX5_undo 13 = .ok (.dup, 1) := by decide +kernel
theorem dX5_undo_14 : decode cX5_undo 14 = .ok (.ldc 124, 2) := by decide +kernel
theorem dX5_undo_16 : decode cX5_undo 16 = .ok (.invokespecial 47, 3) := by decide +kernel
theorem dX5_undo_19 : decode cX5_undo 19 = .ok (.athrow, 1) := by decide +kernel
theorem dX5_variables_0 : decode cX5_variables 0 = .ok (.aload_n 0, 1) := by decide +kernel
theorem dX5_variables_1 : decode cX5_variables 1 = .ok (.getfield 12, 3) := by decide +kernel
theorem dX5_variables_4 : decode cX5_variables 4 = .ok (.getfield 39, 3) := by decide +kernel
theorem dX5_variables_7 : decode cX5_variables 7 = .ok (.ireturn, 1) := by decide +kernel
theorem dX5_statements_0 : decode cX5_statements 0 = .ok (.aload_n 0, 1) := by decide +kernel
theorem dX5_statements_1 : decode cX5_statements 1 = .ok (.getfield 12, 3) := by decide +kernel
theorem dX5_statements_4 : decode cX5_statements 4 = .ok (.getfield 121, 3) := by decide +kernel
theorem dX5_statements_7 : decode cX5_statements 7 = .ok (.ireturn, 1) := by decide +kernel
set_option maxRecDepth 20000 in
theorem ggX5_codeOf_X5_requireStatement : GoodIn wsX5_codeOf wsX5_requireStatement := goodIn_ca (goodIn_r _ [6, 7, 8, 1, 9, 10, 11, 12, 13, 14, 15, 16, 17, 18, 19, 20, 21, 22, 23, 24, 25] (by decide +kernel) (by decide +kernel)) (goodIn_sub (fun _ h => List.mem_cons_of_mem _ (List.mem_append_right _ h)) (by decide +kernel))
set_option maxRecDepth 20000 in
theorem gX5_codeOf_X5_requireStatement : GoodIn wsX5_codeOf (wsV RX5 113 RX5 yX5_requireStatement wsX5_requireStatement) := goodIn_app (goodIn_of _ (by decide +kernel)) ggX5_codeOf_X5_requireStatement
theorem dX5_codeOf_0 : decode cX5_codeOf 0 = .ok (.aload_n 0, 1) := by decide +kernel
theorem dX5_codeOf_1 : decode cX5_codeOf 1 = .ok (.iload_n 1, 1) := by decide +kernel
theorem dX5_codeOf_2 : decode cX5_codeOf 2 = .ok (.invokevirtual 113, 3) := by decide +kernel
set_option maxRecDepth 20000 in
theorem ggX5_isReached_X5_requireStatement : GoodIn wsX5_isReached wsX5_requireStatement := goodIn_ca (goodIn_r _ [5, 6, 7, 8, 184, 185, 186, 187, 188, 189, 190, 191, 192, 193, 194, 195, 196, 197, 198, 199, 200] (by decide +kernel) (by decide +kernel)) (goodIn_sub (fun _ h => List.mem_cons_of_mem _ (List.mem_append_right _ h)) (by decide +kernel))
set_option maxRecDepth 20000 in
theorem gX5_isReached_X5_requireStatement : GoodIn wsX5_isReached (wsV RX5 113 RX5 yX5_requireStatement wsX5_requireStatement) := goodIn_app (goodIn_of _ (by decide +kernel)) ggX5_isReached_X5_requireStatement
theorem dX5_isReached_0 : decode cX5_isReached 0 = .ok (.aload_n 0, 1) := by decide +kernel
theorem dX5_isReached_1 : decode cX5_isReached 1 = .ok (.iload_n 1, 1) := by decide +kernel
theorem dX5_isReached_2 : decode cX5_isReached 2 = .ok (.invokevirtual 113, 3) := by decide +kernel
set_option maxRecDepth 20000 in
theorem ggX5_canBe_X5_requireStatement : GoodIn wsX5_canBe wsX5_requireStatement := goodIn_ca (goodIn_r _ [8, 9, 10, 3, 190, 191, 192, 193, 197, 198, 199, 200, 201, 202, 203, 204, 205, 206, 207, 208, 209] (by decide +kernel) (by decide +kernel)) (goodIn_sub (fun _ h => List.mem_cons_of_mem _ (List.mem_append_right _ h)) (by decide +kernel))
set_option maxRecDepth 20000 in
theorem gX5_canBe_X5_requireStatement : GoodIn wsX5_canBe (wsV RX5 113 RX5 yX5_requireStatement wsX5_requireStatement) := goodIn_app (goodIn_of _ (by decide +kernel)) ggX5_canBe_X5_requireStatement
theorem dX5_canBe_0 : decode cX5_canBe 0 = .ok (.aload_n 0, 1) := by decide +kernel
theorem dX5_canBe_1 : decode cX5_canBe 1 = .ok (.iload_n 1, 1) := by decide +kernel
theorem dX5_canBe_2 : decode cX5_canBe 2 = .ok (.invokevirtual 113, 3) := by decide +kernel
set_option maxRecDepth 20000 in
theorem ggX5_holds_X5_requireStatement : GoodIn wsX5_holds wsX5_requireStatement := goodIn_ca (goodIn_r _ [5, 6, 7, 8, 195, 196, 197, 198, 199, 200, 201, 202, 203, 204, 205, 206, 207, 208, 209, 210, 211] (by decide +kernel) (by decide +kernel)) (goodIn_sub (fun _ h => List.mem_cons_of_mem _ (List.mem_append_right _ h)) (by decide +kernel))
set_option maxRecDepth 20000 in
theorem gX5_holds_X5_requireStatement : GoodIn wsX5_holds (wsV RX5 113 RX5 yX5_requireStatement wsX5_requireStatement) := goodIn_app (goodIn_of _ (by decide +kernel)) ggX5_holds_X5_requireStatement
theorem dX5_holds_0 : decode cX5_holds 0 = .ok (.aload_n 0, 1) := by decide +kernel
theorem dX5_holds_1 : decode cX5_holds 1 = .ok (.iload_n 1, 1) := by decide +kernel
theorem dX5_holds_2 : decode cX5_holds 2 = .ok (.invokevirtual 113, 3) := by decide +kernel
set_option maxRecDepth 20000 in
theorem ggX5_canHold_X5_requireStatement : GoodIn wsX5_canHold wsX5_requireStatement := goodIn_ca (goodIn_r _ [6, 7, 8, 1, 186, 187, 188, 189, 193, 194, 195, 196, 197, 198, 199, 200, 201, 202, 203, 204, 205] (by decide +kernel) (by decide +kernel)) (goodIn_sub (fun _ h => List.mem_cons_of_mem _ (List.mem_append_right _ h)) (by decide +kernel))
set_option maxRecDepth 20000 in
theorem gX5_canHold_X5_requireStatement : GoodIn wsX5_canHold (wsV RX5 113 RX5 yX5_requireStatement wsX5_requireStatement) := goodIn_app (goodIn_of _ (by decide +kernel)) ggX5_canHold_X5_requireStatement
theorem dX5_canHold_0 : decode cX5_canHold 0 = .ok (.aload_n 0, 1) := by decide +kernel
theorem dX5_canHold_1 : decode cX5_canHold 1 = .ok (.iload_n 1, 1) := by decide +kernel
theorem dX5_canHold_2 : decode cX5_canHold 2 = .ok (.invokevirtual 113, 3) := by decide +kernel
set_option maxRecDepth 20000 in
theorem ggX5_awaited_X5_requireStatement : GoodIn wsX5_awaited wsX5_requireStatement := goodIn_ca (goodIn_r _ [5, 6, 7, 8, 193, 194, 195, 196, 197, 198, 199, 200, 201, 202, 203, 204, 205, 206, 207, 208, 209] (by decide +kernel) (by decide +kernel)) (goodIn_sub (fun _ h => List.mem_cons_of_mem _ (List.mem_append_right _ h)) (by decide +kernel))
set_option maxRecDepth 20000 in
theorem gX5_awaited_X5_requireStatement : GoodIn wsX5_awaited (wsV RX5 113 RX5 yX5_requireStatement wsX5_requireStatement) := goodIn_app (goodIn_of _ (by decide +kernel)) ggX5_awaited_X5_requireStatement
theorem dX5_awaited_0 : decode cX5_awaited 0 = .ok (.aload_n 0, 1) := by decide +kernel
theorem dX5_awaited_1 : decode cX5_awaited 1 = .ok (.iload_n 1, 1) := by decide +kernel
theorem dX5_awaited_2 : decode cX5_awaited 2 = .ok (.invokevirtual 113, 3) := by decide +kernel
set_option maxRecDepth 20000 in
theorem ggX5_loans_X5_checked : GoodIn wsX5_loans wsX5_checked := goodIn_r _ [6, 7, 8, 1, 9, 10, 11, 12, 13, 14, 15, 16, 17, 18, 19, 20, 21, 22, 23, 24, 25, 26, 27, 28, 29, 30, 31, 32, 33, 34, 35, 36, 37, 38, 39, 40, 41, 42, 43, 44, 45, 46, 47, 48, 49, 50, 51, 52, 53, 54, 55, 56, 57, 58, 59, 60, 61, 62, 63, 64, 65, 66, 67, 68, 69, 70, 71, 72, 73, 74, 75, 76, 77, 78, 79, 80, 81, 82, 83, 84, 85, 86, 87, 88, 5, 89, 90, 91, 92, 93, 94, 95, 96, 97, 98, 99, 100, 101, 102, 103, 104, 105, 106, 107, 108, 109, 110, 111, 112, 113, 114, 115, 116, 117, 118, 119, 120, 121, 122, 123, 124, 125, 126, 127, 128, 129, 130, 131, 132, 133, 134, 135, 136, 137, 138, 139, 140, 141, 142, 143, 144, 145, 146, 147, 148, 149, 150, 151, 152, 153, 154, 155, 156, 157, 158, 159, 160, 161, 162, 163, 164, 165, 166, 167, 168, 169, 170, 171, 172, 173, 174, 178, 179, 180, 181, 182, 183, 184, 185, 186, 187, 188, 189, 190, 191, 192, 193, 194, 195, 196, 197, 198, 199, 200, 201, 202, 203, 204, 205, 206, 207, 208, 209, 210, 211, 212, 213, 214, 215, 216, 217, 218, 219, 220, 221] (by decide +kernel) (by decide +kernel)
set_option maxRecDepth 20000 in
theorem gX5_loans_X5_checked : GoodIn wsX5_loans (wsV RX5 129 RX5 yX5_checked wsX5_checked) := goodIn_app (goodIn_of _ (by decide +kernel)) ggX5_loans_X5_checked
set_option maxRecDepth 20000 in
theorem ggX5_loans_X0_countLoans : GoodIn wsX5_loans wsX0_countLoans := goodIn_r _ [177, 14, 102, 30, 103, 104, 105, 33, 85, 70, 86, 87, 79, 88, 5, 89, 185, 186, 187, 188, 189, 190, 191, 192, 193, 194, 195, 196, 197, 182, 183, 184, 209, 210, 211, 212, 213, 214, 215, 216, 217] (by decide +kernel) (by decide +kernel)
theorem dX5_loans_0 : decode cX5_loans 0 = .ok (.aload_n 0, 1) := by decide +kernel
theorem dX5_loans_1 : decode cX5_loans 1 = .ok (.invokevirtual 129, 3) := by decide +kernel
theorem dX5_loans_4 : decode cX5_loans 4 = .ok (.aload_n 0, 1) := by decide +kernel
theorem dX5_loans_5 : decode cX5_loans 5 = .ok (.getfield 12, 3) := by decide +kernel
theorem dX5_loans_8 : decode cX5_loans 8 = .ok (.invokevirtual 171, 3) := by decide +kernel
theorem dX5_loans_11 : decode cX5_loans 11 = .ok (.ireturn, 1) := by decide +kernel
set_option maxRecDepth 20000 in
theorem ggX5_isLive_X5_requireStatement : GoodIn wsX5_isLive wsX5_requireStatement := goodIn_ca (goodIn_r _ [6, 7, 8, 1, 182, 183, 184, 185, 198, 199, 200, 201, 202, 203, 204, 205, 206, 207, 208, 209, 210] (by decide +kernel) (by decide +kernel)) (goodIn_sub (fun _ h => List.mem_cons_of_mem _ (List.mem_append_right _ h)) (by decide +kernel))
set_option maxRecDepth 20000 in
theorem gX5_isLive_X5_requireStatement : GoodIn wsX5_isLive (wsV RX5 113 RX5 yX5_requireStatement wsX5_requireStatement) := goodIn_app (goodIn_of _ (by decide +kernel)) ggX5_isLive_X5_requireStatement
theorem dX5_isLive_0 : decode cX5_isLive 0 = .ok (.aload_n 0, 1) := by decide +kernel
theorem dX5_isLive_1 : decode cX5_isLive 1 = .ok (.iload_n 2, 1) := by decide +kernel
theorem dX5_isLive_2 : decode cX5_isLive 2 = .ok (.invokevirtual 113, 3) := by decide +kernel
set_option maxRecDepth 20000 in
theorem ggX5_region_X5_checked : GoodIn wsX5_region wsX5_checked := goodIn_r _ [6, 7, 8, 1, 9, 10, 11, 12, 13, 14, 15, 16, 17, 18, 19, 20, 21, 22, 23, 24, 25, 26, 27, 28, 29, 30, 31, 32, 33, 34, 35, 36, 37, 38, 39, 40, 41, 42, 43, 44, 45, 46, 47, 48, 49, 50, 51, 52, 53, 54, 55, 56, 57, 58, 59, 60, 61, 62, 63, 64, 65, 66, 67, 68, 69, 70, 71, 72, 73, 74, 75, 76, 77, 78, 79, 80, 81, 82, 83, 84, 85, 86, 87, 88, 5, 89, 90, 91, 92, 93, 94, 95, 96, 97, 98, 99, 100, 101, 102, 103, 104, 105, 106, 107, 108, 109, 110, 111, 112, 113, 114, 115, 116, 117, 118, 119, 120, 121, 122, 123, 124, 125, 126, 127, 128, 129, 130, 131, 132, 133, 134, 135, 136, 137, 138, 139, 140, 141, 142, 143, 144, 145, 146, 147, 148, 149, 150, 151, 152, 153, 154, 155, 156, 157, 158, 159, 160, 161, 162, 163, 164, 165, 166, 167, 168, 169, 170, 171, 172, 173, 174, 178, 179, 180, 181, 182, 183, 184, 185, 186, 187, 188, 189, 190, 191, 192, 193, 194, 195, 196, 197, 198, 199, 200, 201, 202, 203, 204, 205, 206, 207, 208, 209, 210, 211, 212, 213, 214, 215, 216, 217, 218, 219, 220, 221] (by decide +kernel) (by decide +kernel)
set_option maxRecDepth 20000 in
theorem gX5_region_X5_checked : GoodIn wsX5_region (wsV RX5 129 RX5 yX5_checked wsX5_checked) := goodIn_app (goodIn_of _ (by decide +kernel)) ggX5_region_X5_checked
set_option maxRecDepth 20000 in
theorem ggX5_region_X0_sizeOfRegion : GoodIn wsX5_region wsX0_sizeOfRegion := goodIn_r _ [177, 14, 102, 30, 103, 104, 105, 33, 85, 70, 86, 87, 79, 88, 5, 89, 182, 183, 184, 185, 186, 187, 188, 189, 190, 191, 192, 193, 194, 195, 196, 197, 209, 210, 211, 212, 213, 214, 215, 216, 217] (by decide +kernel) (by decide +kernel)
theorem dX5_region_0 : decode cX5_region 0 = .ok (.aload_n 0, 1) := by decide +kernel
theorem dX5_region_1 : decode cX5_region 1 = .ok (.invokevirtual 129, 3) := by decide +kernel
theorem dX5_region_4 : decode cX5_region 4 = .ok (.aload_n 0, 1) := by decide +kernel
theorem dX5_region_5 : decode cX5_region 5 = .ok (.getfield 12, 3) := by decide +kernel
theorem dX5_region_8 : decode cX5_region 8 = .ok (.iload_n 1, 1) := by decide +kernel
theorem dX5_region_9 : decode cX5_region 9 = .ok (.invokevirtual 179, 3) := by decide +kernel
theorem dX5_region_12 : decode cX5_region 12 = .ok (.ireturn, 1) := by decide +kernel
set_option maxRecDepth 20000 in
theorem ggX5_faults_X5_checked : GoodIn wsX5_faults wsX5_checked := goodIn_r _ [5, 6, 7, 8, 9, 10, 11, 12, 13, 14, 15, 16, 17, 18, 19, 20, 21, 22, 23, 24, 25, 26, 27, 28, 29, 30, 31, 32, 33, 34, 35, 36, 37, 38, 39, 40, 41, 42, 43, 44, 45, 46, 47, 48, 49, 50, 51, 52, 53, 54, 55, 56, 57, 58, 59, 60, 61, 62, 63, 64, 65, 66, 67, 68, 69, 70, 71, 72, 73, 74, 75, 76, 77, 78, 79, 80, 81, 82, 83, 84, 85, 86, 87, 88, 4, 89, 90, 91, 92, 93, 94, 95, 96, 97, 98, 99, 100, 101, 102, 103, 104, 105, 106, 107, 108, 109, 110, 111, 112, 113, 114, 115, 116, 117, 118, 119, 120, 121, 122, 123, 124, 125, 126, 127, 128, 129, 130, 131, 132, 133, 134, 135, 136, 137, 138, 139, 140, 141, 142, 143, 144, 145, 146, 147, 148, 149, 150, 151, 152, 153, 154, 155, 156, 157, 158, 159, 160, 161, 162, 163, 164, 165, 166, 167, 168, 169, 170, 171, 172, 173, 174, 182, 183, 184, 185, 175, 176, 177, 186, 187, 188, 189, 190, 191, 192, 193, 194, 195, 196, 197, 198, 199, 200, 201, 202, 203, 204, 205, 206, 207, 208, 209, 210, 211, 212, 213, 214, 215, 216, 217, 218, 178, 179, 180, 181] (by decide +kernel) (by decide +kernel)
set_option maxRecDepth 20000 in
theorem gX5_faults_X5_checked : GoodIn wsX5_faults (wsV RX5 129 RX5 yX5_checked wsX5_checked) := goodIn_app (goodIn_of _ (by decide +kernel)) ggX5_faults_X5_checked
theorem dX5_faults_0 : decode cX5_faults 0 = .ok (.aload_n 0, 1) := by decide +kernel
theorem dX5_faults_1 : decode cX5_faults 1 = .ok (.invokevirtual 129, 3) := by decide +kernel
theorem dX5_faults_4 : decode cX5_faults 4 = .ok (.getfield 183, 3) := by decide +kernel
theorem dX5_faults_7 : decode cX5_faults 7 = .ok (.getfield 187, 3) := by decide +kernel
theorem dX5_faults_10 : decode cX5_faults 10 = .ok (.ireturn, 1) := by decide +kernel
set_option maxRecDepth 20000 in
theorem ggX5_ofFault_X5_checked : GoodIn wsX5_ofFault wsX5_checked := goodIn_r _ [10, 11, 12, 5, 13, 14, 15, 16, 17, 18, 19, 20, 21, 22, 23, 24, 25, 26, 27, 28, 29, 30, 31, 32, 33, 34, 35, 36, 37, 38, 39, 40, 41, 42, 43, 44, 45, 46, 47, 48, 49, 50, 51, 52, 53, 54, 55, 56, 57, 58, 59, 60, 61, 62, 63, 64, 65, 66, 67, 68, 69, 70, 71, 72, 73, 74, 75, 76, 77, 78, 79, 80, 81, 82, 83, 84, 85, 86, 87, 88, 89, 90, 91, 92, 9, 93, 94, 95, 96, 97, 98, 99, 100, 101, 102, 103, 104, 105, 106, 107, 108, 109, 110, 111, 112, 113, 114, 115, 116, 117, 118, 119, 120, 121, 122, 123, 124, 125, 126, 127, 128, 129, 130, 131, 132, 133, 134, 135, 136, 137, 138, 139, 140, 141, 142, 143, 144, 145, 146, 147, 148, 149, 150, 151, 152, 153, 154, 155, 156, 157, 158, 159, 160, 161, 162, 163, 164, 165, 166, 167, 168, 169, 170, 171, 172, 173, 174, 175, 176, 177, 178, 234, 235, 236, 237, 227, 228, 229, 238, 239, 240, 241, 242, 243, 244, 245, 246, 247, 248, 249, 250, 251, 252, 253, 254, 255, 256, 257, 258, 259, 260, 261, 262, 263, 264, 265, 266, 267, 268, 269, 270, 230, 231, 232, 233] (by decide +kernel) (by decide +kernel)
set_option maxRecDepth 20000 in
theorem gX5_ofFault_X5_checked : GoodIn wsX5_ofFault (wsV RX5 129 RX5 yX5_checked wsX5_checked) := goodIn_app (goodIn_of _ (by decide +kernel)) ggX5_ofFault_X5_checked
theorem dX5_ofFault_0 : decode cX5_ofFault 0 = .ok (.aload_n 0, 1) := by decide +kernel
theorem dX5_ofFault_1 : decode cX5_ofFault 1 = .ok (.invokevirtual 129, 3) := by decide +kernel
theorem dX5_ofFault_4 : decode cX5_ofFault 4 = .ok (.astore_n 3, 1) := by decide +kernel
theorem dX5_ofFault_5 : decode cX5_ofFault 5 = .ok (.iload_n 1, 1) := by decide +kernel
theorem dX5_ofFault_6 : decode cX5_ofFault 6 = .ok (.ifCond .lt 14, 3) := by decide +kernel
theorem dX5_ofFault_9 : decode cX5_ofFault 9 = .ok (.iload_n 1, 1) := by decide +kernel
theorem dX5_ofFault_10 : decode cX5_ofFault 10 = .ok (.aload_n 3, 1) := by decide +kernel
theorem dX5_ofFault_11 : decode cX5_ofFault 11 = .ok (.getfield 183, 3) := by decide +kernel
theorem dX5_ofFault_14 : decode cX5_ofFault 14 = .ok (.getfield 187, 3) := by decide +kernel
theorem dX5_ofFault_17 : decode cX5_ofFault 17 = .ok (.if_icmp .lt 13, 3) := by decide +kernel
theorem dX5_ofFault_20 : decode cX5_ofFault 20 = .ok (.new 192, 3) := by decide +kernel
theorem dX5_ofFault_23 : decode cX5_ofFault 23 = .ok (.dup, 1) := by decide +kernel
theorem dX5_ofFault_24 : decode cX5_ofFault 24 = .ok (.ldc 194, 2) := by decide +kernel
theorem dX5_ofFault_26 : decode cX5_ofFault 26 = .ok (.invokespecial 196, 3) := by decide +kernel
theorem dX5_ofFault_29 : decode cX5_ofFault 29 = .ok (.athrow, 1) := by decide +kernel
set_option maxRecDepth 20000 in
theorem ggX5_faultsAt_X5_requireStatement : GoodIn wsX5_faultsAt wsX5_requireStatement := goodIn_ca (goodIn_r _ [5, 6, 7, 8, 195, 196, 197, 198, 199, 200, 201, 202, 203, 204, 205, 206, 207, 208, 209, 210, 211] (by decide +kernel) (by decide +kernel)) (goodIn_sub (fun _ h => List.mem_cons_of_mem _ (List.mem_append_right _ h)) (by decide +kernel))
set_option maxRecDepth 20000 in
theorem gX5_faultsAt_X5_requireStatement : GoodIn wsX5_faultsAt (wsV RX5 113 RX5 yX5_requireStatement wsX5_requireStatement) := goodIn_app (goodIn_of _ (by decide +kernel)) ggX5_faultsAt_X5_requireStatement
theorem dX5_faultsAt_0 : decode cX5_faultsAt 0 = .ok (.aload_n 0, 1) := by decide +kernel
theorem dX5_faultsAt_1 : decode cX5_faultsAt 1 = .ok (.iload_n 1, 1) := by decide +kernel
theorem dX5_faultsAt_2 : decode cX5_faultsAt 2 = .ok (.invokevirtual 113, 3) := by decide +kernel
set_option maxRecDepth 20000 in
theorem ggX5_faultsOf_X5_checked : GoodIn wsX5_faultsOf wsX5_checked := goodIn_r _ [7, 8, 9, 10, 11, 12, 13, 14, 15, 16, 17, 18, 19, 20, 21, 22, 23, 24, 25, 26, 27, 28, 29, 30, 31, 32, 33, 34, 35, 36, 37, 38, 39, 40, 41, 42, 43, 44, 45, 46, 47, 48, 49, 50, 51, 52, 53, 54, 55, 56, 57, 58, 59, 60, 61, 62, 63, 64, 65, 66, 67, 68, 69, 70, 71, 72, 73, 74, 75, 76, 77, 78, 79, 80, 81, 82, 83, 84, 85, 86, 87, 88, 89, 90, 6, 91, 92, 93, 94, 95, 96, 97, 98, 99, 100, 101, 102, 103, 104, 105, 106, 107, 108, 109, 110, 111, 112, 113, 114, 115, 116, 117, 118, 119, 120, 121, 122, 123, 124, 125, 126, 127, 128, 129, 130, 131, 132, 133, 134, 135, 136, 137, 138, 139, 140, 141, 142, 143, 144, 145, 146, 147, 148, 149, 150, 151, 152, 153, 154, 155, 156, 157, 158, 159, 160, 161, 162, 163, 164, 165, 166, 167, 168, 169, 170, 171, 172, 173, 174, 175, 176, 191, 192, 193, 194, 188, 189, 190, 195, 196, 197, 198, 199, 200, 201, 202, 203, 204, 205, 206, 207, 208, 209, 210, 211, 212, 213, 214, 215, 216, 217, 218, 219, 220, 221, 222, 223, 224, 225, 226, 227, 228, 229, 230, 231] (by decide +kernel) (by decide +kernel)
set_option maxRecDepth 20000 in
theorem gX5_faultsOf_X5_checked : GoodIn wsX5_faultsOf (wsV RX5 129 RX5 yX5_checked wsX5_checked) := goodIn_app (goodIn_of _ (by decide +kernel)) ggX5_faultsOf_X5_checked
set_option maxRecDepth 20000 in
theorem ggX5_faultsOf_X1_countOf : GoodIn wsX5_faultsOf wsX1_countOf := goodIn_r _ [179, 157, 180, 181, 182, 135, 183, 138, 156, 184, 185, 186, 187, 228, 229, 230, 231] (by decide +kernel) (by decide +kernel)
theorem dX5_faultsOf_0 : decode cX5_faultsOf 0 = .ok (.iload_n 1, 1) := by decide +kernel
theorem dX5_faultsOf_1 : decode cX5_faultsOf 1 = .ok (.iconst 1, 1) := by decide +kernel
theorem dX5_faultsOf_2 : decode cX5_faultsOf 2 = .ok (.if_icmp .lt 9, 3) := by decide +kernel
theorem dX5_faultsOf_5 : decode cX5_faultsOf 5 = .ok (.iload_n 1, 1) := by decide +kernel
theorem dX5_faultsOf_6 : decode cX5_faultsOf 6 = .ok (.bipush 6, 2) := by decide +kernel
theorem dX5_faultsOf_8 : decode cX5_faultsOf 8 = .ok (.if_icmp .le 13, 3) := by decide +kernel
theorem dX5_faultsOf_11 : decode cX5_faultsOf 11 = .ok (.new 32, 3) := by decide +kernel
theorem dX5_faultsOf_14 : decode cX5_faultsOf 14 = .ok (.dup, 1) := by decide +kernel
theorem dX5_faultsOf_15 : decode cX5_faultsOf 15 = .ok (.ldc 206, 2) := by decide +kernel
theorem dX5_faultsOf_17 : decode cX5_faultsOf 17 = .ok (.invokespecial 36, 3) := by decide +kernel
theorem dX5_faultsOf_20 : decode cX5_faultsOf 20 = .ok (.athrow, 1) := by decide +kernel
theorem dX5_faultsOf_21 : decode cX5_faultsOf 21 = .ok (.aload_n 0, 1) := by decide +kernel
theorem dX5_faultsOf_22 : decode cX5_faultsOf 22 = .ok (.invokevirtual 129, 3) := by decide +kernel
theorem dX5_faultsOf_25 : decode cX5_faultsOf 25 = .ok (.getfield 183, 3) := by decide +kernel
theorem dX5_faultsOf_28 : decode cX5_faultsOf 28 = .ok (.iload_n 1, 1) := by decide +kernel
theorem dX5_faultsOf_29 : decode cX5_faultsOf 29 = .ok (.invokevirtual 208, 3) := by decide +kernel
theorem dX5_faultsOf_32 : decode cX5_faultsOf 32 = .ok (.ireturn, 1) := by decide +kernel
set_option maxRecDepth 20000 in
theorem ggX5_without_X5_requireStatement : GoodIn wsX5_without wsX5_requireStatement := goodIn_ca (goodIn_r _ [5, 6, 7, 8, 180, 181, 182, 183, 184, 185, 186, 187, 188, 189, 190, 191, 192, 193, 194, 195, 196] (by decide +kernel) (by decide +kernel)) (goodIn_sub (fun _ h => List.mem_cons_of_mem _ (List.mem_append_right _ h)) (by decide +kernel))
set_option maxRecDepth 20000 in
theorem gX5_without_X5_requireStatement : GoodIn wsX5_without (wsV RX5 113 RX5 yX5_requireStatement wsX5_requireStatement) := goodIn_app (goodIn_of _ (by decide +kernel)) ggX5_without_X5_requireStatement
theorem dX5_without_0 : decode cX5_without 0 = .ok (.aload_n 0, 1) := by decide +kernel
theorem dX5_without_1 : decode cX5_without 1 = .ok (.iload_n 1, 1) := by decide +kernel
theorem dX5_without_2 : decode cX5_without 2 = .ok (.invokevirtual 113, 3) := by decide +kernel
set_option maxRecDepth 20000 in
theorem ggX5_copied_X5_requireStatement : GoodIn wsX5_copied wsX5_requireStatement := goodIn_ca (goodIn_r _ [5, 6, 7, 8, 180, 181, 182, 183, 184, 185, 186, 187, 188, 189, 190, 191, 192, 193, 194, 195, 196] (by decide +kernel) (by decide +kernel)) (goodIn_sub (fun _ h => List.mem_cons_of_mem _ (List.mem_append_right _ h)) (by decide +kernel))
set_option maxRecDepth 20000 in
theorem gX5_copied_X5_requireStatement : GoodIn wsX5_copied (wsV RX5 113 RX5 yX5_requireStatement wsX5_requireStatement) := goodIn_app (goodIn_of _ (by decide +kernel)) ggX5_copied_X5_requireStatement
theorem dX5_copied_0 : decode cX5_copied 0 = .ok (.aload_n 0, 1) := by decide +kernel
theorem dX5_copied_1 : decode cX5_copied 1 = .ok (.iload_n 1, 1) := by decide +kernel
theorem dX5_copied_2 : decode cX5_copied 2 = .ok (.invokevirtual 113, 3) := by decide +kernel
set_option maxRecDepth 20000 in
theorem ggX5_culprit_X5_checked : GoodIn wsX5_culprit wsX5_checked := goodIn_r _ [6, 7, 8, 1, 9, 10, 11, 12, 13, 14, 15, 16, 17, 18, 19, 20, 21, 22, 23, 24, 25, 26, 27, 28, 29, 30, 31, 32, 33, 34, 35, 36, 37, 38, 39, 40, 41, 42, 43, 44, 45, 46, 47, 48, 49, 50, 51, 52, 53, 54, 55, 56, 57, 58, 59, 60, 61, 62, 63, 64, 65, 66, 67, 68, 69, 70, 71, 72, 73, 74, 75, 76, 77, 78, 79, 80, 81, 82, 83, 84, 85, 86, 87, 88, 5, 89, 90, 91, 92, 93, 94, 95, 96, 97, 98, 99, 100, 101, 102, 103, 104, 105, 106, 107, 108, 109, 110, 111, 112, 113, 114, 115, 116, 117, 118, 119, 120, 121, 122, 123, 124, 125, 126, 127, 128, 129, 130, 131, 132, 133, 134, 135, 136, 137, 138, 139, 140, 141, 142, 143, 144, 145, 146, 147, 148, 149, 150, 151, 152, 153, 154, 155, 156, 157, 158, 159, 160, 161, 162, 163, 164, 165, 166, 167, 168, 169, 170, 171, 172, 173, 174, 187, 188, 189, 190, 180, 181, 182, 191, 192, 193, 194, 195, 196, 197, 198, 199, 200, 201, 202, 203, 204, 205, 206, 207, 208, 209, 210, 211, 212, 213, 214, 215, 216, 217, 218, 219, 220, 221, 222, 223, 183, 184, 185, 186] (by decide +kernel) (by decide +kernel)
set_option maxRecDepth 20000 in
theorem gX5_culprit_X5_checked : GoodIn wsX5_culprit (wsV RX5 129 RX5 yX5_checked wsX5_checked) := goodIn_app (goodIn_of _ (by decide +kernel)) ggX5_culprit_X5_checked
theorem dX5_culprit_0 : decode cX5_culprit 0 = .ok (.aload_n 0, 1) := by decide +kernel
theorem dX5_culprit_1 : decode cX5_culprit 1 = .ok (.invokevirtual 129, 3) := by decide +kernel
theorem dX5_culprit_4 : decode cX5_culprit 4 = .ok (.getfield 183, 3) := by decide +kernel
theorem dX5_culprit_7 : decode cX5_culprit 7 = .ok (.getfield 187, 3) := by decide +kernel
theorem dX5_culprit_10 : decode cX5_culprit 10 = .ok (.istore_n 1, 1) := by decide +kernel
theorem dX5_culprit_11 : decode cX5_culprit 11 = .ok (.iconst (-1), 1) := by decide +kernel
theorem dX5_culprit_12 : decode cX5_culprit 12 = .ok (.istore_n 2, 1) := by decide +kernel
theorem dX5_culprit_13 : decode cX5_culprit 13 = .ok (.iconst 0, 1) := by decide +kernel
theorem dX5_culprit_14 : decode cX5_culprit 14 = .ok (.istore_n 3, 1) := by decide +kernel
theorem dX5_culprit_15 : decode cX5_culprit 15 = .ok (.iload_n 3, 1) := by decide +kernel
theorem dX5_culprit_16 : decode cX5_culprit 16 = .ok (.aload_n 0, 1) := by decide +kernel
theorem dX5_culprit_17 : decode cX5_culprit 17 = .ok (.getfield 12, 3) := by decide +kernel
theorem dX5_culprit_20 : decode cX5_culprit 20 = .ok (.getfield 121, 3) := by decide +kernel
theorem dX5_culprit_23 : decode cX5_culprit 23 = .ok (.if_icmp .ge 28, 3) := by decide +kernel
theorem dX5_culprit_51 : decode cX5_culprit 51 = .ok (.iload_n 2, 1) := by decide +kernel
theorem dX5_culprit_52 : decode cX5_culprit 52 = .ok (.ireturn, 1) := by decide +kernel
set_option maxRecDepth 20000 in
theorem ggX5_density_X5_checked : GoodIn wsX5_density wsX5_checked := goodIn_r _ [5, 6, 7, 8, 9, 10, 11, 12, 13, 14, 15, 16, 17, 18, 19, 20, 21, 22, 23, 24, 25, 26, 27, 28, 29, 30, 31, 32, 33, 34, 35, 36, 37, 38, 39, 40, 41, 42, 43, 44, 45, 46, 47, 48, 49, 50, 51, 52, 53, 54, 55, 56, 57, 58, 59, 60, 61, 62, 63, 64, 65, 66, 67, 68, 69, 70, 71, 72, 73, 74, 75, 76, 77, 78, 79, 80, 81, 82, 83, 84, 85, 86, 87, 88, 4, 89, 90, 91, 92, 93, 94, 95, 96, 97, 98, 99, 100, 101, 102, 103, 104, 105, 106, 107, 108, 109, 110, 111, 112, 113, 114, 115, 116, 117, 118, 119, 120, 121, 122, 123, 124, 125, 126, 127, 128, 129, 130, 131, 132, 133, 134, 135, 136, 137, 138, 139, 140, 141, 142, 143, 144, 145, 146, 147, 148, 149, 150, 151, 152, 153, 154, 155, 156, 157, 158, 159, 160, 161, 162, 163, 164, 165, 166, 167, 168, 169, 170, 171, 172, 173, 174, 198, 199, 200, 201, 182, 183, 184, 202, 203, 204, 205, 206, 207, 208, 209, 210, 211, 212, 213, 214, 215, 216, 217, 218, 219, 220, 221, 222, 223, 224, 225, 185, 186, 187, 188, 189, 190, 191, 192, 193, 194, 195, 196, 197] (by decide +kernel) (by decide +kernel)
set_option maxRecDepth 20000 in
theorem gX5_density_X5_checked : GoodIn wsX5_density (wsV RX5 129 RX5 yX5_checked wsX5_checked) := goodIn_app (goodIn_of _ (by decide +kernel)) ggX5_density_X5_checked
set_option maxRecDepth 20000 in
theorem ggX5_density_J13_bitCount_95d88 : GoodIn wsX5_density wsJ13_bitCount_95d88 := goodIn_r _ [178, 179, 180, 181] (by decide +kernel) (by decide +kernel)
set_option maxRecDepth 20000 in
theorem gX5_density_J13_bitCount_95d88 : GoodIn wsX5_density (va_wsS RX5 155 yJ13_bitCount_95d88 wsJ13_bitCount_95d88) := goodIn_app (goodIn_of _ (by decide +kernel)) ggX5_density_J13_bitCount_95d88
theorem dX5_density_0 : decode cX5_density 0 = .ok (.aload_n 0, 1) := by decide +kernel
theorem dX5_density_1 : decode cX5_density 1 = .ok (.invokevirtual 129, 3) := by decide +kernel
theorem dX5_density_4 : decode cX5_density 4 = .ok (.astore_n 1, 1) := by decide +kernel
theorem dX5_density_5 : decode cX5_density 5 = .ok (.aload_n 1, 1) := by decide +kernel
theorem dX5_density_6 : decode cX5_density 6 = .ok (.getfield 133, 3) := by decide +kernel
theorem dX5_density_9 : decode cX5_density 9 = .ok (.getfield 215, 3) := by decide +kernel
theorem dX5_density_12 : decode cX5_density 12 = .ok (.invokestatic 155, 3) := by decide +kernel
theorem dX5_density_15 : decode cX5_density 15 = .ok (.istore_n 2, 1) := by decide +kernel
theorem dX5_density_16 : decode cX5_density 16 = .ok (.iload_n 2, 1) := by decide +kernel
theorem dX5_density_17 : decode cX5_density 17 = .ok (.ifCond .le 17, 3) := by decide +kernel
theorem dX5_density_34 : decode cX5_density 34 = .ok (.dconst 0, 1) := by decide +kernel
theorem dX5_density_35 : decode cX5_density 35 = .ok (.dreturn, 1) := by decide +kernel
set_option maxRecDepth 20000 in
theorem ggX5_digest_X5_checked : GoodIn wsX5_digest wsX5_checked := goodIn_r _ [8, 9, 10, 3, 11, 12, 13, 14, 15, 16, 17, 18, 19, 20, 21, 22, 23, 24, 25, 26, 27, 28, 29, 30, 31, 32, 33, 34, 35, 36, 37, 38, 39, 40, 41, 42, 43, 44, 45, 46, 47, 48, 49, 50, 51, 52, 53, 54, 55, 56, 57, 58, 59, 60, 61, 62, 63, 64, 65, 66, 67, 68, 69, 70, 71, 72, 73, 74, 75, 76, 77, 78, 79, 80, 81, 82, 83, 84, 85, 86, 87, 88, 89, 90, 7, 91, 92, 93, 94, 95, 96, 97, 98, 99, 100, 101, 102, 103, 104, 105, 106, 107, 108, 109, 110, 111, 112, 113, 114, 115, 116, 117, 118, 119, 120, 121, 122, 123, 124, 125, 126, 127, 128, 129, 130, 131, 132, 133, 134, 135, 136, 137, 138, 139, 140, 141, 142, 143, 144, 145, 146, 147, 148, 149, 150, 151, 152, 153, 154, 155, 156, 157, 158, 159, 160, 161, 162, 163, 164, 165, 166, 167, 168, 169, 170, 171, 172, 173, 174, 175, 176, 239, 240, 241, 242, 256, 257, 258, 243, 244, 245, 246, 247, 248, 249, 250, 251, 252, 253, 254, 255, 263, 264, 265, 266, 267, 268, 269, 270, 271, 272, 273, 274, 275, 276, 277, 278, 279, 280, 281, 282, 259, 260, 261, 262] (by decide +kernel) (by decide +kernel)
set_option maxRecDepth 20000 in
theorem gX5_digest_X5_checked : GoodIn wsX5_digest (wsV RX5 129 RX5 yX5_checked wsX5_checked) := goodIn_app (goodIn_of _ (by decide +kernel)) ggX5_digest_X5_checked
set_option maxRecDepth 20000 in
theorem ggX5_digest_X0_countLoans : GoodIn wsX5_digest wsX0_countLoans := goodIn_r _ [179, 16, 104, 32, 105, 106, 107, 35, 87, 72, 88, 89, 81, 90, 7, 91, 243, 244, 245, 246, 247, 248, 249, 250, 251, 252, 253, 254, 255, 256, 257, 258, 274, 275, 276, 277, 278, 279, 280, 281, 282] (by decide +kernel) (by decide +kernel)
set_option maxRecDepth 20000 in
theorem ggX5_digest_X1_countOf : GoodIn wsX5_digest wsX1_countOf := goodIn_r _ [237, 157, 238, 197, 198, 135, 199, 138, 156, 200, 201, 202, 203, 259, 260, 261, 262] (by decide +kernel) (by decide +kernel)
theorem dX5_digest_0 : decode cX5_digest 0 = .ok (.aload_n 0, 1) := by decide +kernel
theorem dX5_digest_1 : decode cX5_digest 1 = .ok (.invokevirtual 129, 3) := by decide +kernel
theorem dX5_digest_4 : decode cX5_digest 4 = .ok (.astore_n 1, 1) := by decide +kernel
theorem dX5_digest_5 : decode cX5_digest 5 = .ok (.ldc2_w 219, 3) := by decide +kernel
theorem dX5_digest_8 : decode cX5_digest 8 = .ok (.lstore_n 2, 1) := by decide +kernel
theorem dX5_digest_9 : decode cX5_digest 9 = .ok (.lload_n 2, 1) := by decide +kernel
theorem dX5_digest_10 : decode cX5_digest 10 = .ok (.ldc2_w 221, 3) := by decide +kernel
theorem dX5_digest_13 : decode cX5_digest 13 = .ok (.lmul, 1) := by decide +kernel
theorem dX5_digest_14 : decode cX5_digest 14 = .ok (.aload_n 0, 1) := by decide +kernel
theorem dX5_digest_15 : decode cX5_digest 15 = .ok (.getfield 12, 3) := by decide +kernel
theorem dX5_digest_18 : decode cX5_digest 18 = .ok (.getfield 39, 3) := by decide +kernel
theorem dX5_digest_21 : decode cX5_digest 21 = .ok (.i2l, 1) := by decide +kernel
theorem dX5_digest_22 : decode cX5_digest 22 = .ok (.ladd, 1) := by decide +kernel
theorem dX5_digest_23 : decode cX5_digest 23 = .ok (.lstore_n 2, 1) := by decide +kernel
theorem dX5_digest_24 : decode cX5_digest 24 = .ok (.lload_n 2, 1) := by decide +kernel
theorem dX5_digest_25 : decode cX5_digest 25 = .ok (.ldc2_w 221, 3) := by decide +kernel
theorem dX5_digest_28 : decode cX5_digest 28 = .ok (.lmul, 1) := by decide +kernel
theorem dX5_digest_29 : decode cX5_digest 29 = .ok (.aload_n 0, 1) := by decide +kernel
theorem dX5_digest_30 : decode cX5_digest 30 = .ok (.getfield 12, 3) := by decide +kernel
theorem dX5_digest_33 : decode cX5_digest 33 = .ok (.getfield 121, 3) := by decide +kernel
theorem dX5_digest_36 : decode cX5_digest 36 = .ok (.i2l, 1) := by decide +kernel
theorem dX5_digest_37 : decode cX5_digest 37 = .ok (.ladd, 1) := by decide +kernel
theorem dX5_digest_38 : decode cX5_digest 38 = .ok (.lstore_n 2, 1) := by decide +kernel
theorem dX5_digest_39 : decode cX5_digest 39 = .ok (.lload_n 2, 1) := by decide +kernel
theorem dX5_digest_40 : decode cX5_digest 40 = .ok (.ldc2_w 221, 3) := by decide +kernel
theorem dX5_digest_43 : decode cX5_digest 43 = .ok (.lmul, 1) := by decide +kernel
theorem dX5_digest_44 : decode cX5_digest 44 = .ok (.aload_n 1, 1) := by decide +kernel
theorem dX5_digest_45 : decode cX5_digest 45 = .ok (.aload_n 0, 1) := by decide +kernel
theorem dX5_digest_46 : decode cX5_digest 46 = .ok (.getfield 12, 3) := by decide +kernel
theorem dX5_digest_49 : decode cX5_digest 49 = .ok (.invokevirtual 171, 3) := by decide +kernel
theorem dX5_digest_52 : decode cX5_digest 52 = .ok (.i2l, 1) := by decide +kernel
theorem dX5_digest_53 : decode cX5_digest 53 = .ok (.ladd, 1) := by decide +kernel
theorem dX5_digest_54 : decode cX5_digest 54 = .ok (.lstore_n 2, 1) := by decide +kernel
theorem dX5_digest_55 : decode cX5_digest 55 = .ok (.lload_n 2, 1) := by decide +kernel
theorem dX5_digest_56 : decode cX5_digest 56 = .ok (.ldc2_w 221, 3) := by decide +kernel
theorem dX5_digest_59 : decode cX5_digest 59 = .ok (.lmul, 1) := by decide +kernel
theorem dX5_digest_60 : decode cX5_digest 60 = .ok (.aload_n 1, 1) := by decide +kernel
theorem dX5_digest_61 : decode cX5_digest 61 = .ok (.getfield 183, 3) := by decide +kernel
theorem dX5_digest_64 : decode cX5_digest 64 = .ok (.getfield 187, 3) := by decide +kernel
theorem dX5_digest_67 : decode cX5_digest 67 = .ok (.i2l, 1) := by decide +kernel
theorem dX5_digest_68 : decode cX5_digest 68 = .ok (.ladd, 1) := by decide +kernel
theorem dX5_digest_69 : decode cX5_digest 69 = .ok (.lstore_n 2, 1) := by decide +kernel
theorem dX5_digest_70 : decode cX5_digest 70 = .ok (.iconst 0, 1) := by decide +kernel
theorem dX5_digest_71 : decode cX5_digest 71 = .ok (.istore 4, 2) := by decide +kernel
theorem dX5_digest_73 : decode cX5_digest 73 = .ok (.iload 4, 2) := by decide +kernel
theorem dX5_digest_75 : decode cX5_digest 75 = .ok (.aload_n 0, 1) := by decide +kernel
theorem dX5_digest_76 : decode cX5_digest 76 = .ok (.getfield 12, 3) := by decide +kernel
theorem dX5_digest_79 : decode cX5_digest 79 = .ok (.getfield 121, 3) := by decide +kernel
theorem dX5_digest_82 : decode cX5_digest 82 = .ok (.if_icmp .ge 18, 3) := by decide +kernel
theorem dX5_digest_100 : decode cX5_digest 100 = .ok (.iconst 0, 1) := by decide +kernel
theorem dX5_digest_101 : decode cX5_digest 101 = .ok (.istore 4, 2) := by decide +kernel
theorem dX5_digest_103 : decode cX5_digest 103 = .ok (.iload 4, 2) := by decide +kernel
theorem dX5_digest_105 : decode cX5_digest 105 = .ok (.aload_n 1, 1) := by decide +kernel
theorem dX5_digest_106 : decode cX5_digest 106 = .ok (.getfield 183, 3) := by decide +kernel
theorem dX5_digest_109 : decode cX5_digest 109 = .ok (.getfield 187, 3) := by decide +kernel
theorem dX5_digest_112 : decode cX5_digest 112 = .ok (.if_icmp .ge 45, 3) := by decide +kernel
theorem dX5_digest_157 : decode cX5_digest 157 = .ok (.iconst 1, 1) := by decide +kernel
theorem dX5_digest_158 : decode cX5_digest 158 = .ok (.istore 4, 2) := by decide +kernel
theorem dX5_digest_160 : decode cX5_digest 160 = .ok (.iload 4, 2) := by decide +kernel
theorem dX5_digest_162 : decode cX5_digest 162 = .ok (.bipush 6, 2) := by decide +kernel
theorem dX5_digest_164 : decode cX5_digest 164 = .ok (.if_icmp .gt 26, 3) := by decide +kernel
theorem dX5_digest_167 : decode cX5_digest 167 = .ok (.lload_n 2, 1) := by decide +kernel
theorem dX5_digest_168 : decode cX5_digest 168 = .ok (.ldc2_w 221, 3) := by decide +kernel
theorem dX5_digest_171 : decode cX5_digest 171 = .ok (.lmul, 1) := by decide +kernel
theorem dX5_digest_172 : decode cX5_digest 172 = .ok (.aload_n 1, 1) := by decide +kernel
theorem dX5_digest_173 : decode cX5_digest 173 = .ok (.getfield 183, 3) := by decide +kernel
theorem dX5_digest_176 : decode cX5_digest 176 = .ok (.iload 4, 2) := by decide +kernel
theorem dX5_digest_178 : decode cX5_digest 178 = .ok (.invokevirtual 208, 3) := by decide +kernel
theorem dX5_digest_181 : decode cX5_digest 181 = .ok (.i2l, 1) := by decide +kernel
theorem dX5_digest_182 : decode cX5_digest 182 = .ok (.ladd, 1) := by decide +kernel
theorem dX5_digest_183 : decode cX5_digest 183 = .ok (.lstore_n 2, 1) := by decide +kernel
theorem dX5_digest_184 : decode cX5_digest 184 = .ok (.iinc 4 1, 3) := by decide +kernel
theorem dX5_digest_187 : decode cX5_digest 187 = .ok (.goto (-27), 3) := by decide +kernel
theorem dX5_digest_190 : decode cX5_digest 190 = .ok (.lload_n 2, 1) := by decide +kernel
theorem dX5_digest_191 : decode cX5_digest 191 = .ok (.lreturn, 1) := by decide +kernel
set_option maxRecDepth 20000 in
theorem ggX5_begin_X3_addStatement : GoodIn wsX5_begin wsX3_addStatement := goodIn_r _ [6, 7, 8, 9, 10, 11, 12, 17, 18, 19, 20, 21, 22, 23, 24, 25, 26, 27, 28, 29] (by decide +kernel) (by decide +kernel)
theorem dX5_begin_0 : decode cX5_begin 0 = .ok (.aload_n 0, 1) := by decide +kernel
theorem dX5_begin_1 : decode cX5_begin 1 = .ok (.iconst 0, 1) := by decide +kernel
theorem dX5_begin_2 : decode cX5_begin 2 = .ok (.putfield 28, 3) := by decide +kernel
theorem dX5_begin_5 : decode cX5_begin 5 = .ok (.aload_n 0, 1) := by decide +kernel
theorem dX5_begin_6 : decode cX5_begin 6 = .ok (.getfield 12, 3) := by decide +kernel
theorem dX5_begin_9 : decode cX5_begin 9 = .ok (.iload_n 1, 1) := by decide +kernel
theorem dX5_begin_10 : decode cX5_begin 10 = .ok (.invokevirtual 227, 3) := by decide +kernel
theorem dX5_begin_13 : decode cX5_begin 13 = .ok (.ireturn, 1) := by decide +kernel
set_option maxRecDepth 20000 in
theorem ggX5_checked_X0_run : GoodIn wsX5_checked wsX0_run := goodIn_r _ [7, 8, 9, 10, 11, 12, 13, 14, 15, 16, 17, 18, 19, 20, 21, 22, 23, 24, 25, 26, 27, 28, 29, 30, 31, 32, 33, 34, 35, 36, 37, 38, 39, 40, 41, 42, 43, 44, 45, 46, 47, 48, 49, 50, 51, 52, 53, 54, 55, 56, 57, 58, 59, 60, 61, 62, 63, 64, 65, 66, 67, 68, 69, 70, 71, 72, 73, 74, 75, 76, 77, 78, 79, 80, 81, 82, 83, 84, 85, 86, 87, 88, 89, 90, 91, 92, 93, 94, 95, 96, 97, 98, 99, 100, 101, 102, 103, 104, 105, 106, 107, 108, 109, 110, 111, 112, 113, 114, 115, 116, 117, 118, 119, 120, 121, 122, 123, 124, 125, 126, 127, 128, 129, 130, 131, 132, 133, 134, 135, 136, 137, 138, 139, 140, 141, 142, 143, 144, 145, 146, 147, 148, 149, 150, 151, 152, 153, 154, 155, 156, 157, 158, 159, 160, 161, 162, 163, 164, 165, 166, 167, 168, 169, 170, 175, 176, 177, 178, 179, 180, 181, 182, 183, 184, 185, 186, 187, 188, 189, 190, 191, 192, 193, 194, 195, 196, 197, 198, 199, 200, 201, 202, 203, 204, 205, 206, 207, 208, 209, 210, 211, 212, 213, 214] (by decide +kernel) (by decide +kernel)
theorem dX5_checked_0 : decode cX5_checked 0 = .ok (.aload_n 0, 1) := by decide +kernel
theorem dX5_checked_1 : decode cX5_checked 1 = .ok (.getfield 28, 3) := by decide +kernel
theorem dX5_checked_4 : decode cX5_checked 4 = .ok (.ifCond .ne 21, 3) := by decide +kernel
theorem dX5_checked_7 : decode cX5_checked 7 = .ok (.aload_n 0, 1) := by decide +kernel
theorem dX5_checked_8 : decode cX5_checked 8 = .ok (.getfield 21, 3) := by decide +kernel
theorem dX5_checked_11 : decode cX5_checked 11 = .ok (.aload_n 0, 1) := by decide +kernel
theorem dX5_checked_12 : decode cX5_checked 12 = .ok (.getfield 12, 3) := by decide +kernel
theorem dX5_checked_15 : decode cX5_checked 15 = .ok (.iconst (-1), 1) := by decide +kernel
theorem dX5_checked_16 : decode cX5_checked 16 = .ok (.iconst (-1), 1) := by decide +kernel
theorem dX5_checked_17 : decode cX5_checked 17 = .ok (.invokevirtual 229, 3) := by decide +kernel
theorem dX5_checked_20 : decode cX5_checked 20 = .ok (.aload_n 0, 1) := by decide +kernel
theorem dX5_checked_21 : decode cX5_checked 21 = .ok (.iconst 1, 1) := by decide +kernel
theorem dX5_checked_22 : decode cX5_checked 22 = .ok (.putfield 28, 3) := by decide +kernel
theorem dX5_checked_25 : decode cX5_checked 25 = .ok (.aload_n 0, 1) := by decide +kernel
theorem dX5_checked_26 : decode cX5_checked 26 = .ok (.getfield 21, 3) := by decide +kernel
theorem dX5_checked_29 : decode cX5_checked 29 = .ok (.areturn, 1) := by decide +kernel
theorem dX5_requireVariable_0 : decode cX5_requireVariable 0 = .ok (.iload_n 1, 1) := by decide +kernel
theorem dX5_requireVariable_1 : decode cX5_requireVariable 1 = .ok (.ifCond .lt 14, 3) := by decide +kernel
theorem dX5_requireVariable_4 : decode cX5_requireVariable 4 = .ok (.iload_n 1, 1) := by decide +kernel
theorem dX5_requireVariable_5 : decode cX5_requireVariable 5 = .ok (.aload_n 0, 1) := by decide +kernel
theorem dX5_requireVariable_6 : decode cX5_requireVariable 6 = .ok (.getfield 12, 3) := by decide +kernel
theorem dX5_requireVariable_9 : decode cX5_requireVariable 9 = .ok (.getfield 39, 3) := by decide +kernel
theorem dX5_requireVariable_12 : decode cX5_requireVariable 12 = .ok (.if_icmp .lt 13, 3) := by decide +kernel
theorem dX5_requireVariable_15 : decode cX5_requireVariable 15 = .ok (.new 192, 3) := by decide +kernel
theorem dX5_requireVariable_18 : decode cX5_requireVariable 18 = .ok (.dup, 1) := by decide +kernel
theorem dX5_requireVariable_19 : decode cX5_requireVariable 19 = .ok (.ldc 233, 2) := by decide +kernel
theorem dX5_requireVariable_21 : decode cX5_requireVariable 21 = .ok (.invokespecial 196, 3) := by decide +kernel
theorem dX5_requireVariable_24 : decode cX5_requireVariable 24 = .ok (.athrow, 1) := by decide +kernel
set_option maxRecDepth 20000 in
theorem ggX5_requireVariableOrNone_X5_requireVariable : GoodIn wsX5_requireVariableOrNone wsX5_requireVariable := goodIn_ca (goodIn_r _ [5, 6, 7, 8, 9, 10, 11, 12, 13, 14, 15, 16, 17, 18, 19, 20, 21, 22, 23, 24, 25] (by decide +kernel) (by decide +kernel)) (goodIn_sub (fun _ h => List.mem_cons_of_mem _ (List.mem_append_right _ h)) (by decide +kernel))
set_option maxRecDepth 20000 in
theorem gX5_requireVariableOrNone_X5_requireVariable : GoodIn wsX5_requireVariableOrNone (wsV RX5 52 RX5 yX5_requireVariable wsX5_requireVariable) := goodIn_app (goodIn_of _ (by decide +kernel)) ggX5_requireVariableOrNone_X5_requireVariable
theorem dX5_requireVariableOrNone_0 : decode cX5_requireVariableOrNone 0 = .ok (.iload_n 1, 1) := by decide +kernel
theorem dX5_requireVariableOrNone_1 : decode cX5_requireVariableOrNone 1 = .ok (.iconst (-1), 1) := by decide +kernel
theorem dX5_requireVariableOrNone_2 : decode cX5_requireVariableOrNone 2 = .ok (.if_icmp .eq 8, 3) := by decide +kernel
theorem dX5_requireVariableOrNone_5 : decode cX5_requireVariableOrNone 5 = .ok (.aload_n 0, 1) := by decide +kernel
theorem dX5_requireVariableOrNone_6 : decode cX5_requireVariableOrNone 6 = .ok (.iload_n 1, 1) := by decide +kernel
theorem dX5_requireVariableOrNone_7 : decode cX5_requireVariableOrNone 7 = .ok (.invokevirtual 52, 3) := by decide +kernel
theorem dX5_requireVariableOrNone_10 : decode cX5_requireVariableOrNone 10 = .ok (.return_, 1) := by decide +kernel
theorem dX5_requireStatement_0 : decode cX5_requireStatement 0 = .ok (.iload_n 1, 1) := by decide +kernel
theorem dX5_requireStatement_1 : decode cX5_requireStatement 1 = .ok (.ifCond .lt 14, 3) := by decide +kernel
theorem dX5_requireStatement_4 : decode cX5_requireStatement 4 = .ok (.iload_n 1, 1) := by decide +kernel
theorem dX5_requireStatement_5 : decode cX5_requireStatement 5 = .ok (.aload_n 0, 1) := by decide +kernel
theorem dX5_requireStatement_6 : decode cX5_requireStatement 6 = .ok (.getfield 12, 3) := by decide +kernel
theorem dX5_requireStatement_9 : decode cX5_requireStatement 9 = .ok (.getfield 121, 3) := by decide +kernel
theorem dX5_requireStatement_12 : decode cX5_requireStatement 12 = .ok (.if_icmp .lt 13, 3) := by decide +kernel
theorem dX5_requireStatement_15 : decode cX5_requireStatement 15 = .ok (.new 192, 3) := by decide +kernel
theorem dX5_requireStatement_18 : decode cX5_requireStatement 18 = .ok (.dup, 1) := by decide +kernel
theorem dX5_requireStatement_19 : decode cX5_requireStatement 19 = .ok (.ldc 235, 2) := by decide +kernel
theorem dX5_requireStatement_21 : decode cX5_requireStatement 21 = .ok (.invokespecial 196, 3) := by decide +kernel
theorem dX5_requireStatement_24 : decode cX5_requireStatement 24 = .ok (.athrow, 1) := by decide +kernel
theorem dX5_requireTarget_0 : decode cX5_requireTarget 0 = .ok (.iload_n 1, 1) := by decide +kernel
theorem dX5_requireTarget_1 : decode cX5_requireTarget 1 = .ok (.ifCond .lt 9, 3) := by decide +kernel
theorem dX5_requireTarget_4 : decode cX5_requireTarget 4 = .ok (.iload_n 1, 1) := by decide +kernel
theorem dX5_requireTarget_5 : decode cX5_requireTarget 5 = .ok (.bipush 40, 2) := by decide +kernel
theorem dX5_requireTarget_7 : decode cX5_requireTarget 7 = .ok (.if_icmp .le 13, 3) := by decide +kernel
theorem dX5_requireTarget_10 : decode cX5_requireTarget 10 = .ok (.new 32, 3) := by decide +kernel
theorem dX5_requireTarget_13 : decode cX5_requireTarget 13 = .ok (.dup, 1) := by decide +kernel
theorem dX5_requireTarget_14 : decode cX5_requireTarget 14 = .ok (.ldc 237, 2) := by decide +kernel
theorem dX5_requireTarget_16 : decode cX5_requireTarget 16 = .ok (.invokespecial 36, 3) := by decide +kernel
theorem dX5_requireTarget_19 : decode cX5_requireTarget 19 = .ok (.athrow, 1) := by decide +kernel
theorem dX5_requireTarget_20 : decode cX5_requireTarget 20 = .ok (.return_, 1) := by decide +kernel
theorem dX5_requireRoom_0 : decode cX5_requireRoom 0 = .ok (.aload_n 0, 1) := by decide +kernel
theorem dX5_requireRoom_1 : decode cX5_requireRoom 1 = .ok (.getfield 12, 3) := by decide +kernel
theorem dX5_requireRoom_4 : decode cX5_requireRoom 4 = .ok (.getfield 121, 3) := by decide +kernel
theorem dX5_requireRoom_7 : decode cX5_requireRoom 7 = .ok (.bipush 40, 2) := by decide +kernel
theorem dX5_requireRoom_9 : decode cX5_requireRoom 9 = .ok (.if_icmp .lt 13, 3) := by decide +kernel
theorem dX5_requireRoom_22 : decode cX5_requireRoom 22 = .ok (.return_, 1) := by decide +kernel
theorem dJ13_bitCount_95d88_0 : decode cJ13_bitCount_95d88 0 = .ok (.lload_n 0, 1) := by decide +kernel
theorem dJ13_bitCount_95d88_1 : decode cJ13_bitCount_95d88 1 = .ok (.lload_n 0, 1) := by decide +kernel
theorem dJ13_bitCount_95d88_2 : decode cJ13_bitCount_95d88 2 = .ok (.iconst 1, 1) := by decide +kernel
theorem dJ13_bitCount_95d88_3 : decode cJ13_bitCount_95d88 3 = .ok (.lushr, 1) := by decide +kernel
theorem dJ13_bitCount_95d88_4 : decode cJ13_bitCount_95d88 4 = .ok (.ldc2_w 314, 3) := by decide +kernel
theorem dJ13_bitCount_95d88_7 : decode cJ13_bitCount_95d88 7 = .ok (.land, 1) := by decide +kernel
theorem dJ13_bitCount_95d88_8 : decode cJ13_bitCount_95d88 8 = .ok (.lsub, 1) := by decide +kernel
theorem dJ13_bitCount_95d88_9 : decode cJ13_bitCount_95d88 9 = .ok (.lstore_n 0, 1) := by decide +kernel
theorem dJ13_bitCount_95d88_10 : decode cJ13_bitCount_95d88 10 = .ok (.lload_n 0, 1) := by decide +kernel
theorem dJ13_bitCount_95d88_11 : decode cJ13_bitCount_95d88 11 = .ok (.ldc2_w 316, 3) := by decide +kernel
theorem dJ13_bitCount_95d88_14 : decode cJ13_bitCount_95d88 14 = .ok (.land, 1) := by decide +kernel
theorem dJ13_bitCount_95d88_15 : decode cJ13_bitCount_95d88 15 = .ok (.lload_n 0, 1) := by decide +kernel
theorem dJ13_bitCount_95d88_16 : decode cJ13_bitCount_95d88 16 = .ok (.iconst 2, 1) := by decide +kernel
theorem dJ13_bitCount_95d88_17 : decode cJ13_bitCount_95d88 17 = .ok (.lushr, 1) := by decide +kernel
theorem dJ13_bitCount_95d88_18 : decode cJ13_bitCount_95d88 18 = .ok (.ldc2_w 316, 3) := by decide +kernel
theorem dJ13_bitCount_95d88_21 : decode cJ13_bitCount_95d88 21 = .ok (.land, 1) := by decide +kernel
theorem dJ13_bitCount_95d88_22 : decode cJ13_bitCount_95d88 22 = .ok (.ladd, 1) := by decide +kernel
theorem dJ13_bitCount_95d88_23 : decode cJ13_bitCount_95d88 23 = .ok (.lstore_n 0, 1) := by decide +kernel
theorem dJ13_bitCount_95d88_24 : decode cJ13_bitCount_95d88 24 = .ok (.lload_n 0, 1) := by decide +kernel
theorem dJ13_bitCount_95d88_25 : decode cJ13_bitCount_95d88 25 = .ok (.lload_n 0, 1) := by decide +kernel
theorem dJ13_bitCount_95d88_26 : decode cJ13_bitCount_95d88 26 = .ok (.iconst 4, 1) := by decide +kernel
theorem dJ13_bitCount_95d88_27 : decode cJ13_bitCount_95d88 27 = .ok (.lushr, 1) := by decide +kernel
theorem dJ13_bitCount_95d88_28 : decode cJ13_bitCount_95d88 28 = .ok (.ladd, 1) := by decide +kernel
theorem dJ13_bitCount_95d88_29 : decode cJ13_bitCount_95d88 29 = .ok (.ldc2_w 318, 3) := by decide +kernel
theorem dJ13_bitCount_95d88_32 : decode cJ13_bitCount_95d88 32 = .ok (.land, 1) := by decide +kernel
theorem dJ13_bitCount_95d88_33 : decode cJ13_bitCount_95d88 33 = .ok (.lstore_n 0, 1) := by decide +kernel
theorem dJ13_bitCount_95d88_34 : decode cJ13_bitCount_95d88 34 = .ok (.lload_n 0, 1) := by decide +kernel
theorem dJ13_bitCount_95d88_35 : decode cJ13_bitCount_95d88 35 = .ok (.lload_n 0, 1) := by decide +kernel
theorem dJ13_bitCount_95d88_36 : decode cJ13_bitCount_95d88 36 = .ok (.bipush 8, 2) := by decide +kernel
theorem dJ13_bitCount_95d88_38 : decode cJ13_bitCount_95d88 38 = .ok (.lushr, 1) := by decide +kernel
theorem dJ13_bitCount_95d88_39 : decode cJ13_bitCount_95d88 39 = .ok (.ladd, 1) := by decide +kernel
theorem dJ13_bitCount_95d88_40 : decode cJ13_bitCount_95d88 40 = .ok (.lstore_n 0, 1) := by decide +kernel
theorem dJ13_bitCount_95d88_41 : decode cJ13_bitCount_95d88 41 = .ok (.lload_n 0, 1) := by decide +kernel
theorem dJ13_bitCount_95d88_42 : decode cJ13_bitCount_95d88 42 = .ok (.lload_n 0, 1) := by decide +kernel
theorem dJ13_bitCount_95d88_43 : decode cJ13_bitCount_95d88 43 = .ok (.bipush 16, 2) := by decide +kernel
theorem dJ13_bitCount_95d88_45 : decode cJ13_bitCount_95d88 45 = .ok (.lushr, 1) := by decide +kernel
theorem dJ13_bitCount_95d88_46 : decode cJ13_bitCount_95d88 46 = .ok (.ladd, 1) := by decide +kernel
theorem dJ13_bitCount_95d88_47 : decode cJ13_bitCount_95d88 47 = .ok (.lstore_n 0, 1) := by decide +kernel
theorem dJ13_bitCount_95d88_48 : decode cJ13_bitCount_95d88 48 = .ok (.lload_n 0, 1) := by decide +kernel
theorem dJ13_bitCount_95d88_49 : decode cJ13_bitCount_95d88 49 = .ok (.lload_n 0, 1) := by decide +kernel
theorem dJ13_bitCount_95d88_50 : decode cJ13_bitCount_95d88 50 = .ok (.bipush 32, 2) := by decide +kernel
theorem dJ13_bitCount_95d88_52 : decode cJ13_bitCount_95d88 52 = .ok (.lushr, 1) := by decide +kernel
theorem dJ13_bitCount_95d88_53 : decode cJ13_bitCount_95d88 53 = .ok (.ladd, 1) := by decide +kernel
theorem dJ13_bitCount_95d88_54 : decode cJ13_bitCount_95d88 54 = .ok (.lstore_n 0, 1) := by decide +kernel
theorem dJ13_bitCount_95d88_55 : decode cJ13_bitCount_95d88 55 = .ok (.lload_n 0, 1) := by decide +kernel
theorem dJ13_bitCount_95d88_56 : decode cJ13_bitCount_95d88 56 = .ok (.l2i, 1) := by decide +kernel
theorem dJ13_bitCount_95d88_57 : decode cJ13_bitCount_95d88 57 = .ok (.bipush 127, 2) := by decide +kernel
theorem dJ13_bitCount_95d88_59 : decode cJ13_bitCount_95d88 59 = .ok (.iand, 1) := by decide +kernel
theorem dJ13_bitCount_95d88_60 : decode cJ13_bitCount_95d88 60 = .ok (.ireturn, 1) := by decide +kernel
