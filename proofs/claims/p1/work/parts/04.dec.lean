theorem dX0_init_0 : decode cX0_init 0 = .ok (.aload_n 0, 1) := by decide +kernel
theorem dX0_init_1 : decode cX0_init 1 = .ok (.invokespecial 3, 3) := by decide +kernel
theorem dX0_init_4 : decode cX0_init 4 = .ok (.aload_n 0, 1) := by decide +kernel
theorem dX0_init_5 : decode cX0_init 5 = .ok (.new 9, 3) := by decide +kernel
theorem dX0_init_8 : decode cX0_init 8 = .ok (.dup, 1) := by decide +kernel
theorem dX0_init_9 : decode cX0_init 9 = .ok (.invokespecial 11, 3) := by decide +kernel
theorem dX0_init_12 : decode cX0_init 12 = .ok (.putfield 12, 3) := by decide +kernel
theorem dX0_init_15 : decode cX0_init 15 = .ok (.aload_n 0, 1) := by decide +kernel
theorem dX0_init_16 : decode cX0_init 16 = .ok (.new 18, 3) := by decide +kernel
theorem dX0_init_19 : decode cX0_init 19 = .ok (.dup, 1) := by decide +kernel
theorem dX0_init_20 : decode cX0_init 20 = .ok (.invokespecial 20, 3) := by decide +kernel
theorem dX0_init_23 : decode cX0_init 23 = .ok (.putfield 21, 3) := by decide +kernel
theorem dX0_init_26 : decode cX0_init 26 = .ok (.aload_n 0, 1) := by decide +kernel
theorem dX0_init_27 : decode cX0_init 27 = .ok (.new 25, 3) := by decide +kernel
theorem dX0_init_30 : decode cX0_init 30 = .ok (.dup, 1) := by decide +kernel
theorem dX0_init_31 : decode cX0_init 31 = .ok (.iload_n 1, 1) := by decide +kernel
theorem dX0_init_32 : decode cX0_init 32 = .ok (.invokespecial 27, 3) := by decide +kernel
theorem dX0_init_35 : decode cX0_init 35 = .ok (.putfield 30, 3) := by decide +kernel
theorem dX0_init_38 : decode cX0_init 38 = .ok (.return_, 1) := by decide +kernel
theorem dX0_run_0 : decode cX0_run 0 = .ok (.aload_n 0, 1) := by decide +kernel
theorem dX0_run_1 : decode cX0_run 1 = .ok (.getfield 12, 3) := by decide +kernel
theorem dX0_run_4 : decode cX0_run 4 = .ok (.aload_n 1, 1) := by decide +kernel
theorem dX0_run_5 : decode cX0_run 5 = .ok (.iload_n 2, 1) := by decide +kernel
theorem dX0_run_6 : decode cX0_run 6 = .ok (.iload_n 3, 1) := by decide +kernel
theorem dX0_run_7 : decode cX0_run 7 = .ok (.invokevirtual 34, 3) := by decide +kernel
theorem dX0_run_10 : decode cX0_run 10 = .ok (.aload_n 0, 1) := by decide +kernel
theorem dX0_run_11 : decode cX0_run 11 = .ok (.getfield 21, 3) := by decide +kernel
theorem dX0_run_14 : decode cX0_run 14 = .ok (.aload_n 1, 1) := by decide +kernel
theorem dX0_run_15 : decode cX0_run 15 = .ok (.aload_n 0, 1) := by decide +kernel
theorem dX0_run_16 : decode cX0_run 16 = .ok (.getfield 12, 3) := by decide +kernel
theorem dX0_run_19 : decode cX0_run 19 = .ok (.invokevirtual 38, 3) := by decide +kernel
theorem dX0_run_22 : decode cX0_run 22 = .ok (.aload_n 0, 1) := by decide +kernel
theorem dX0_run_23 : decode cX0_run 23 = .ok (.getfield 21, 3) := by decide +kernel
theorem dX0_run_26 : decode cX0_run 26 = .ok (.aload_n 1, 1) := by decide +kernel
theorem dX0_run_27 : decode cX0_run 27 = .ok (.aload_n 0, 1) := by decide +kernel
theorem dX0_run_28 : decode cX0_run 28 = .ok (.getfield 12, 3) := by decide +kernel
theorem dX0_run_31 : decode cX0_run 31 = .ok (.invokevirtual 42, 3) := by decide +kernel
theorem dX0_run_34 : decode cX0_run 34 = .ok (.aload_n 0, 1) := by decide +kernel
theorem dX0_run_35 : decode cX0_run 35 = .ok (.getfield 21, 3) := by decide +kernel
theorem dX0_run_38 : decode cX0_run 38 = .ok (.aload_n 0, 1) := by decide +kernel
theorem dX0_run_39 : decode cX0_run 39 = .ok (.getfield 12, 3) := by decide +kernel
theorem dX0_run_42 : decode cX0_run 42 = .ok (.invokevirtual 45, 3) := by decide +kernel
theorem dX0_run_45 : decode cX0_run 45 = .ok (.aload_n 0, 1) := by decide +kernel
theorem dX0_run_46 : decode cX0_run 46 = .ok (.getfield 21, 3) := by decide +kernel
theorem dX0_run_49 : decode cX0_run 49 = .ok (.aload_n 1, 1) := by decide +kernel
theorem dX0_run_50 : decode cX0_run 50 = .ok (.aload_n 0, 1) := by decide +kernel
theorem dX0_run_51 : decode cX0_run 51 = .ok (.getfield 12, 3) := by decide +kernel
theorem dX0_run_54 : decode cX0_run 54 = .ok (.invokevirtual 49, 3) := by decide +kernel
theorem dX0_run_57 : decode cX0_run 57 = .ok (.aload_n 0, 1) := by decide +kernel
theorem dX0_run_58 : decode cX0_run 58 = .ok (.getfield 30, 3) := by decide +kernel
theorem dX0_run_61 : decode cX0_run 61 = .ok (.aload_n 1, 1) := by decide +kernel
theorem dX0_run_62 : decode cX0_run 62 = .ok (.aload_n 0, 1) := by decide +kernel
theorem dX0_run_63 : decode cX0_run 63 = .ok (.getfield 12, 3) := by decide +kernel
theorem dX0_run_66 : decode cX0_run 66 = .ok (.aload_n 0, 1) := by decide +kernel
theorem dX0_run_67 : decode cX0_run 67 = .ok (.getfield 21, 3) := by decide +kernel
theorem dX0_run_70 : decode cX0_run 70 = .ok (.invokevirtual 52, 3) := by decide +kernel
theorem dX0_run_73 : decode cX0_run 73 = .ok (.return_, 1) := by decide +kernel
theorem dX0_countLoans_0 : decode cX0_countLoans 0 = .ok (.iconst 0, 1) := by decide +kernel
theorem dX0_countLoans_1 : decode cX0_countLoans 1 = .ok (.istore_n 2, 1) := by decide +kernel
theorem dX0_countLoans_2 : decode cX0_countLoans 2 = .ok (.iconst 0, 1) := by decide +kernel
theorem dX0_countLoans_3 : decode cX0_countLoans 3 = .ok (.istore_n 3, 1) := by decide +kernel
theorem dX0_countLoans_4 : decode cX0_countLoans 4 = .ok (.iload_n 3, 1) := by decide +kernel
theorem dX0_countLoans_5 : decode cX0_countLoans 5 = .ok (.aload_n 1, 1) := by decide +kernel
theorem dX0_countLoans_6 : decode cX0_countLoans 6 = .ok (.getfield 56, 3) := by decide +kernel
theorem dX0_countLoans_9 : decode cX0_countLoans 9 = .ok (.if_icmp .ge 36, 3) := by decide +kernel
theorem dX0_countLoans_45 : decode cX0_countLoans 45 = .ok (.iload_n 2, 1) := by decide +kernel
theorem dX0_countLoans_46 : decode cX0_countLoans 46 = .ok (.ireturn, 1) := by decide +kernel
theorem dX0_sizeOfRegion_0 : decode cX0_sizeOfRegion 0 = .ok (.aload_n 1, 1) := by decide +kernel
theorem dX0_sizeOfRegion_1 : decode cX0_sizeOfRegion 1 = .ok (.iload_n 2, 1) := by decide +kernel
theorem dX0_sizeOfRegion_2 : decode cX0_sizeOfRegion 2 = .ok (.invokevirtual 62, 3) := by decide +kernel
theorem dX0_sizeOfRegion_5 : decode cX0_sizeOfRegion 5 = .ok (.ifCond .eq 14, 3) := by decide +kernel
theorem dX0_sizeOfRegion_19 : decode cX0_sizeOfRegion 19 = .ok (.iconst (-1), 1) := by decide +kernel
theorem dX0_sizeOfRegion_20 : decode cX0_sizeOfRegion 20 = .ok (.ireturn, 1) := by decide +kernel
theorem dX1_init_0 : decode cX1_init 0 = .ok (.aload_n 0, 1) := by decide +kernel
theorem dX1_init_1 : decode cX1_init 1 = .ok (.invokespecial 3, 3) := by decide +kernel
theorem dX1_init_4 : decode cX1_init 4 = .ok (.aload_n 0, 1) := by decide +kernel
theorem dX1_init_5 : decode cX1_init 5 = .ok (.iload_n 1, 1) := by decide +kernel
theorem dX1_init_6 : decode cX1_init 6 = .ok (.newarray .int, 2) := by decide +kernel
theorem dX1_init_8 : decode cX1_init 8 = .ok (.putfield 9, 3) := by decide +kernel
theorem dX1_init_11 : decode cX1_init 11 = .ok (.aload_n 0, 1) := by decide +kernel
theorem dX1_init_12 : decode cX1_init 12 = .ok (.iload_n 1, 1) := by decide +kernel
theorem dX1_init_13 : decode cX1_init 13 = .ok (.newarray .int, 2) := by decide +kernel
theorem dX1_init_15 : decode cX1_init 15 = .ok (.putfield 15, 3) := by decide +kernel
theorem dX1_init_18 : decode cX1_init 18 = .ok (.aload_n 0, 1) := by decide +kernel
theorem dX1_init_19 : decode cX1_init 19 = .ok (.iload_n 1, 1) := by decide +kernel
theorem dX1_init_20 : decode cX1_init 20 = .ok (.newarray .int, 2) := by decide +kernel
theorem dX1_init_22 : decode cX1_init 22 = .ok (.putfield 18, 3) := by decide +kernel
theorem dX1_init_25 : decode cX1_init 25 = .ok (.return_, 1) := by decide +kernel
theorem dX1_noteAll_0 : decode cX1_noteAll 0 = .ok (.aload_n 0, 1) := by decide +kernel
theorem dX1_noteAll_1 : decode cX1_noteAll 1 = .ok (.iconst 0, 1) := by decide +kernel
theorem dX1_noteAll_2 : decode cX1_noteAll 2 = .ok (.putfield 21, 3) := by decide +kernel
theorem dX1_noteAll_5 : decode cX1_noteAll 5 = .ok (.iconst 0, 1) := by decide +kernel
theorem dX1_noteAll_6 : decode cX1_noteAll 6 = .ok (.istore 4, 2) := by decide +kernel
theorem dX1_noteAll_8 : decode cX1_noteAll 8 = .ok (.iload 4, 2) := by decide +kernel
theorem dX1_noteAll_10 : decode cX1_noteAll 10 = .ok (.aload_n 2, 1) := by decide +kernel
theorem dX1_noteAll_11 : decode cX1_noteAll 11 = .ok (.getfield 25, 3) := by decide +kernel
theorem dX1_noteAll_14 : decode cX1_noteAll 14 = .ok (.if_icmp .ge 95, 3) := by decide +kernel
theorem dX1_noteAll_109 : decode cX1_noteAll 109 = .ok (.return_, 1) := by decide +kernel
theorem dX1_rowCount_0 : decode cX1_rowCount 0 = .ok (.aload_n 0, 1) := by decide +kernel
theorem dX1_rowCount_1 : decode cX1_rowCount 1 = .ok (.getfield 21, 3) := by decide +kernel
theorem dX1_rowCount_4 : decode cX1_rowCount 4 = .ok (.aload_n 0, 1) := by decide +kernel
theorem dX1_rowCount_5 : decode cX1_rowCount 5 = .ok (.getfield 9, 3) := by decide +kernel
theorem dX1_rowCount_8 : decode cX1_rowCount 8 = .ok (.arraylength, 1) := by decide +kernel
theorem dX1_rowCount_9 : decode cX1_rowCount 9 = .ok (.invokestatic 104, 3) := by decide +kernel
theorem dX1_rowCount_12 : decode cX1_rowCount 12 = .ok (.ireturn, 1) := by decide +kernel
theorem dX1_countOf_0 : decode cX1_countOf 0 = .ok (.iconst 0, 1) := by decide +kernel
theorem dX1_countOf_1 : decode cX1_countOf 1 = .ok (.istore_n 2, 1) := by decide +kernel
theorem dX1_countOf_2 : decode cX1_countOf 2 = .ok (.iconst 0, 1) := by decide +kernel
theorem dX1_countOf_3 : decode cX1_countOf 3 = .ok (.istore_n 3, 1) := by decide +kernel
theorem dX1_countOf_4 : decode cX1_countOf 4 = .ok (.iload_n 3, 1) := by decide +kernel
theorem dX1_countOf_5 : decode cX1_countOf 5 = .ok (.aload_n 0, 1) := by decide +kernel
theorem dX1_countOf_6 : decode cX1_countOf 6 = .ok (.invokevirtual 110, 3) := by decide +kernel
theorem dX1_countOf_9 : decode cX1_countOf 9 = .ok (.if_icmp .ge 27, 3) := by decide +kernel
theorem dX1_countOf_36 : decode cX1_countOf 36 = .ok (.iload_n 2, 1) := by decide +kernel
theorem dX1_countOf_37 : decode cX1_countOf 37 = .ok (.ireturn, 1) := by decide +kernel
theorem dX2_init_0 : decode cX2_init 0 = .ok (.aload_n 0, 1) := by decide +kernel
theorem dX2_init_1 : decode cX2_init 1 = .ok (.invokespecial 3, 3) := by decide +kernel
theorem dX2_init_4 : decode cX2_init 4 = .ok (.aload_n 0, 1) := by decide +kernel
theorem dX2_init_5 : decode cX2_init 5 = .ok (.bipush 40, 2) := by decide +kernel
theorem dX2_init_7 : decode cX2_init 7 = .ok (.newarray .int, 2) := by decide +kernel
theorem dX2_init_9 : decode cX2_init 9 = .ok (.putfield 9, 3) := by decide +kernel
theorem dX2_init_12 : decode cX2_init 12 = .ok (.aload_n 0, 1) := by decide +kernel
theorem dX2_init_13 : decode cX2_init 13 = .ok (.bipush 40, 2) := by decide +kernel
theorem dX2_init_15 : decode cX2_init 15 = .ok (.newarray .int, 2) := by decide +kernel
theorem dX2_init_17 : decode cX2_init 17 = .ok (.putfield 15, 3) := by decide +kernel
theorem dX2_init_20 : decode cX2_init 20 = .ok (.aload_n 0, 1) := by decide +kernel
theorem dX2_init_21 : decode cX2_init 21 = .ok (.bipush 40, 2) := by decide +kernel
theorem dX2_init_23 : decode cX2_init 23 = .ok (.newarray .int, 2) := by decide +kernel
theorem dX2_init_25 : decode cX2_init 25 = .ok (.putfield 18, 3) := by decide +kernel
theorem dX2_init_28 : decode cX2_init 28 = .ok (.aload_n 0, 1) := by decide +kernel
theorem dX2_init_29 : decode cX2_init 29 = .ok (.bipush 40, 2) := by decide +kernel
theorem dX2_init_31 : decode cX2_init 31 = .ok (.newarray .int, 2) := by decide +kernel
theorem dX2_init_33 : decode cX2_init 33 = .ok (.putfield 21, 3) := by decide +kernel
theorem dX2_init_36 : decode cX2_init 36 = .ok (.aload_n 0, 1) := by decide +kernel
theorem dX2_init_37 : decode cX2_init 37 = .ok (.bipush 40, 2) := by decide +kernel
theorem dX2_init_39 : decode cX2_init 39 = .ok (.newarray .long, 2) := by decide +kernel
theorem dX2_init_41 : decode cX2_init 41 = .ok (.putfield 24, 3) := by decide +kernel
theorem dX2_init_44 : decode cX2_init 44 = .ok (.aload_n 0, 1) := by decide +kernel
theorem dX2_init_45 : decode cX2_init 45 = .ok (.bipush 40, 2) := by decide +kernel
theorem dX2_init_47 : decode cX2_init 47 = .ok (.newarray .long, 2) := by decide +kernel
theorem dX2_init_49 : decode cX2_init 49 = .ok (.putfield 28, 3) := by decide +kernel
theorem dX2_init_52 : decode cX2_init 52 = .ok (.aload_n 0, 1) := by decide +kernel
theorem dX2_init_53 : decode cX2_init 53 = .ok (.bipush 40, 2) := by decide +kernel
theorem dX2_init_55 : decode cX2_init 55 = .ok (.newarray .long, 2) := by decide +kernel
theorem dX2_init_57 : decode cX2_init 57 = .ok (.putfield 31, 3) := by decide +kernel
theorem dX2_init_60 : decode cX2_init 60 = .ok (.aload_n 0, 1) := by decide +kernel
theorem dX2_init_61 : decode cX2_init 61 = .ok (.bipush 40, 2) := by decide +kernel
theorem dX2_init_63 : decode cX2_init 63 = .ok (.newarray .long, 2) := by decide +kernel
theorem dX2_init_65 : decode cX2_init 65 = .ok (.putfield 34, 3) := by decide +kernel
theorem dX2_init_68 : decode cX2_init 68 = .ok (.return_, 1) := by decide +kernel
theorem dX2_prepare_0 : decode cX2_prepare 0 = .ok (.aload_n 0, 1) := by decide +kernel
theorem dX2_prepare_1 : decode cX2_prepare 1 = .ok (.aload_n 1, 1) := by decide +kernel
theorem dX2_prepare_2 : decode cX2_prepare 2 = .ok (.getfield 37, 3) := by decide +kernel
theorem dX2_prepare_5 : decode cX2_prepare 5 = .ok (.putfield 43, 3) := by decide +kernel
theorem dX2_prepare_8 : decode cX2_prepare 8 = .ok (.aload_n 0, 1) := by decide +kernel
theorem dX2_prepare_9 : decode cX2_prepare 9 = .ok (.iload_n 2, 1) := by decide +kernel
theorem dX2_prepare_10 : decode cX2_prepare 10 = .ok (.putfield 46, 3) := by decide +kernel
theorem dX2_prepare_13 : decode cX2_prepare 13 = .ok (.aload_n 0, 1) := by decide +kernel
theorem dX2_prepare_14 : decode cX2_prepare 14 = .ok (.iload_n 3, 1) := by decide +kernel
theorem dX2_prepare_15 : decode cX2_prepare 15 = .ok (.putfield 49, 3) := by decide +kernel
theorem dX2_prepare_18 : decode cX2_prepare 18 = .ok (.iconst 0, 1) := by decide +kernel
theorem dX2_prepare_19 : decode cX2_prepare 19 = .ok (.istore 4, 2) := by decide +kernel
theorem dX2_prepare_21 : decode cX2_prepare 21 = .ok (.iload 4, 2) := by decide +kernel
theorem dX2_prepare_23 : decode cX2_prepare 23 = .ok (.aload_n 0, 1) := by decide +kernel
theorem dX2_prepare_24 : decode cX2_prepare 24 = .ok (.getfield 43, 3) := by decide +kernel
theorem dX2_prepare_27 : decode cX2_prepare 27 = .ok (.if_icmp .ge 23, 3) := by decide +kernel
theorem dX2_prepare_50 : decode cX2_prepare 50 = .ok (.return_, 1) := by decide +kernel
theorem dX3_init_0 : decode cX3_init 0 = .ok (.aload_n 0, 1) := by decide +kernel
theorem dX3_init_1 : decode cX3_init 1 = .ok (.invokespecial 3, 3) := by decide +kernel
theorem dX3_init_4 : decode cX3_init 4 = .ok (.aload_n 0, 1) := by decide +kernel
theorem dX3_init_5 : decode cX3_init 5 = .ok (.bipush 12, 2) := by decide +kernel
theorem dX3_init_7 : decode cX3_init 7 = .ok (.newarray .int, 2) := by decide +kernel
theorem dX3_init_9 : decode cX3_init 9 = .ok (.putfield 9, 3) := by decide +kernel
theorem dX3_init_12 : decode cX3_init 12 = .ok (.aload_n 0, 1) := by decide +kernel
theorem dX3_init_13 : decode cX3_init 13 = .ok (.bipush 40, 2) := by decide +kernel
theorem dX3_init_15 : decode cX3_init 15 = .ok (.newarray .int, 2) := by decide +kernel
theorem dX3_init_17 : decode cX3_init 17 = .ok (.putfield 15, 3) := by decide +kernel
theorem dX3_init_20 : decode cX3_init 20 = .ok (.aload_n 0, 1) := by decide +kernel
theorem dX3_init_21 : decode cX3_init 21 = .ok (.bipush 40, 2) := by decide +kernel
theorem dX3_init_23 : decode cX3_init 23 = .ok (.newarray .int, 2) := by decide +kernel
theorem dX3_init_25 : decode cX3_init 25 = .ok (.putfield 18, 3) := by decide +kernel
theorem dX3_init_28 : decode cX3_init 28 = .ok (.aload_n 0, 1) := by decide +kernel
theorem dX3_init_29 : decode cX3_init 29 = .ok (.bipush 40, 2) := by decide +kernel
theorem dX3_init_31 : decode cX3_init 31 = .ok (.newarray .int, 2) := by decide +kernel
theorem dX3_init_33 : decode cX3_init 33 = .ok (.putfield 21, 3) := by decide +kernel
theorem dX3_init_36 : decode cX3_init 36 = .ok (.aload_n 0, 1) := by decide +kernel
theorem dX3_init_37 : decode cX3_init 37 = .ok (.bipush 40, 2) := by decide +kernel
theorem dX3_init_39 : decode cX3_init 39 = .ok (.newarray .int, 2) := by decide +kernel
theorem dX3_init_41 : decode cX3_init 41 = .ok (.putfield 24, 3) := by decide +kernel
theorem dX3_init_44 : decode cX3_init 44 = .ok (.aload_n 0, 1) := by decide +kernel
theorem dX3_init_45 : decode cX3_init 45 = .ok (.bipush 40, 2) := by decide +kernel
theorem dX3_init_47 : decode cX3_init 47 = .ok (.newarray .int, 2) := by decide +kernel
theorem dX3_init_49 : decode cX3_init 49 = .ok (.putfield 27, 3) := by decide +kernel
theorem dX3_init_52 : decode cX3_init 52 = .ok (.aload_n 0, 1) := by decide +kernel
theorem dX3_init_53 : decode cX3_init 53 = .ok (.bipush 120, 2) := by decide +kernel
theorem dX3_init_55 : decode cX3_init 55 = .ok (.newarray .int, 2) := by decide +kernel
theorem dX3_init_57 : decode cX3_init 57 = .ok (.putfield 30, 3) := by decide +kernel
theorem dX3_init_60 : decode cX3_init 60 = .ok (.aload_n 0, 1) := by decide +kernel
theorem dX3_init_61 : decode cX3_init 61 = .ok (.bipush 120, 2) := by decide +kernel
theorem dX3_init_63 : decode cX3_init 63 = .ok (.newarray .int, 2) := by decide +kernel
theorem dX3_init_65 : decode cX3_init 65 = .ok (.putfield 33, 3) := by decide +kernel
theorem dX3_init_68 : decode cX3_init 68 = .ok (.aload_n 0, 1) := by decide +kernel
theorem dX3_init_69 : decode cX3_init 69 = .ok (.bipush 120, 2) := by decide +kernel
theorem dX3_init_71 : decode cX3_init 71 = .ok (.newarray .int, 2) := by decide +kernel
theorem dX3_init_73 : decode cX3_init 73 = .ok (.putfield 36, 3) := by decide +kernel
theorem dX3_init_76 : decode cX3_init 76 = .ok (.return_, 1) := by decide +kernel
theorem dX3_addVariable_0 : decode cX3_addVariable 0 = .ok (.aload_n 0, 1) := by decide +kernel
theorem dX3_addVariable_1 : decode cX3_addVariable 1 = .ok (.getfield 39, 3) := by decide +kernel
theorem dX3_addVariable_4 : decode cX3_addVariable 4 = .ok (.istore_n 3, 1) := by decide +kernel
theorem dX3_addVariable_5 : decode cX3_addVariable 5 = .ok (.aload_n 0, 1) := by decide +kernel
theorem dX3_addVariable_6 : decode cX3_addVariable 6 = .ok (.getfield 9, 3) := by decide +kernel
theorem dX3_addVariable_9 : decode cX3_addVariable 9 = .ok (.iload_n 3, 1) := by decide +kernel
theorem dX3_addVariable_10 : decode cX3_addVariable 10 = .ok (.iload_n 1, 1) := by decide +kernel
theorem dX3_addVariable_11 : decode cX3_addVariable 11 = .ok (.iastore, 1) := by decide +kernel
theorem dX3_addVariable_12 : decode cX3_addVariable 12 = .ok (.aload_n 0, 1) := by decide +kernel
theorem dX3_addVariable_13 : decode cX3_addVariable 13 = .ok (.dup, 1) := by decide +kernel
theorem dX3_addVariable_14 : decode cX3_addVariable 14 = .ok (.getfield 39, 3) := by decide +kernel
theorem dX3_addVariable_17 : decode cX3_addVariable 17 = .ok (.iconst 1, 1) := by decide +kernel
theorem dX3_addVariable_18 : decode cX3_addVariable 18 = .ok (.iadd, 1) := by decide +kernel
theorem dX3_addVariable_19 : decode cX3_addVariable 19 = .ok (.putfield 39, 3) := by decide +kernel
theorem dX3_addVariable_22 : decode cX3_addVariable 22 = .ok (.aload_n 0, 1) := by decide +kernel
theorem dX3_addVariable_23 : decode cX3_addVariable 23 = .ok (.iload_n 3, 1) := by decide +kernel
theorem dX3_addVariable_24 : decode cX3_addVariable 24 = .ok (.iconst (-1), 1) := by decide +kernel
theorem dX3_addVariable_25 : decode cX3_addVariable 25 = .ok (.invokevirtual 43, 3) := by decide +kernel
theorem dX3_addVariable_28 : decode cX3_addVariable 28 = .ok (.lstore 4, 2) := by decide +kernel
theorem dX3_addVariable_30 : decode cX3_addVariable 30 = .ok (.iload_n 2, 1) := by decide +kernel
theorem dX3_addVariable_31 : decode cX3_addVariable 31 = .ok (.ifCond .eq 17, 3) := by decide +kernel
theorem dX3_addVariable_34 : decode cX3_addVariable 34 = .ok (.aload_n 0, 1) := by decide +kernel
theorem dX3_addVariable_35 : decode cX3_addVariable 35 = .ok (.dup, 1) := by decide +kernel
theorem dX3_addVariable_36 : decode cX3_addVariable 36 = .ok (.getfield 47, 3) := by decide +kernel
theorem dX3_addVariable_39 : decode cX3_addVariable 39 = .ok (.lload 4, 2) := by decide +kernel
theorem dX3_addVariable_41 : decode cX3_addVariable 41 = .ok (.lor, 1) := by decide +kernel
theorem dX3_addVariable_42 : decode cX3_addVariable 42 = .ok (.putfield 47, 3) := by decide +kernel
theorem dX3_addVariable_45 : decode cX3_addVariable 45 = .ok (.goto 14, 3) := by decide +kernel
theorem dX3_addVariable_48 : decode cX3_addVariable 48 = .ok (.aload_n 0, 1) := by decide +kernel
theorem dX3_addVariable_49 : decode cX3_addVariable 49 = .ok (.dup, 1) := by decide +kernel
theorem dX3_addVariable_50 : decode cX3_addVariable 50 = .ok (.getfield 51, 3) := by decide +kernel
theorem dX3_addVariable_53 : decode cX3_addVariable 53 = .ok (.lload 4, 2) := by decide +kernel
theorem dX3_addVariable_55 : decode cX3_addVariable 55 = .ok (.lor, 1) := by decide +kernel
theorem dX3_addVariable_56 : decode cX3_addVariable 56 = .ok (.putfield 51, 3) := by decide +kernel
theorem dX3_addVariable_59 : decode cX3_addVariable 59 = .ok (.iload_n 3, 1) := by decide +kernel
theorem dX3_addVariable_60 : decode cX3_addVariable 60 = .ok (.ireturn, 1) := by decide +kernel
theorem dX3_addStatement_0 : decode cX3_addStatement 0 = .ok (.aload_n 0, 1) := by decide +kernel
theorem dX3_addStatement_1 : decode cX3_addStatement 1 = .ok (.getfield 54, 3) := by decide +kernel
theorem dX3_addStatement_4 : decode cX3_addStatement 4 = .ok (.istore_n 2, 1) := by decide +kernel
theorem dX3_addStatement_5 : decode cX3_addStatement 5 = .ok (.aload_n 0, 1) := by decide +kernel
theorem dX3_addStatement_6 : decode cX3_addStatement 6 = .ok (.getfield 15, 3) := by decide +kernel
theorem dX3_addStatement_9 : decode cX3_addStatement 9 = .ok (.iload_n 2, 1) := by decide +kernel
theorem dX3_addStatement_10 : decode cX3_addStatement 10 = .ok (.iload_n 1, 1) := by decide +kernel
theorem dX3_addStatement_11 : decode cX3_addStatement 11 = .ok (.iastore, 1) := by decide +kernel
theorem dX3_addStatement_12 : decode cX3_addStatement 12 = .ok (.aload_n 0, 1) := by decide +kernel
theorem dX3_addStatement_13 : decode cX3_addStatement 13 = .ok (.getfield 18, 3) := by decide +kernel
theorem dX3_addStatement_16 : decode cX3_addStatement 16 = .ok (.iload_n 2, 1) := by decide +kernel
theorem dX3_addStatement_17 : decode cX3_addStatement 17 = .ok (.iconst (-1), 1) := by decide +kernel
theorem dX3_addStatement_18 : decode cX3_addStatement 18 = .ok (.iastore, 1) := by decide +kernel
theorem dX3_addStatement_19 : decode cX3_addStatement 19 = .ok (.aload_n 0, 1) := by decide +kernel
theorem dX3_addStatement_20 : decode cX3_addStatement 20 = .ok (.getfield 21, 3) := by decide +kernel
theorem dX3_addStatement_23 : decode cX3_addStatement 23 = .ok (.iload_n 2, 1) := by decide +kernel
theorem dX3_addStatement_24 : decode cX3_addStatement 24 = .ok (.iconst (-1), 1) := by decide +kernel
theorem dX3_addStatement_25 : decode cX3_addStatement 25 = .ok (.iastore, 1) := by decide +kernel
theorem dX3_addStatement_26 : decode cX3_addStatement 26 = .ok (.aload_n 0, 1) := by decide +kernel
theorem dX3_addStatement_27 : decode cX3_addStatement 27 = .ok (.getfield 24, 3) := by decide +kernel
theorem dX3_addStatement_30 : decode cX3_addStatement 30 = .ok (.iload_n 2, 1) := by decide +kernel
theorem dX3_addStatement_31 : decode cX3_addStatement 31 = .ok (.iconst 0, 1) := by decide +kernel
theorem dX3_addStatement_32 : decode cX3_addStatement 32 = .ok (.iastore, 1) := by decide +kernel
theorem dX3_addStatement_33 : decode cX3_addStatement 33 = .ok (.aload_n 0, 1) := by decide +kernel
theorem dX3_addStatement_34 : decode cX3_addStatement 34 = .ok (.getfield 27, 3) := by decide +kernel
theorem dX3_addStatement_37 : decode cX3_addStatement 37 = .ok (.iload_n 2, 1) := by decide +kernel
theorem dX3_addStatement_38 : decode cX3_addStatement 38 = .ok (.iconst 0, 1) := by decide +kernel
theorem dX3_addStatement_39 : decode cX3_addStatement 39 = .ok (.iastore, 1) := by decide +kernel
theorem dX3_addStatement_40 : decode cX3_addStatement 40 = .ok (.aload_n 0, 1) := by decide +kernel
theorem dX3_addStatement_41 : decode cX3_addStatement 41 = .ok (.dup, 1) := by decide +kernel
theorem dX3_addStatement_42 : decode cX3_addStatement 42 = .ok (.getfield 54, 3) := by decide +kernel
theorem dX3_addStatement_45 : decode cX3_addStatement 45 = .ok (.iconst 1, 1) := by decide +kernel
theorem dX3_addStatement_46 : decode cX3_addStatement 46 = .ok (.iadd, 1) := by decide +kernel
theorem dX3_addStatement_47 : decode cX3_addStatement 47 = .ok (.putfield 54, 3) := by decide +kernel
theorem dX3_addStatement_50 : decode cX3_addStatement 50 = .ok (.iload_n 2, 1) := by decide +kernel
theorem dX3_addStatement_51 : decode cX3_addStatement 51 = .ok (.ireturn, 1) := by decide +kernel
theorem dX3_isMadeLoan_0 : decode cX3_isMadeLoan 0 = .ok (.iload_n 1, 1) := by decide +kernel
theorem dX3_isMadeLoan_1 : decode cX3_isMadeLoan 1 = .ok (.ifCond .lt 35, 3) := by decide +kernel
theorem dX3_isMadeLoan_4 : decode cX3_isMadeLoan 4 = .ok (.iload_n 1, 1) := by decide +kernel
theorem dX3_isMadeLoan_5 : decode cX3_isMadeLoan 5 = .ok (.aload_n 0, 1) := by decide +kernel
theorem dX3_isMadeLoan_6 : decode cX3_isMadeLoan 6 = .ok (.getfield 54, 3) := by decide +kernel
theorem dX3_isMadeLoan_9 : decode cX3_isMadeLoan 9 = .ok (.if_icmp .ge 27, 3) := by decide +kernel
theorem dX3_isMadeLoan_36 : decode cX3_isMadeLoan 36 = .ok (.iconst 0, 1) := by decide +kernel
theorem dX3_isMadeLoan_37 : decode cX3_isMadeLoan 37 = .ok (.ireturn, 1) := by decide +kernel
theorem dX3_cellsOf_0 : decode cX3_cellsOf 0 = .ok (.iconst 3, 1) := by decide +kernel
theorem dX3_cellsOf_1 : decode cX3_cellsOf 1 = .ok (.iload_n 1, 1) := by decide +kernel
theorem dX3_cellsOf_2 : decode cX3_cellsOf 2 = .ok (.imul, 1) := by decide +kernel
theorem dX3_cellsOf_3 : decode cX3_cellsOf 3 = .ok (.istore_n 3, 1) := by decide +kernel
theorem dX3_cellsOf_4 : decode cX3_cellsOf 4 = .ok (.aload_n 0, 1) := by decide +kernel
theorem dX3_cellsOf_5 : decode cX3_cellsOf 5 = .ok (.getfield 9, 3) := by decide +kernel
theorem dX3_cellsOf_8 : decode cX3_cellsOf 8 = .ok (.iload_n 1, 1) := by decide +kernel
theorem dX3_cellsOf_9 : decode cX3_cellsOf 9 = .ok (.iaload, 1) := by decide +kernel
theorem dX3_cellsOf_10 : decode cX3_cellsOf 10 = .ok (.iconst 1, 1) := by decide +kernel
theorem dX3_cellsOf_11 : decode cX3_cellsOf 11 = .ok (.if_icmp .eq 7, 3) := by decide +kernel
theorem dX3_cellsOf_14 : decode cX3_cellsOf 14 = .ok (.lconst 1, 1) := by decide +kernel
theorem dX3_cellsOf_15 : decode cX3_cellsOf 15 = .ok (.iload_n 3, 1) := by decide +kernel
theorem dX3_cellsOf_16 : decode cX3_cellsOf 16 = .ok (.lshl, 1) := by decide +kernel
theorem dX3_cellsOf_17 : decode cX3_cellsOf 17 = .ok (.lreturn, 1) := by decide +kernel
theorem dX3_cellsOf_18 : decode cX3_cellsOf 18 = .ok (.iload_n 2, 1) := by decide +kernel
theorem dX3_cellsOf_19 : decode cX3_cellsOf 19 = .ok (.iconst (-1), 1) := by decide +kernel
theorem dX3_cellsOf_20 : decode cX3_cellsOf 20 = .ok (.if_icmp .ne 11, 3) := by decide +kernel
theorem dX3_cellsOf_23 : decode cX3_cellsOf 23 = .ok (.ldc2_w 61, 3) := by decide +kernel
theorem dX3_cellsOf_26 : decode cX3_cellsOf 26 = .ok (.iload_n 3, 1) := by decide +kernel
theorem dX3_cellsOf_27 : decode cX3_cellsOf 27 = .ok (.lshl, 1) := by decide +kernel
theorem dX3_cellsOf_28 : decode cX3_cellsOf 28 = .ok (.goto 8, 3) := by decide +kernel
theorem dX3_cellsOf_36 : decode cX3_cellsOf 36 = .ok (.lreturn, 1) := by decide +kernel
theorem dX4_init_0 : decode cX4_init 0 = .ok (.aload_n 0, 1) := by decide +kernel
theorem dX4_init_1 : decode cX4_init 1 = .ok (.invokespecial 3, 3) := by decide +kernel
theorem dX4_init_4 : decode cX4_init 4 = .ok (.aload_n 0, 1) := by decide +kernel
theorem dX4_init_5 : decode cX4_init 5 = .ok (.bipush 40, 2) := by decide +kernel
theorem dX4_init_7 : decode cX4_init 7 = .ok (.newarray .long, 2) := by decide +kernel
theorem dX4_init_9 : decode cX4_init 9 = .ok (.putfield 9, 3) := by decide +kernel
theorem dX4_init_12 : decode cX4_init 12 = .ok (.aload_n 0, 1) := by decide +kernel
theorem dX4_init_13 : decode cX4_init 13 = .ok (.bipush 40, 2) := by decide +kernel
theorem dX4_init_15 : decode cX4_init 15 = .ok (.newarray .long, 2) := by decide +kernel
theorem dX4_init_17 : decode cX4_init 17 = .ok (.putfield 15, 3) := by decide +kernel
theorem dX4_init_20 : decode cX4_init 20 = .ok (.aload_n 0, 1) := by decide +kernel
theorem dX4_init_21 : decode cX4_init 21 = .ok (.bipush 40, 2) := by decide +kernel
theorem dX4_init_23 : decode cX4_init 23 = .ok (.newarray .long, 2) := by decide +kernel
theorem dX4_init_25 : decode cX4_init 25 = .ok (.putfield 18, 3) := by decide +kernel
theorem dX4_init_28 : decode cX4_init 28 = .ok (.aload_n 0, 1) := by decide +kernel
theorem dX4_init_29 : decode cX4_init 29 = .ok (.sipush 480, 3) := by decide +kernel
theorem dX4_init_32 : decode cX4_init 32 = .ok (.newarray .long, 2) := by decide +kernel
theorem dX4_init_34 : decode cX4_init 34 = .ok (.putfield 21, 3) := by decide +kernel
theorem dX4_init_37 : decode cX4_init 37 = .ok (.aload_n 0, 1) := by decide +kernel
theorem dX4_init_38 : decode cX4_init 38 = .ok (.bipush 40, 2) := by decide +kernel
theorem dX4_init_40 : decode cX4_init 40 = .ok (.newarray .int, 2) := by decide +kernel
theorem dX4_init_42 : decode cX4_init 42 = .ok (.putfield 24, 3) := by decide +kernel
theorem dX4_init_45 : decode cX4_init 45 = .ok (.aload_n 0, 1) := by decide +kernel
theorem dX4_init_46 : decode cX4_init 46 = .ok (.bipush 40, 2) := by decide +kernel
theorem dX4_init_48 : decode cX4_init 48 = .ok (.newarray .long, 2) := by decide +kernel
theorem dX4_init_50 : decode cX4_init 50 = .ok (.putfield 28, 3) := by decide +kernel
theorem dX4_init_53 : decode cX4_init 53 = .ok (.aload_n 0, 1) := by decide +kernel
theorem dX4_init_54 : decode cX4_init 54 = .ok (.bipush 12, 2) := by decide +kernel
theorem dX4_init_56 : decode cX4_init 56 = .ok (.newarray .long, 2) := by decide +kernel
theorem dX4_init_58 : decode cX4_init 58 = .ok (.putfield 31, 3) := by decide +kernel
theorem dX4_init_61 : decode cX4_init 61 = .ok (.aload_n 0, 1) := by decide +kernel
theorem dX4_init_62 : decode cX4_init 62 = .ok (.bipush 40, 2) := by decide +kernel
theorem dX4_init_64 : decode cX4_init 64 = .ok (.newarray .long, 2) := by decide +kernel
theorem dX4_init_66 : decode cX4_init 66 = .ok (.putfield 34, 3) := by decide +kernel
theorem dX4_init_69 : decode cX4_init 69 = .ok (.return_, 1) := by decide +kernel
theorem dX4_begin_0 : decode cX4_begin 0 = .ok (.iconst 0, 1) := by decide +kernel
theorem dX4_begin_1 : decode cX4_begin 1 = .ok (.istore_n 3, 1) := by decide +kernel
theorem dX4_begin_2 : decode cX4_begin 2 = .ok (.iload_n 3, 1) := by decide +kernel
theorem dX4_begin_3 : decode cX4_begin 3 = .ok (.aload_n 2, 1) := by decide +kernel
theorem dX4_begin_4 : decode cX4_begin 4 = .ok (.getfield 37, 3) := by decide +kernel
theorem dX4_begin_7 : decode cX4_begin 7 = .ok (.if_icmp .ge 75, 3) := by decide +kernel
theorem dX4_begin_82 : decode cX4_begin 82 = .ok (.aload_n 0, 1) := by decide +kernel
theorem dX4_begin_83 : decode cX4_begin 83 = .ok (.lconst 0, 1) := by decide +kernel
theorem dX4_begin_84 : decode cX4_begin 84 = .ok (.putfield 48, 3) := by decide +kernel
theorem dX4_begin_87 : decode cX4_begin 87 = .ok (.aload_n 2, 1) := by decide +kernel
theorem dX4_begin_88 : decode cX4_begin 88 = .ok (.getfield 37, 3) := by decide +kernel
theorem dX4_begin_91 : decode cX4_begin 91 = .ok (.ifCond .le 28, 3) := by decide +kernel
theorem dX4_begin_119 : decode cX4_begin 119 = .ok (.return_, 1) := by decide +kernel
theorem dX4_findAhead_0 : decode cX4_findAhead 0 = .ok (.iconst 1, 1) := by decide +kernel
theorem dX4_findAhead_1 : decode cX4_findAhead 1 = .ok (.istore_n 3, 1) := by decide +kernel
theorem dX4_findAhead_2 : decode cX4_findAhead 2 = .ok (.iconst 0, 1) := by decide +kernel
theorem dX4_findAhead_3 : decode cX4_findAhead 3 = .ok (.istore 4, 2) := by decide +kernel
theorem dX4_findAhead_5 : decode cX4_findAhead 5 = .ok (.iload 4, 2) := by decide +kernel
theorem dX4_findAhead_7 : decode cX4_findAhead 7 = .ok (.ldc 62, 2) := by decide +kernel
theorem dX4_findAhead_9 : decode cX4_findAhead 9 = .ok (.if_icmp .ge 55, 3) := by decide +kernel
theorem dX4_findAhead_12 : decode cX4_findAhead 12 = .ok (.iload_n 3, 1) := by decide +kernel
theorem dX4_findAhead_13 : decode cX4_findAhead 13 = .ok (.ifCond .eq 51, 3) := by decide +kernel
theorem dX4_findAhead_16 : decode cX4_findAhead 16 = .ok (.iconst 0, 1) := by decide +kernel
theorem dX4_findAhead_17 : decode cX4_findAhead 17 = .ok (.istore_n 3, 1) := by decide +kernel
theorem dX4_findAhead_18 : decode cX4_findAhead 18 = .ok (.iconst 0, 1) := by decide +kernel
theorem dX4_findAhead_19 : decode cX4_findAhead 19 = .ok (.istore 5, 2) := by decide +kernel
theorem dX4_findAhead_21 : decode cX4_findAhead 21 = .ok (.iload 5, 2) := by decide +kernel
theorem dX4_findAhead_23 : decode cX4_findAhead 23 = .ok (.aload_n 2, 1) := by decide +kernel
theorem dX4_findAhead_24 : decode cX4_findAhead 24 = .ok (.getfield 37, 3) := by decide +kernel
theorem dX4_findAhead_27 : decode cX4_findAhead 27 = .ok (.if_icmp .ge 31, 3) := by decide +kernel
theorem dX4_findAhead_58 : decode cX4_findAhead 58 = .ok (.iinc 4 1, 3) := by decide +kernel
theorem dX4_findAhead_61 : decode cX4_findAhead 61 = .ok (.goto (-56), 3) := by decide +kernel
theorem dX4_findAhead_64 : decode cX4_findAhead 64 = .ok (.return_, 1) := by decide +kernel
theorem dX4_findAwaited_0 : decode cX4_findAwaited 0 = .ok (.iconst 1, 1) := by decide +kernel
theorem dX4_findAwaited_1 : decode cX4_findAwaited 1 = .ok (.istore_n 2, 1) := by decide +kernel
theorem dX4_findAwaited_2 : decode cX4_findAwaited 2 = .ok (.iconst 0, 1) := by decide +kernel
theorem dX4_findAwaited_3 : decode cX4_findAwaited 3 = .ok (.istore_n 3, 1) := by decide +kernel
theorem dX4_findAwaited_4 : decode cX4_findAwaited 4 = .ok (.iload_n 3, 1) := by decide +kernel
theorem dX4_findAwaited_5 : decode cX4_findAwaited 5 = .ok (.ldc 62, 2) := by decide +kernel
theorem dX4_findAwaited_7 : decode cX4_findAwaited 7 = .ok (.if_icmp .ge 55, 3) := by decide +kernel
theorem dX4_findAwaited_10 : decode cX4_findAwaited 10 = .ok (.iload_n 2, 1) := by decide +kernel
theorem dX4_findAwaited_11 : decode cX4_findAwaited 11 = .ok (.ifCond .eq 51, 3) := by decide +kernel
theorem dX4_findAwaited_14 : decode cX4_findAwaited 14 = .ok (.iconst 0, 1) := by decide +kernel
theorem dX4_findAwaited_15 : decode cX4_findAwaited 15 = .ok (.istore_n 2, 1) := by decide +kernel
theorem dX4_findAwaited_16 : decode cX4_findAwaited 16 = .ok (.aload_n 1, 1) := by decide +kernel
theorem dX4_findAwaited_17 : decode cX4_findAwaited 17 = .ok (.getfield 37, 3) := by decide +kernel
theorem dX4_findAwaited_20 : decode cX4_findAwaited 20 = .ok (.iconst 1, 1) := by decide +kernel
theorem dX4_findAwaited_21 : decode cX4_findAwaited 21 = .ok (.isub, 1) := by decide +kernel
theorem dX4_findAwaited_22 : decode cX4_findAwaited 22 = .ok (.istore 4, 2) := by decide +kernel
theorem dX4_findAwaited_24 : decode cX4_findAwaited 24 = .ok (.iload 4, 2) := by decide +kernel
theorem dX4_findAwaited_26 : decode cX4_findAwaited 26 = .ok (.ifCond .lt 30, 3) := by decide +kernel
theorem dX4_findAwaited_56 : decode cX4_findAwaited 56 = .ok (.iinc 3 1, 3) := by decide +kernel
theorem dX4_findAwaited_59 : decode cX4_findAwaited 59 = .ok (.goto (-55), 3) := by decide +kernel
theorem dX4_findAwaited_62 : decode cX4_findAwaited 62 = .ok (.return_, 1) := by decide +kernel
theorem dX4_findLiving_0 : decode cX4_findLiving 0 = .ok (.iconst 0, 1) := by decide +kernel
theorem dX4_findLiving_1 : decode cX4_findLiving 1 = .ok (.istore_n 3, 1) := by decide +kernel
theorem dX4_findLiving_2 : decode cX4_findLiving 2 = .ok (.iload_n 3, 1) := by decide +kernel
theorem dX4_findLiving_3 : decode cX4_findLiving 3 = .ok (.aload_n 2, 1) := by decide +kernel
theorem dX4_findLiving_4 : decode cX4_findLiving 4 = .ok (.getfield 37, 3) := by decide +kernel
theorem dX4_findLiving_7 : decode cX4_findLiving 7 = .ok (.if_icmp .ge 58, 3) := by decide +kernel
theorem dX4_findLiving_65 : decode cX4_findLiving 65 = .ok (.return_, 1) := by decide +kernel
theorem dX5_init_0 : decode cX5_init 0 = .ok (.aload_n 0, 1) := by decide +kernel
theorem dX5_init_1 : decode cX5_init 1 = .ok (.invokespecial 3, 3) := by decide +kernel
theorem dX5_init_4 : decode cX5_init 4 = .ok (.aload_n 0, 1) := by decide +kernel
theorem dX5_init_5 : decode cX5_init 5 = .ok (.new 9, 3) := by decide +kernel
theorem dX5_init_8 : decode cX5_init 8 = .ok (.dup, 1) := by decide +kernel
theorem dX5_init_9 : decode cX5_init 9 = .ok (.invokespecial 11, 3) := by decide +kernel
theorem dX5_init_12 : decode cX5_init 12 = .ok (.putfield 12, 3) := by decide +kernel
theorem dX5_init_15 : decode cX5_init 15 = .ok (.aload_n 0, 1) := by decide +kernel
theorem dX5_init_16 : decode cX5_init 16 = .ok (.new 16, 3) := by decide +kernel
theorem dX5_init_19 : decode cX5_init 19 = .ok (.dup, 1) := by decide +kernel
theorem dX5_init_20 : decode cX5_init 20 = .ok (.sipush 280, 3) := by decide +kernel
theorem dX5_init_23 : decode cX5_init 23 = .ok (.invokespecial 18, 3) := by decide +kernel
theorem dX5_init_26 : decode cX5_init 26 = .ok (.putfield 21, 3) := by decide +kernel
theorem dX5_init_29 : decode cX5_init 29 = .ok (.aload_n 0, 1) := by decide +kernel
theorem dX5_init_30 : decode cX5_init 30 = .ok (.new 16, 3) := by decide +kernel
theorem dX5_init_33 : decode cX5_init 33 = .ok (.dup, 1) := by decide +kernel
theorem dX5_init_34 : decode cX5_init 34 = .ok (.iconst 0, 1) := by decide +kernel
theorem dX5_init_35 : decode cX5_init 35 = .ok (.invokespecial 18, 3) := by decide +kernel
theorem dX5_init_38 : decode cX5_init 38 = .ok (.putfield 25, 3) := by decide +kernel
theorem dX5_init_41 : decode cX5_init 41 = .ok (.aload_n 0, 1) := by decide +kernel
theorem dX5_init_42 : decode cX5_init 42 = .ok (.iconst 0, 1) := by decide +kernel
theorem dX5_init_43 : decode cX5_init 43 = .ok (.putfield 28, 3) := by decide +kernel
theorem dX5_init_46 : decode cX5_init 46 = .ok (.return_, 1) := by decide +kernel
theorem dX5_variable_0 : decode cX5_variable 0 = .ok (.iload_n 1, 1) := by decide +kernel
theorem dX5_variable_1 : decode cX5_variable 1 = .ok (.ifCond .lt 8, 3) := by decide +kernel
theorem dX5_variable_4 : decode cX5_variable 4 = .ok (.iload_n 1, 1) := by decide +kernel
theorem dX5_variable_5 : decode cX5_variable 5 = .ok (.iconst 3, 1) := by decide +kernel
theorem dX5_variable_6 : decode cX5_variable 6 = .ok (.if_icmp .le 13, 3) := by decide +kernel
theorem dX5_variable_9 : decode cX5_variable 9 = .ok (.new 32, 3) := by decide +kernel
theorem dX5_variable_12 : decode cX5_variable 12 = .ok (.dup, 1) := by decide +kernel
theorem dX5_variable_13 : decode cX5_variable 13 = .ok (.ldc 34, 2) := by decide +kernel
theorem dX5_variable_15 : decode cX5_variable 15 = .ok (.invokespecial 36, 3) := by decide +kernel
theorem dX5_variable_18 : decode cX5_variable 18 = .ok (.athrow, 1) := by decide +kernel
theorem dX5_variable_19 : decode cX5_variable 19 = .ok (.aload_n 0, 1) := by decide +kernel
theorem dX5_variable_20 : decode cX5_variable 20 = .ok (.getfield 12, 3) := by decide +kernel
theorem dX5_variable_23 : decode cX5_variable 23 = .ok (.getfield 39, 3) := by decide +kernel
theorem dX5_variable_26 : decode cX5_variable 26 = .ok (.bipush 12, 2) := by decide +kernel
theorem dX5_variable_28 : decode cX5_variable 28 = .ok (.if_icmp .lt 13, 3) := by decide +kernel
theorem dX5_variable_41 : decode cX5_variable 41 = .ok (.aload_n 0, 1) := by decide +kernel
theorem dX5_variable_42 : decode cX5_variable 42 = .ok (.iconst 0, 1) := by decide +kernel
theorem dX5_variable_43 : decode cX5_variable 43 = .ok (.putfield 28, 3) := by decide +kernel
theorem dX5_variable_46 : decode cX5_variable 46 = .ok (.aload_n 0, 1) := by decide +kernel
theorem dX5_variable_47 : decode cX5_variable 47 = .ok (.getfield 12, 3) := by decide +kernel
theorem dX5_variable_50 : decode cX5_variable 50 = .ok (.iload_n 1, 1) := by decide +kernel
theorem dX5_variable_51 : decode cX5_variable 51 = .ok (.iload_n 2, 1) := by decide +kernel
theorem dX5_variable_52 : decode cX5_variable 52 = .ok (.invokevirtual 48, 3) := by decide +kernel
theorem dX5_variable_55 : decode cX5_variable 55 = .ok (.ireturn, 1) := by decide +kernel
theorem dX5_write_0 : decode cX5_write 0 = .ok (.aload_n 0, 1) := by decide +kernel
theorem dX5_write_1 : decode cX5_write 1 = .ok (.iload_n 1, 1) := by decide +kernel
theorem dX5_write_2 : decode cX5_write 2 = .ok (.invokevirtual 52, 3) := by decide +kernel
theorem dX5_move_0 : decode cX5_move 0 = .ok (.aload_n 0, 1) := by decide +kernel
theorem dX5_move_1 : decode cX5_move 1 = .ok (.iload_n 1, 1) := by decide +kernel
theorem dX5_move_2 : decode cX5_move 2 = .ok (.invokevirtual 52, 3) := by decide +kernel
theorem dX5_lend_0 : decode cX5_lend 0 = .ok (.aload_n 0, 1) := by decide +kernel
theorem dX5_lend_1 : decode cX5_lend 1 = .ok (.iload_n 1, 1) := by decide +kernel
theorem dX5_lend_2 : decode cX5_lend 2 = .ok (.invokevirtual 52, 3) := by decide +kernel
theorem dX5_relend_0 : decode cX5_relend 0 = .ok (.aload_n 0, 1) := by decide +kernel
theorem dX5_relend_1 : decode cX5_relend 1 = .ok (.iload_n 1, 1) := by decide +kernel
theorem dX5_relend_2 : decode cX5_relend 2 = .ok (.invokevirtual 52, 3) := by decide +kernel
theorem dX5_read_0 : decode cX5_read 0 = .ok (.aload_n 0, 1) := by decide +kernel
theorem dX5_read_1 : decode cX5_read 1 = .ok (.iload_n 1, 1) := by decide +kernel
theorem dX5_read_2 : decode cX5_read 2 = .ok (.invokevirtual 52, 3) := by decide +kernel
theorem dX5_drop_0 : decode cX5_drop 0 = .ok (.aload_n 0, 1) := by decide +kernel
theorem dX5_drop_1 : decode cX5_drop 1 = .ok (.iload_n 1, 1) := by decide +kernel
theorem dX5_drop_2 : decode cX5_drop 2 = .ok (.invokevirtual 52, 3) := by decide +kernel
theorem dX5_call_0 : decode cX5_call 0 = .ok (.aload_n 0, 1) := by decide +kernel
theorem dX5_call_1 : decode cX5_call 1 = .ok (.iload_n 1, 1) := by decide +kernel
theorem dX5_call_2 : decode cX5_call 2 = .ok (.invokevirtual 52, 3) := by decide +kernel
theorem dX5_branch_0 : decode cX5_branch 0 = .ok (.aload_n 0, 1) := by decide +kernel
theorem dX5_branch_1 : decode cX5_branch 1 = .ok (.iload_n 2, 1) := by decide +kernel
theorem dX5_branch_2 : decode cX5_branch 2 = .ok (.invokevirtual 107, 3) := by decide +kernel
theorem dX5_branch_5 : decode cX5_branch 5 = .ok (.aload_n 0, 1) := by decide +kernel
theorem dX5_branch_6 : decode cX5_branch 6 = .ok (.invokevirtual 69, 3) := by decide +kernel
theorem dX5_branch_9 : decode cX5_branch 9 = .ok (.aload_n 0, 1) := by decide +kernel
theorem dX5_branch_10 : decode cX5_branch 10 = .ok (.iload_n 1, 1) := by decide +kernel
theorem dX5_branch_11 : decode cX5_branch 11 = .ok (.ifCond .eq 8, 3) := by decide +kernel
theorem dX5_branch_14 : decode cX5_branch 14 = .ok (.bipush 8, 2) := by decide +kernel
theorem dX5_branch_16 : decode cX5_branch 16 = .ok (.goto 5, 3) := by decide +kernel
theorem dX5_branch_19 : decode cX5_branch 19 = .ok (.bipush 7, 2) := by decide +kernel
theorem dX5_branch_21 : decode cX5_branch 21 = .ok (.invokevirtual 72, 3) := by decide +kernel
theorem dX5_branch_24 : decode cX5_branch 24 = .ok (.istore_n 3, 1) := by decide +kernel
theorem dX5_branch_25 : decode cX5_branch 25 = .ok (.aload_n 0, 1) := by decide +kernel
theorem dX5_branch_26 : decode cX5_branch 26 = .ok (.getfield 12, 3) := by decide +kernel
theorem dX5_branch_29 : decode cX5_branch 29 = .ok (.getfield 110, 3) := by decide +kernel
theorem dX5_branch_32 : decode cX5_branch 32 = .ok (.iload_n 3, 1) := by decide +kernel
theorem dX5_branch_33 : decode cX5_branch 33 = .ok (.iload_n 2, 1) := by decide +kernel
theorem dX5_branch_34 : decode cX5_branch 34 = .ok (.iastore, 1) := by decide +kernel
theorem dX5_branch_35 : decode cX5_branch 35 = .ok (.iload_n 3, 1) := by decide +kernel
theorem dX5_branch_36 : decode cX5_branch 36 = .ok (.ireturn, 1) := by decide +kernel
theorem dX5_finish_0 : decode cX5_finish 0 = .ok (.aload_n 0, 1) := by decide +kernel
theorem dX5_finish_1 : decode cX5_finish 1 = .ok (.iload_n 1, 1) := by decide +kernel
theorem dX5_finish_2 : decode cX5_finish 2 = .ok (.invokevirtual 100, 3) := by decide +kernel
theorem dX5_finish_5 : decode cX5_finish 5 = .ok (.aload_n 0, 1) := by decide +kernel
theorem dX5_finish_6 : decode cX5_finish 6 = .ok (.invokevirtual 69, 3) := by decide +kernel
theorem dX5_finish_9 : decode cX5_finish 9 = .ok (.aload_n 0, 1) := by decide +kernel
theorem dX5_finish_10 : decode cX5_finish 10 = .ok (.bipush 9, 2) := by decide +kernel
theorem dX5_finish_12 : decode cX5_finish 12 = .ok (.invokevirtual 72, 3) := by decide +kernel
theorem dX5_finish_15 : decode cX5_finish 15 = .ok (.istore_n 2, 1) := by decide +kernel
theorem dX5_finish_16 : decode cX5_finish 16 = .ok (.iload_n 1, 1) := by decide +kernel
theorem dX5_finish_17 : decode cX5_finish 17 = .ok (.iconst (-1), 1) := by decide +kernel
theorem dX5_finish_18 : decode cX5_finish 18 = .ok (.if_icmp .eq 21, 3) := by decide +kernel
theorem dX5_finish_39 : decode cX5_finish 39 = .ok (.iload_n 2, 1) := by decide +kernel
theorem dX5_finish_40 : decode cX5_finish 40 = .ok (.ireturn, 1) := by decide +kernel
theorem dX5_setTarget_0 : decode cX5_setTarget 0 = .ok (.aload_n 0, 1) := by decide +kernel
theorem dX5_setTarget_1 : decode cX5_setTarget 1 = .ok (.iload_n 1, 1) := by decide +kernel
theorem dX5_setTarget_2 : decode cX5_setTarget 2 = .ok (.invokevirtual 113, 3) := by decide +kernel
theorem dX5_undo_0 : decode cX5_undo 0 = .ok (.aload_n 0, 1) := by decide +kernel
theorem dX5_undo_1 : decode cX5_undo 1 = .ok (.getfield 12, 3) := by decide +kernel
theorem dX5_undo_4 : decode cX5_undo 4 = .ok (.getfield 121, 3) := by decide +kernel
theorem dX5_undo_7 : decode cX5_undo 7 = .ok (.ifCond .gt 13, 3) := by decide +kernel
theorem dX5_undo_10 : decode cX5_undo 10 = .ok (.new 43, 3) := by decide +kernel
theorem dX5_undo_13 : decode cX5_undo 13 = .ok (.dup, 1) := by decide +kernel
theorem dX5_undo_14 : decode cX5_undo 14 = .ok (.ldc 124, 2) := by decide +kernel
theorem dX5_undo_16 : decode cX5_undo 16 = .ok (.invokespecial 47, 3) := by decide +kernel
theorem dX5_undo_19 : decode cX5_undo 19 = .ok (.athrow, 1) := by decide +kernel
theorem dX5_variables_0 : decode cX5_variables 0 = .ok (.aload_n 0, 1) := by decide +kernel
theorem dX5_variables_1 : decode cX5_variables 1 = .ok (.getfield 12, 3) := by decide +kernel
theorem dX5_variables_4 : decode cX5_variables 4 = .ok (.getfield 39, 3) := by decide +kernel
theorem dX5_variables_7 : decode cX5_variables 7 = .ok (.ireturn, 1) := by decide +kernel
theorem dX5_statements_0 : decode cX5_statements 0 = .ok (.aload_n 0, 1) := by decide +kernel
theorem dX5_statements_1 : decode cX5_statements 1 = .ok (.getfield 12, 3) := by decide +kernel
theorem dX5_statements_4 : decode cX5_statements 4 = .ok (.getfield 121, 3) := by decide +kernel
theorem dX5_statements_7 : decode cX5_statements 7 = .ok (.ireturn, 1) := by decide +kernel
theorem dX5_codeOf_0 : decode cX5_codeOf 0 = .ok (.aload_n 0, 1) := by decide +kernel
theorem dX5_codeOf_1 : decode cX5_codeOf 1 = .ok (.iload_n 1, 1) := by decide +kernel
theorem dX5_codeOf_2 : decode cX5_codeOf 2 = .ok (.invokevirtual 113, 3) := by decide +kernel
theorem dX5_isReached_0 : decode cX5_isReached 0 = .ok (.aload_n 0, 1) := by decide +kernel
theorem dX5_isReached_1 : decode cX5_isReached 1 = .ok (.iload_n 1, 1) := by decide +kernel
theorem dX5_isReached_2 : decode cX5_isReached 2 = .ok (.invokevirtual 113, 3) := by decide +kernel
theorem dX5_canBe_0 : decode cX5_canBe 0 = .ok (.aload_n 0, 1) := by decide +kernel
theorem dX5_canBe_1 : decode cX5_canBe 1 = .ok (.iload_n 1, 1) := by decide +kernel
theorem dX5_canBe_2 : decode cX5_canBe 2 = .ok (.invokevirtual 113, 3) := by decide +kernel
theorem dX5_holds_0 : decode cX5_holds 0 = .ok (.aload_n 0, 1) := by decide +kernel
theorem dX5_holds_1 : decode cX5_holds 1 = .ok (.iload_n 1, 1) := by decide +kernel
theorem dX5_holds_2 : decode cX5_holds 2 = .ok (.invokevirtual 113, 3) := by decide +kernel
theorem dX5_canHold_0 : decode cX5_canHold 0 = .ok (.aload_n 0, 1) := by decide +kernel
theorem dX5_canHold_1 : decode cX5_canHold 1 = .ok (.iload_n 1, 1) := by decide +kernel
theorem dX5_canHold_2 : decode cX5_canHold 2 = .ok (.invokevirtual 113, 3) := by decide +kernel
theorem dX5_awaited_0 : decode cX5_awaited 0 = .ok (.aload_n 0, 1) := by decide +kernel
theorem dX5_awaited_1 : decode cX5_awaited 1 = .ok (.iload_n 1, 1) := by decide +kernel
theorem dX5_awaited_2 : decode cX5_awaited 2 = .ok (.invokevirtual 113, 3) := by decide +kernel
theorem dX5_loans_0 : decode cX5_loans 0 = .ok (.aload_n 0, 1) := by decide +kernel
theorem dX5_loans_1 : decode cX5_loans 1 = .ok (.invokevirtual 129, 3) := by decide +kernel
theorem dX5_loans_4 : decode cX5_loans 4 = .ok (.aload_n 0, 1) := by decide +kernel
theorem dX5_loans_5 : decode cX5_loans 5 = .ok (.getfield 12, 3) := by decide +kernel
theorem dX5_loans_8 : decode cX5_loans 8 = .ok (.invokevirtual 171, 3) := by decide +kernel
theorem dX5_loans_11 : decode cX5_loans 11 = .ok (.ireturn, 1) := by decide +kernel
theorem dX5_isLive_0 : decode cX5_isLive 0 = .ok (.aload_n 0, 1) := by decide +kernel
theorem dX5_isLive_1 : decode cX5_isLive 1 = .ok (.iload_n 2, 1) := by decide +kernel
theorem dX5_isLive_2 : decode cX5_isLive 2 = .ok (.invokevirtual 113, 3) := by decide +kernel
theorem dX5_region_0 : decode cX5_region 0 = .ok (.aload_n 0, 1) := by decide +kernel
theorem dX5_region_1 : decode cX5_region 1 = .ok (.invokevirtual 129, 3) := by decide +kernel
theorem dX5_region_4 : decode cX5_region 4 = .ok (.aload_n 0, 1) := by decide +kernel
theorem dX5_region_5 : decode cX5_region 5 = .ok (.getfield 12, 3) := by decide +kernel
theorem dX5_region_8 : decode cX5_region 8 = .ok (.iload_n 1, 1) := by decide +kernel
theorem dX5_region_9 : decode cX5_region 9 = .ok (.invokevirtual 179, 3) := by decide +kernel
theorem dX5_region_12 : decode cX5_region 12 = .ok (.ireturn, 1) := by decide +kernel
theorem dX5_faults_0 : decode cX5_faults 0 = .ok (.aload_n 0, 1) := by decide +kernel
theorem dX5_faults_1 : decode cX5_faults 1 = .ok (.invokevirtual 129, 3) := by decide +kernel
theorem dX5_faults_4 : decode cX5_faults 4 = .ok (.getfield 183, 3) := by decide +kernel
theorem dX5_faults_7 : decode cX5_faults 7 = .ok (.getfield 187, 3) := by decide +kernel
theorem dX5_faults_10 : decode cX5_faults 10 = .ok (.ireturn, 1) := by decide +kernel
theorem dX5_ofFault_0 : decode cX5_ofFault 0 = .ok (.aload_n 0, 1) := by decide +kernel
theorem dX5_ofFault_1 : decode cX5_ofFault 1 = .ok (.invokevirtual 129, 3) := by decide +kernel
theorem dX5_ofFault_4 : decode cX5_ofFault 4 = .ok (.astore_n 3, 1) := by decide +kernel
theorem dX5_ofFault_5 : decode cX5_ofFault 5 = .ok (.iload_n 1, 1) := by decide +kernel
theorem dX5_ofFault_6 : decode cX5_ofFault 6 = .ok (.ifCond .lt 14, 3) := by decide +kernel
theorem dX5_ofFault_9 : decode cX5_ofFault 9 = .ok (.iload_n 1, 1) := by decide +kernel
theorem dX5_ofFault_10 : decode cX5_ofFault 10 = .ok (.aload_n 3, 1) := by decide +kernel
theorem dX5_ofFault_11 : decode cX5_ofFault 11 = .ok (.getfield 183, 3) := by decide +kernel
theorem dX5_ofFault_14 : decode cX5_ofFault 14 = .ok (.getfield 187, 3) := by decide +kernel
theorem dX5_ofFault_17 : decode cX5_ofFault 17 = .ok (.if_icmp .lt 13, 3) := by decide +kernel
theorem dX5_ofFault_20 : decode cX5_ofFault 20 = .ok (.new 192, 3) := by decide +kernel
theorem dX5_ofFault_23 : decode cX5_ofFault 23 = .ok (.dup, 1) := by decide +kernel
theorem dX5_ofFault_24 : decode cX5_ofFault 24 = .ok (.ldc 194, 2) := by decide +kernel
theorem dX5_ofFault_26 : decode cX5_ofFault 26 = .ok (.invokespecial 196, 3) := by decide +kernel
theorem dX5_ofFault_29 : decode cX5_ofFault 29 = .ok (.athrow, 1) := by decide +kernel
theorem dX5_faultsAt_0 : decode cX5_faultsAt 0 = .ok (.aload_n 0, 1) := by decide +kernel
theorem dX5_faultsAt_1 : decode cX5_faultsAt 1 = .ok (.iload_n 1, 1) := by decide +kernel
theorem dX5_faultsAt_2 : decode cX5_faultsAt 2 = .ok (.invokevirtual 113, 3) := by decide +kernel
theorem dX5_faultsOf_0 : decode cX5_faultsOf 0 = .ok (.iload_n 1, 1) := by decide +kernel
theorem dX5_faultsOf_1 : decode cX5_faultsOf 1 = .ok (.iconst 1, 1) := by decide +kernel
theorem dX5_faultsOf_2 : decode cX5_faultsOf 2 = .ok (.if_icmp .lt 9, 3) := by decide +kernel
theorem dX5_faultsOf_5 : decode cX5_faultsOf 5 = .ok (.iload_n 1, 1) := by decide +kernel
theorem dX5_faultsOf_6 : decode cX5_faultsOf 6 = .ok (.bipush 6, 2) := by decide +kernel
theorem dX5_faultsOf_8 : decode cX5_faultsOf 8 = .ok (.if_icmp .le 13, 3) := by decide +kernel
theorem dX5_faultsOf_11 : decode cX5_faultsOf 11 = .ok (.new 32, 3) := by decide +kernel
theorem dX5_faultsOf_14 : decode cX5_faultsOf 14 = .ok (.dup, 1) := by decide +kernel
theorem dX5_faultsOf_15 : decode cX5_faultsOf 15 = .ok (.ldc 206, 2) := by decide +kernel
theorem dX5_faultsOf_17 : decode cX5_faultsOf 17 = .ok (.invokespecial 36, 3) := by decide +kernel
theorem dX5_faultsOf_20 : decode cX5_faultsOf 20 = .ok (.athrow, 1) := by decide +kernel
theorem dX5_faultsOf_21 : decode cX5_faultsOf 21 = .ok (.aload_n 0, 1) := by decide +kernel
theorem dX5_faultsOf_22 : decode cX5_faultsOf 22 = .ok (.invokevirtual 129, 3) := by decide +kernel
theorem dX5_faultsOf_25 : decode cX5_faultsOf 25 = .ok (.getfield 183, 3) := by decide +kernel
theorem dX5_faultsOf_28 : decode cX5_faultsOf 28 = .ok (.iload_n 1, 1) := by decide +kernel
theorem dX5_faultsOf_29 : decode cX5_faultsOf 29 = .ok (.invokevirtual 208, 3) := by decide +kernel
theorem dX5_faultsOf_32 : decode cX5_faultsOf 32 = .ok (.ireturn, 1) := by decide +kernel
theorem dX5_without_0 : decode cX5_without 0 = .ok (.aload_n 0, 1) := by decide +kernel
theorem dX5_without_1 : decode cX5_without 1 = .ok (.iload_n 1, 1) := by decide +kernel
theorem dX5_without_2 : decode cX5_without 2 = .ok (.invokevirtual 113, 3) := by decide +kernel
theorem dX5_copied_0 : decode cX5_copied 0 = .ok (.aload_n 0, 1) := by decide +kernel
theorem dX5_copied_1 : decode cX5_copied 1 = .ok (.iload_n 1, 1) := by decide +kernel
theorem dX5_copied_2 : decode cX5_copied 2 = .ok (.invokevirtual 113, 3) := by decide +kernel
theorem dX5_culprit_0 : decode cX5_culprit 0 = .ok (.aload_n 0, 1) := by decide +kernel
theorem dX5_culprit_1 : decode cX5_culprit 1 = .ok (.invokevirtual 129, 3) := by decide +kernel
theorem dX5_culprit_4 : decode cX5_culprit 4 = .ok (.getfield 183, 3) := by decide +kernel
theorem dX5_culprit_7 : decode cX5_culprit 7 = .ok (.getfield 187, 3) := by decide +kernel
theorem dX5_culprit_10 : decode cX5_culprit 10 = .ok (.istore_n 1, 1) := by decide +kernel
theorem dX5_culprit_11 : decode cX5_culprit 11 = .ok (.iconst (-1), 1) := by decide +kernel
theorem dX5_culprit_12 : decode cX5_culprit 12 = .ok (.istore_n 2, 1) := by decide +kernel
theorem dX5_culprit_13 : decode cX5_culprit 13 = .ok (.iconst 0, 1) := by decide +kernel
theorem dX5_culprit_14 : decode cX5_culprit 14 = .ok (.istore_n 3, 1) := by decide +kernel
theorem dX5_culprit_15 : decode cX5_culprit 15 = .ok (.iload_n 3, 1) := by decide +kernel
theorem dX5_culprit_16 : decode cX5_culprit 16 = .ok (.aload_n 0, 1) := by decide +kernel
theorem dX5_culprit_17 : decode cX5_culprit 17 = .ok (.getfield 12, 3) := by decide +kernel
theorem dX5_culprit_20 : decode cX5_culprit 20 = .ok (.getfield 121, 3) := by decide +kernel
theorem dX5_culprit_23 : decode cX5_culprit 23 = .ok (.if_icmp .ge 28, 3) := by decide +kernel
theorem dX5_culprit_51 : decode cX5_culprit 51 = .ok (.iload_n 2, 1) := by decide +kernel
theorem dX5_culprit_52 : decode cX5_culprit 52 = .ok (.ireturn, 1) := by decide +kernel
theorem dX5_density_0 : decode cX5_density 0 = .ok (.aload_n 0, 1) := by decide +kernel
theorem dX5_density_1 : decode cX5_density 1 = .ok (.invokevirtual 129, 3) := by decide +kernel
theorem dX5_density_4 : decode cX5_density 4 = .ok (.astore_n 1, 1) := by decide +kernel
theorem dX5_density_5 : decode cX5_density 5 = .ok (.aload_n 1, 1) := by decide +kernel
theorem dX5_density_6 : decode cX5_density 6 = .ok (.getfield 133, 3) := by decide +kernel
theorem dX5_density_9 : decode cX5_density 9 = .ok (.getfield 215, 3) := by decide +kernel
theorem dX5_density_12 : decode cX5_density 12 = .ok (.invokestatic 155, 3) := by decide +kernel
theorem dX5_density_15 : decode cX5_density 15 = .ok (.istore_n 2, 1) := by decide +kernel
theorem dX5_density_16 : decode cX5_density 16 = .ok (.iload_n 2, 1) := by decide +kernel
theorem dX5_density_17 : decode cX5_density 17 = .ok (.ifCond .le 17, 3) := by decide +kernel
theorem dX5_density_34 : decode cX5_density 34 = .ok (.dconst 0, 1) := by decide +kernel
theorem dX5_density_35 : decode cX5_density 35 = .ok (.dreturn, 1) := by decide +kernel
theorem dX5_digest_0 : decode cX5_digest 0 = .ok (.aload_n 0, 1) := by decide +kernel
theorem dX5_digest_1 : decode cX5_digest 1 = .ok (.invokevirtual 129, 3) := by decide +kernel
theorem dX5_digest_4 : decode cX5_digest 4 = .ok (.astore_n 1, 1) := by decide +kernel
theorem dX5_digest_5 : decode cX5_digest 5 = .ok (.ldc2_w 219, 3) := by decide +kernel
theorem dX5_digest_8 : decode cX5_digest 8 = .ok (.lstore_n 2, 1) := by decide +kernel
theorem dX5_digest_9 : decode cX5_digest 9 = .ok (.lload_n 2, 1) := by decide +kernel
theorem dX5_digest_10 : decode cX5_digest 10 = .ok (.ldc2_w 221, 3) := by decide +kernel
theorem dX5_digest_13 : decode cX5_digest 13 = .ok (.lmul, 1) := by decide +kernel
theorem dX5_digest_14 : decode cX5_digest 14 = .ok (.aload_n 0, 1) := by decide +kernel
theorem dX5_digest_15 : decode cX5_digest 15 = .ok (.getfield 12, 3) := by decide +kernel
theorem dX5_digest_18 : decode cX5_digest 18 = .ok (.getfield 39, 3) := by decide +kernel
theorem dX5_digest_21 : decode cX5_digest 21 = .ok (.i2l, 1) := by decide +kernel
theorem dX5_digest_22 : decode cX5_digest 22 = .ok (.ladd, 1) := by decide +kernel
theorem dX5_digest_23 : decode cX5_digest 23 = .ok (.lstore_n 2, 1) := by decide +kernel
theorem dX5_digest_24 : decode cX5_digest 24 = .ok (.lload_n 2, 1) := by decide +kernel
theorem dX5_digest_25 : decode cX5_digest 25 = .ok (.ldc2_w 221, 3) := by decide +kernel
theorem dX5_digest_28 : decode cX5_digest 28 = .ok (.lmul, 1) := by decide +kernel
theorem dX5_digest_29 : decode cX5_digest 29 = .ok (.aload_n 0, 1) := by decide +kernel
theorem dX5_digest_30 : decode cX5_digest 30 = .ok (.getfield 12, 3) := by decide +kernel
theorem dX5_digest_33 : decode cX5_digest 33 = .ok (.getfield 121, 3) := by decide +kernel
theorem dX5_digest_36 : decode cX5_digest 36 = .ok (.i2l, 1) := by decide +kernel
theorem dX5_digest_37 : decode cX5_digest 37 = .ok (.ladd, 1) := by decide +kernel
theorem dX5_digest_38 : decode cX5_digest 38 = .ok (.lstore_n 2, 1) := by decide +kernel
theorem dX5_digest_39 : decode cX5_digest 39 = .ok (.lload_n 2, 1) := by decide +kernel
theorem dX5_digest_40 : decode cX5_digest 40 = .ok (.ldc2_w 221, 3) := by decide +kernel
theorem dX5_digest_43 : decode cX5_digest 43 = .ok (.lmul, 1) := by decide +kernel
theorem dX5_digest_44 : decode cX5_digest 44 = .ok (.aload_n 1, 1) := by decide +kernel
theorem dX5_digest_45 : decode cX5_digest 45 = .ok (.aload_n 0, 1) := by decide +kernel
theorem dX5_digest_46 : decode cX5_digest 46 = .ok (.getfield 12, 3) := by decide +kernel
theorem dX5_digest_49 : decode cX5_digest 49 = .ok (.invokevirtual 171, 3) := by decide +kernel
theorem dX5_digest_52 : decode cX5_digest 52 = .ok (.i2l, 1) := by decide +kernel
theorem dX5_digest_53 : decode cX5_digest 53 = .ok (.ladd, 1) := by decide +kernel
theorem dX5_digest_54 : decode cX5_digest 54 = .ok (.lstore_n 2, 1) := by decide +kernel
theorem dX5_digest_55 : decode cX5_digest 55 = .ok (.lload_n 2, 1) := by decide +kernel
theorem dX5_digest_56 : decode cX5_digest 56 = .ok (.ldc2_w 221, 3) := by decide +kernel
theorem dX5_digest_59 : decode cX5_digest 59 = .ok (.lmul, 1) := by decide +kernel
theorem dX5_digest_60 : decode cX5_digest 60 = .ok (.aload_n 1, 1) := by decide +kernel
theorem dX5_digest_61 : decode cX5_digest 61 = .ok (.getfield 183, 3) := by decide +kernel
theorem dX5_digest_64 : decode cX5_digest 64 = .ok (.getfield 187, 3) := by decide +kernel
theorem dX5_digest_67 : decode cX5_digest 67 = .ok (.i2l, 1) := by decide +kernel
theorem dX5_digest_68 : decode cX5_digest 68 = .ok (.ladd, 1) := by decide +kernel
theorem dX5_digest_69 : decode cX5_digest 69 = .ok (.lstore_n 2, 1) := by decide +kernel
theorem dX5_digest_70 : decode cX5_digest 70 = .ok (.iconst 0, 1) := by decide +kernel
theorem dX5_digest_71 : decode cX5_digest 71 = .ok (.istore 4, 2) := by decide +kernel
theorem dX5_digest_73 : decode cX5_digest 73 = .ok (.iload 4, 2) := by decide +kernel
theorem dX5_digest_75 : decode cX5_digest 75 = .ok (.aload_n 0, 1) := by decide +kernel
theorem dX5_digest_76 : decode cX5_digest 76 = .ok (.getfield 12, 3) := by decide +kernel
theorem dX5_digest_79 : decode cX5_digest 79 = .ok (.getfield 121, 3) := by decide +kernel
theorem dX5_digest_82 : decode cX5_digest 82 = .ok (.if_icmp .ge 18, 3) := by decide +kernel
theorem dX5_digest_100 : decode cX5_digest 100 = .ok (.iconst 0, 1) := by decide +kernel
theorem dX5_digest_101 : decode cX5_digest 101 = .ok (.istore 4, 2) := by decide +kernel
theorem dX5_digest_103 : decode cX5_digest 103 = .ok (.iload 4, 2) := by decide +kernel
theorem dX5_digest_105 : decode cX5_digest 105 = .ok (.aload_n 1, 1) := by decide +kernel
theorem dX5_digest_106 : decode cX5_digest 106 = .ok (.getfield 183, 3) := by decide +kernel
theorem dX5_digest_109 : decode cX5_digest 109 = .ok (.getfield 187, 3) := by decide +kernel
theorem dX5_digest_112 : decode cX5_digest 112 = .ok (.if_icmp .ge 45, 3) := by decide +kernel
theorem dX5_digest_157 : decode cX5_digest 157 = .ok (.iconst 1, 1) := by decide +kernel
theorem dX5_digest_158 : decode cX5_digest 158 = .ok (.istore 4, 2) := by decide +kernel
theorem dX5_digest_160 : decode cX5_digest 160 = .ok (.iload 4, 2) := by decide +kernel
theorem dX5_digest_162 : decode cX5_digest 162 = .ok (.bipush 6, 2) := by decide +kernel
theorem dX5_digest_164 : decode cX5_digest 164 = .ok (.if_icmp .gt 26, 3) := by decide +kernel
theorem dX5_digest_167 : decode cX5_digest 167 = .ok (.lload_n 2, 1) := by decide +kernel
theorem dX5_digest_168 : decode cX5_digest 168 = .ok (.ldc2_w 221, 3) := by decide +kernel
theorem dX5_digest_171 : decode cX5_digest 171 = .ok (.lmul, 1) := by decide +kernel
theorem dX5_digest_172 : decode cX5_digest 172 = .ok (.aload_n 1, 1) := by decide +kernel
theorem dX5_digest_173 : decode cX5_digest 173 = .ok (.getfield 183, 3) := by decide +kernel
theorem dX5_digest_176 : decode cX5_digest 176 = .ok (.iload 4, 2) := by decide +kernel
theorem dX5_digest_178 : decode cX5_digest 178 = .ok (.invokevirtual 208, 3) := by decide +kernel
theorem dX5_digest_181 : decode cX5_digest 181 = .ok (.i2l, 1) := by decide +kernel
theorem dX5_digest_182 : decode cX5_digest 182 = .ok (.ladd, 1) := by decide +kernel
theorem dX5_digest_183 : decode cX5_digest 183 = .ok (.lstore_n 2, 1) := by decide +kernel
theorem dX5_digest_184 : decode cX5_digest 184 = .ok (.iinc 4 1, 3) := by decide +kernel
theorem dX5_digest_187 : decode cX5_digest 187 = .ok (.goto (-27), 3) := by decide +kernel
theorem dX5_digest_190 : decode cX5_digest 190 = .ok (.lload_n 2, 1) := by decide +kernel
theorem dX5_digest_191 : decode cX5_digest 191 = .ok (.lreturn, 1) := by decide +kernel
theorem dX5_begin_0 : decode cX5_begin 0 = .ok (.aload_n 0, 1) := by decide +kernel
theorem dX5_begin_1 : decode cX5_begin 1 = .ok (.iconst 0, 1) := by decide +kernel
theorem dX5_begin_2 : decode cX5_begin 2 = .ok (.putfield 28, 3) := by decide +kernel
theorem dX5_begin_5 : decode cX5_begin 5 = .ok (.aload_n 0, 1) := by decide +kernel
theorem dX5_begin_6 : decode cX5_begin 6 = .ok (.getfield 12, 3) := by decide +kernel
theorem dX5_begin_9 : decode cX5_begin 9 = .ok (.iload_n 1, 1) := by decide +kernel
theorem dX5_begin_10 : decode cX5_begin 10 = .ok (.invokevirtual 227, 3) := by decide +kernel
theorem dX5_begin_13 : decode cX5_begin 13 = .ok (.ireturn, 1) := by decide +kernel
theorem dX5_checked_0 : decode cX5_checked 0 = .ok (.aload_n 0, 1) := by decide +kernel
theorem dX5_checked_1 : decode cX5_checked 1 = .ok (.getfield 28, 3) := by decide +kernel
theorem dX5_checked_4 : decode cX5_checked 4 = .ok (.ifCond .ne 21, 3) := by decide +kernel
theorem dX5_checked_7 : decode cX5_checked 7 = .ok (.aload_n 0, 1) := by decide +kernel
theorem dX5_checked_8 : decode cX5_checked 8 = .ok (.getfield 21, 3) := by decide +kernel
theorem dX5_checked_11 : decode cX5_checked 11 = .ok (.aload_n 0, 1) := by decide +kernel
theorem dX5_checked_12 : decode cX5_checked 12 = .ok (.getfield 12, 3) := by decide +kernel
theorem dX5_checked_15 : decode cX5_checked 15 = .ok (.iconst (-1), 1) := by decide +kernel
theorem dX5_checked_16 : decode cX5_checked 16 = .ok (.iconst (-1), 1) := by decide +kernel
theorem dX5_checked_17 : decode cX5_checked 17 = .ok (.invokevirtual 229, 3) := by decide +kernel
theorem dX5_checked_20 : decode cX5_checked 20 = .ok (.aload_n 0, 1) := by decide +kernel
theorem dX5_checked_21 : decode cX5_checked 21 = .ok (.iconst 1, 1) := by decide +kernel
theorem dX5_checked_22 : decode cX5_checked 22 = .ok (.putfield 28, 3) := by decide +kernel
theorem dX5_checked_25 : decode cX5_checked 25 = .ok (.aload_n 0, 1) := by decide +kernel
theorem dX5_checked_26 : decode cX5_checked 26 = .ok (.getfield 21, 3) := by decide +kernel
theorem dX5_checked_29 : decode cX5_checked 29 = .ok (.areturn, 1) := by decide +kernel
theorem dX5_requireVariable_0 : decode cX5_requireVariable 0 = .ok (.iload_n 1, 1) := by decide +kernel
theorem dX5_requireVariable_1 : decode cX5_requireVariable 1 = .ok (.ifCond .lt 14, 3) := by decide +kernel
theorem dX5_requireVariable_4 : decode cX5_requireVariable 4 = .ok (.iload_n 1, 1) := by decide +kernel
theorem dX5_requireVariable_5 : decode cX5_requireVariable 5 = .ok (.aload_n 0, 1) := by decide +kernel
theorem dX5_requireVariable_6 : decode cX5_requireVariable 6 = .ok (.getfield 12, 3) := by decide +kernel
theorem dX5_requireVariable_9 : decode cX5_requireVariable 9 = .ok (.getfield 39, 3) := by decide +kernel
theorem dX5_requireVariable_12 : decode cX5_requireVariable 12 = .ok (.if_icmp .lt 13, 3) := by decide +kernel
theorem dX5_requireVariable_15 : decode cX5_requireVariable 15 = .ok (.new 192, 3) := by decide +kernel
theorem dX5_requireVariable_18 : decode cX5_requireVariable 18 = .ok (.dup, 1) := by decide +kernel
theorem dX5_requireVariable_19 : decode cX5_requireVariable 19 = .ok (.ldc 233, 2) := by decide +kernel
theorem dX5_requireVariable_21 : decode cX5_requireVariable 21 = .ok (.invokespecial 196, 3) := by decide +kernel
theorem dX5_requireVariable_24 : decode cX5_requireVariable 24 = .ok (.athrow, 1) := by decide +kernel
theorem dX5_requireVariableOrNone_0 : decode cX5_requireVariableOrNone 0 = .ok (.iload_n 1, 1) := by decide +kernel
theorem dX5_requireVariableOrNone_1 : decode cX5_requireVariableOrNone 1 = .ok (.iconst (-1), 1) := by decide +kernel
theorem dX5_requireVariableOrNone_2 : decode cX5_requireVariableOrNone 2 = .ok (.if_icmp .eq 8, 3) := by decide +kernel
theorem dX5_requireVariableOrNone_5 : decode cX5_requireVariableOrNone 5 = .ok (.aload_n 0, 1) := by decide +kernel
theorem dX5_requireVariableOrNone_6 : decode cX5_requireVariableOrNone 6 = .ok (.iload_n 1, 1) := by decide +kernel
theorem dX5_requireVariableOrNone_7 : decode cX5_requireVariableOrNone 7 = .ok (.invokevirtual 52, 3) := by decide +kernel
theorem dX5_requireVariableOrNone_10 : decode cX5_requireVariableOrNone 10 = .ok (.return_, 1) := by decide +kernel
theorem dX5_requireStatement_0 : decode cX5_requireStatement 0 = .ok (.iload_n 1, 1) := by decide +kernel
theorem dX5_requireStatement_1 : decode cX5_requireStatement 1 = .ok (.ifCond .lt 14, 3) := by decide +kernel
theorem dX5_requireStatement_4 : decode cX5_requireStatement 4 = .ok (.iload_n 1, 1) := by decide +kernel
theorem dX5_requireStatement_5 : decode cX5_requireStatement 5 = .ok (.aload_n 0, 1) := by decide +kernel
theorem dX5_requireStatement_6 : decode cX5_requireStatement 6 = .ok (.getfield 12, 3) := by decide +kernel
theorem dX5_requireStatement_9 : decode cX5_requireStatement 9 = .ok (.getfield 121, 3) := by decide +kernel
theorem dX5_requireStatement_12 : decode cX5_requireStatement 12 = .ok (.if_icmp .lt 13, 3) := by decide +kernel
theorem dX5_requireStatement_15 : decode cX5_requireStatement 15 = .ok (.new 192, 3) := by decide +kernel
theorem dX5_requireStatement_18 : decode cX5_requireStatement 18 = .ok (.dup, 1) := by decide +kernel
theorem dX5_requireStatement_19 : decode cX5_requireStatement 19 = .ok (.ldc 235, 2) := by decide +kernel
theorem dX5_requireStatement_21 : decode cX5_requireStatement 21 = .ok (.invokespecial 196, 3) := by decide +kernel
theorem dX5_requireStatement_24 : decode cX5_requireStatement 24 = .ok (.athrow, 1) := by decide +kernel
theorem dX5_requireTarget_0 : decode cX5_requireTarget 0 = .ok (.iload_n 1, 1) := by decide +kernel
theorem dX5_requireTarget_1 : decode cX5_requireTarget 1 = .ok (.ifCond .lt 9, 3) := by decide +kernel
theorem dX5_requireTarget_4 : decode cX5_requireTarget 4 = .ok (.iload_n 1, 1) := by decide +kernel
theorem dX5_requireTarget_5 : decode cX5_requireTarget 5 = .ok (.bipush 40, 2) := by decide +kernel
theorem dX5_requireTarget_7 : decode cX5_requireTarget 7 = .ok (.if_icmp .le 13, 3) := by decide +kernel
theorem dX5_requireTarget_10 : decode cX5_requireTarget 10 = .ok (.new 32, 3) := by decide +kernel
theorem dX5_requireTarget_13 : decode cX5_requireTarget 13 = .ok (.dup, 1) := by decide +kernel
theorem dX5_requireTarget_14 : decode cX5_requireTarget 14 = .ok (.ldc 237, 2) := by decide +kernel
theorem dX5_requireTarget_16 : decode cX5_requireTarget 16 = .ok (.invokespecial 36, 3) := by decide +kernel
theorem dX5_requireTarget_19 : decode cX5_requireTarget 19 = .ok (.athrow, 1) := by decide +kernel
theorem dX5_requireTarget_20 : decode cX5_requireTarget 20 = .ok (.return_, 1) := by decide +kernel
theorem dX5_requireRoom_0 : decode cX5_requireRoom 0 = .ok (.aload_n 0, 1) := by decide +kernel
theorem dX5_requireRoom_1 : decode cX5_requireRoom 1 = .ok (.getfield 12, 3) := by decide +kernel
theorem dX5_requireRoom_4 : decode cX5_requireRoom 4 = .ok (.getfield 121, 3) := by decide +kernel
theorem dX5_requireRoom_7 : decode cX5_requireRoom 7 = .ok (.bipush 40, 2) := by decide +kernel
theorem dX5_requireRoom_9 : decode cX5_requireRoom 9 = .ok (.if_icmp .lt 13, 3) := by decide +kernel
theorem dX5_requireRoom_22 : decode cX5_requireRoom 22 = .ok (.return_, 1) := by decide +kernel
theorem dX7_init_0 : decode cX7_init 0 = .ok (.aload_n 0, 1) := by decide +kernel
theorem dX7_init_1 : decode cX7_init 1 = .ok (.aload_n 1, 1) := by decide +kernel
theorem dX7_init_2 : decode cX7_init 2 = .ok (.putfield 3, 3) := by decide +kernel
theorem dX7_init_5 : decode cX7_init 5 = .ok (.aload_n 0, 1) := by decide +kernel
theorem dX7_init_6 : decode cX7_init 6 = .ok (.invokespecial 9, 3) := by decide +kernel
theorem dX7_init_9 : decode cX7_init 9 = .ok (.aload_n 0, 1) := by decide +kernel
theorem dX7_init_10 : decode cX7_init 10 = .ok (.new 15, 3) := by decide +kernel
theorem dX7_init_13 : decode cX7_init 13 = .ok (.dup, 1) := by decide +kernel
theorem dX7_init_14 : decode cX7_init 14 = .ok (.invokespecial 17, 3) := by decide +kernel
theorem dX7_init_17 : decode cX7_init 17 = .ok (.putfield 18, 3) := by decide +kernel
theorem dX7_init_20 : decode cX7_init 20 = .ok (.aload_n 0, 1) := by decide +kernel
theorem dX7_init_21 : decode cX7_init 21 = .ok (.iload_n 2, 1) := by decide +kernel
theorem dX7_init_22 : decode cX7_init 22 = .ok (.putfield 22, 3) := by decide +kernel
theorem dX7_init_25 : decode cX7_init 25 = .ok (.aload_n 0, 1) := by decide +kernel
theorem dX7_init_26 : decode cX7_init 26 = .ok (.iload_n 3, 1) := by decide +kernel
theorem dX7_init_27 : decode cX7_init 27 = .ok (.putfield 26, 3) := by decide +kernel
theorem dX7_init_30 : decode cX7_init 30 = .ok (.aload_n 0, 1) := by decide +kernel
theorem dX7_init_31 : decode cX7_init 31 = .ok (.aload_n 1, 1) := by decide +kernel
theorem dX7_init_32 : decode cX7_init 32 = .ok (.getfield 29, 3) := by decide +kernel
theorem dX7_init_35 : decode cX7_init 35 = .ok (.invokevirtual 32, 3) := by decide +kernel
theorem dX7_init_38 : decode cX7_init 38 = .ok (.anewarray 36, 3) := by decide +kernel
theorem dX7_init_41 : decode cX7_init 41 = .ok (.putfield 38, 3) := by decide +kernel
theorem dX7_init_44 : decode cX7_init 44 = .ok (.aload_n 0, 1) := by decide +kernel
theorem dX7_init_45 : decode cX7_init 45 = .ok (.aload_n 1, 1) := by decide +kernel
theorem dX7_init_46 : decode cX7_init 46 = .ok (.getfield 29, 3) := by decide +kernel
theorem dX7_init_49 : decode cX7_init 49 = .ok (.invokevirtual 32, 3) := by decide +kernel
theorem dX7_init_52 : decode cX7_init 52 = .ok (.newarray .int, 2) := by decide +kernel
theorem dX7_init_54 : decode cX7_init 54 = .ok (.putfield 42, 3) := by decide +kernel
theorem dX7_init_57 : decode cX7_init 57 = .ok (.aload_n 1, 1) := by decide +kernel
theorem dX7_init_58 : decode cX7_init 58 = .ok (.getfield 29, 3) := by decide +kernel
theorem dX7_init_61 : decode cX7_init 61 = .ok (.invokevirtual 46, 3) := by decide +kernel
theorem dX7_init_64 : decode cX7_init 64 = .ok (.ifCond .eq 4, 3) := by decide +kernel
theorem dX7_init_67 : decode cX7_init 67 = .ok (.return_, 1) := by decide +kernel
theorem dX7_isLoan_0 : decode cX7_isLoan 0 = .ok (.iload_n 1, 1) := by decide +kernel
theorem dX7_isLoan_1 : decode cX7_isLoan 1 = .ok (.ifCond .lt 44, 3) := by decide +kernel
theorem dX7_isLoan_4 : decode cX7_isLoan 4 = .ok (.iload_n 1, 1) := by decide +kernel
theorem dX7_isLoan_5 : decode cX7_isLoan 5 = .ok (.aload_n 0, 1) := by decide +kernel
theorem dX7_isLoan_6 : decode cX7_isLoan 6 = .ok (.getfield 38, 3) := by decide +kernel
theorem dX7_isLoan_9 : decode cX7_isLoan 9 = .ok (.arraylength, 1) := by decide +kernel
theorem dX7_isLoan_10 : decode cX7_isLoan 10 = .ok (.if_icmp .ge 35, 3) := by decide +kernel
theorem dX7_isLoan_45 : decode cX7_isLoan 45 = .ok (.iconst 0, 1) := by decide +kernel
theorem dX7_isLoan_46 : decode cX7_isLoan 46 = .ok (.ireturn, 1) := by decide +kernel
theorem dX9_init_0 : decode cX9_init 0 = .ok (.aload_n 0, 1) := by decide +kernel
theorem dX9_init_1 : decode cX9_init 1 = .ok (.invokespecial 3, 3) := by decide +kernel
theorem dX9_init_4 : decode cX9_init 4 = .ok (.aload_n 0, 1) := by decide +kernel
theorem dX9_init_5 : decode cX9_init 5 = .ok (.iload_n 1, 1) := by decide +kernel
theorem dX9_init_6 : decode cX9_init 6 = .ok (.putfield 9, 3) := by decide +kernel
theorem dX9_init_9 : decode cX9_init 9 = .ok (.aload_n 0, 1) := by decide +kernel
theorem dX9_init_10 : decode cX9_init 10 = .ok (.iload_n 2, 1) := by decide +kernel
theorem dX9_init_11 : decode cX9_init 11 = .ok (.putfield 15, 3) := by decide +kernel
theorem dX9_init_14 : decode cX9_init 14 = .ok (.aload_n 0, 1) := by decide +kernel
theorem dX9_init_15 : decode cX9_init 15 = .ok (.iload_n 3, 1) := by decide +kernel
theorem dX9_init_16 : decode cX9_init 16 = .ok (.putfield 18, 3) := by decide +kernel
theorem dX9_init_19 : decode cX9_init 19 = .ok (.aload_n 0, 1) := by decide +kernel
theorem dX9_init_20 : decode cX9_init 20 = .ok (.iload 4, 2) := by decide +kernel
theorem dX9_init_22 : decode cX9_init 22 = .ok (.putfield 21, 3) := by decide +kernel
theorem dX9_init_25 : decode cX9_init 25 = .ok (.aload_n 0, 1) := by decide +kernel
theorem dX9_init_26 : decode cX9_init 26 = .ok (.iload 5, 2) := by decide +kernel
theorem dX9_init_28 : decode cX9_init 28 = .ok (.putfield 24, 3) := by decide +kernel
theorem dX9_init_31 : decode cX9_init 31 = .ok (.aload_n 0, 1) := by decide +kernel
theorem dX9_init_32 : decode cX9_init 32 = .ok (.iload 6, 2) := by decide +kernel
theorem dX9_init_34 : decode cX9_init 34 = .ok (.putfield 27, 3) := by decide +kernel
theorem dX9_init_37 : decode cX9_init 37 = .ok (.return_, 1) := by decide +kernel
theorem dX10_init_0 : decode cX10_init 0 = .ok (.aload_n 0, 1) := by decide +kernel
theorem dX10_init_1 : decode cX10_init 1 = .ok (.invokespecial 3, 3) := by decide +kernel
theorem dX10_init_4 : decode cX10_init 4 = .ok (.aload_n 0, 1) := by decide +kernel
theorem dX10_init_5 : decode cX10_init 5 = .ok (.iload_n 1, 1) := by decide +kernel
theorem dX10_init_6 : decode cX10_init 6 = .ok (.putfield 9, 3) := by decide +kernel
theorem dX10_init_9 : decode cX10_init 9 = .ok (.aload_n 0, 1) := by decide +kernel
theorem dX10_init_10 : decode cX10_init 10 = .ok (.iload_n 2, 1) := by decide +kernel
theorem dX10_init_11 : decode cX10_init 11 = .ok (.putfield 15, 3) := by decide +kernel
theorem dX10_init_14 : decode cX10_init 14 = .ok (.return_, 1) := by decide +kernel
theorem dX11_init_0 : decode cX11_init 0 = .ok (.aload_n 0, 1) := by decide +kernel
theorem dX11_init_1 : decode cX11_init 1 = .ok (.invokespecial 1, 3) := by decide +kernel
theorem dX11_init_4 : decode cX11_init 4 = .ok (.aload_n 0, 1) := by decide +kernel
theorem dX11_init_5 : decode cX11_init 5 = .ok (.new 7, 3) := by decide +kernel
theorem dX11_init_8 : decode cX11_init 8 = .ok (.dup, 1) := by decide +kernel
theorem dX11_init_9 : decode cX11_init 9 = .ok (.invokespecial 9, 3) := by decide +kernel
theorem dX11_init_12 : decode cX11_init 12 = .ok (.putfield 10, 3) := by decide +kernel
theorem dX11_init_15 : decode cX11_init 15 = .ok (.aload_n 0, 1) := by decide +kernel
theorem dX11_init_16 : decode cX11_init 16 = .ok (.new 7, 3) := by decide +kernel
theorem dX11_init_19 : decode cX11_init 19 = .ok (.dup, 1) := by decide +kernel
theorem dX11_init_20 : decode cX11_init 20 = .ok (.invokespecial 9, 3) := by decide +kernel
theorem dX11_init_23 : decode cX11_init 23 = .ok (.putfield 16, 3) := by decide +kernel
theorem dX11_init_26 : decode cX11_init 26 = .ok (.return_, 1) := by decide +kernel
theorem dX11_thrown_0 : decode cX11_thrown 0 = .ok (.aload_n 0, 1) := by decide +kernel
theorem dX11_thrown_1 : decode cX11_thrown 1 = .ok (.getfield 19, 3) := by decide +kernel
theorem dX11_thrown_4 : decode cX11_thrown 4 = .ok (.ireturn, 1) := by decide +kernel
theorem dX11_isIn_0 : decode cX11_isIn 0 = .ok (.iload_n 0, 1) := by decide +kernel
theorem dX11_isIn_1 : decode cX11_isIn 1 = .ok (.iload_n 1, 1) := by decide +kernel
theorem dX11_isIn_2 : decode cX11_isIn 2 = .ok (.if_icmp .lt 12, 3) := by decide +kernel
theorem dX11_isIn_5 : decode cX11_isIn 5 = .ok (.iload_n 0, 1) := by decide +kernel
theorem dX11_isIn_6 : decode cX11_isIn 6 = .ok (.iload_n 2, 1) := by decide +kernel
theorem dX11_isIn_7 : decode cX11_isIn 7 = .ok (.if_icmp .gt 7, 3) := by decide +kernel
theorem dX11_isIn_10 : decode cX11_isIn 10 = .ok (.iconst 1, 1) := by decide +kernel
theorem dX11_isIn_11 : decode cX11_isIn 11 = .ok (.goto 4, 3) := by decide +kernel
theorem dX11_isIn_14 : decode cX11_isIn 14 = .ok (.iconst 0, 1) := by decide +kernel
theorem dX11_isIn_15 : decode cX11_isIn 15 = .ok (.ireturn, 1) := by decide +kernel
theorem dX11_refuse_0 : decode cX11_refuse 0 = .ok (.iload_n 1, 1) := by decide +kernel
theorem dX11_refuse_1 : decode cX11_refuse 1 = .ok (.ifCond .eq 15, 3) := by decide +kernel
theorem dX11_refuse_4 : decode cX11_refuse 4 = .ok (.aload_n 0, 1) := by decide +kernel
theorem dX11_refuse_5 : decode cX11_refuse 5 = .ok (.getfield 19, 3) := by decide +kernel
theorem dX11_refuse_8 : decode cX11_refuse 8 = .ok (.ifCond .ne 8, 3) := by decide +kernel
theorem dX11_refuse_11 : decode cX11_refuse 11 = .ok (.aload_n 0, 1) := by decide +kernel
theorem dX11_refuse_12 : decode cX11_refuse 12 = .ok (.iload_n 2, 1) := by decide +kernel
theorem dX11_refuse_13 : decode cX11_refuse 13 = .ok (.putfield 19, 3) := by decide +kernel
theorem dX11_refuse_16 : decode cX11_refuse 16 = .ok (.aload_n 0, 1) := by decide +kernel
theorem dX11_refuse_17 : decode cX11_refuse 17 = .ok (.getfield 19, 3) := by decide +kernel
theorem dX11_refuse_20 : decode cX11_refuse 20 = .ok (.ifCond .le 7, 3) := by decide +kernel
theorem dX11_refuse_23 : decode cX11_refuse 23 = .ok (.iconst 1, 1) := by decide +kernel
theorem dX11_refuse_24 : decode cX11_refuse 24 = .ok (.goto 4, 3) := by decide +kernel
theorem dX11_refuse_27 : decode cX11_refuse 27 = .ok (.iconst 0, 1) := by decide +kernel
theorem dX11_refuse_28 : decode cX11_refuse 28 = .ok (.ireturn, 1) := by decide +kernel
theorem dX11_start_0 : decode cX11_start 0 = .ok (.aload_n 0, 1) := by decide +kernel
theorem dX11_start_1 : decode cX11_start 1 = .ok (.iconst 0, 1) := by decide +kernel
theorem dX11_start_2 : decode cX11_start 2 = .ok (.putfield 19, 3) := by decide +kernel
theorem dX11_start_5 : decode cX11_start 5 = .ok (.aload_n 0, 1) := by decide +kernel
theorem dX11_start_6 : decode cX11_start 6 = .ok (.iload_n 1, 1) := by decide +kernel
theorem dX11_start_7 : decode cX11_start 7 = .ok (.iload_n 2, 1) := by decide +kernel
theorem dX11_start_8 : decode cX11_start 8 = .ok (.invokevirtual 23, 3) := by decide +kernel
theorem dX11_start_11 : decode cX11_start 11 = .ok (.ireturn, 1) := by decide +kernel
theorem dX11_plain_0 : decode cX11_plain 0 = .ok (.aload_n 0, 1) := by decide +kernel
theorem dX11_plain_1 : decode cX11_plain 1 = .ok (.iconst 0, 1) := by decide +kernel
theorem dX11_plain_2 : decode cX11_plain 2 = .ok (.putfield 19, 3) := by decide +kernel
theorem dX11_plain_5 : decode cX11_plain 5 = .ok (.iload_n 1, 1) := by decide +kernel
theorem dX11_plain_6 : decode cX11_plain 6 = .ok (.ireturn, 1) := by decide +kernel
theorem dX11_variable_0 : decode cX11_variable 0 = .ok (.aload_n 0, 1) := by decide +kernel
theorem dX11_variable_1 : decode cX11_variable 1 = .ok (.iload_n 1, 1) := by decide +kernel
theorem dX11_variable_2 : decode cX11_variable 2 = .ok (.iconst 0, 1) := by decide +kernel
theorem dX11_variable_3 : decode cX11_variable 3 = .ok (.iconst 3, 1) := by decide +kernel
theorem dX11_variable_4 : decode cX11_variable 4 = .ok (.invokestatic 27, 3) := by decide +kernel
theorem dX11_variable_7 : decode cX11_variable 7 = .ok (.ifCond .ne 7, 3) := by decide +kernel
theorem dX11_variable_10 : decode cX11_variable 10 = .ok (.iconst 1, 1) := by decide +kernel
theorem dX11_variable_11 : decode cX11_variable 11 = .ok (.goto 4, 3) := by decide +kernel
theorem dX11_variable_14 : decode cX11_variable 14 = .ok (.iconst 0, 1) := by decide +kernel
theorem dX11_variable_15 : decode cX11_variable 15 = .ok (.iconst 1, 1) := by decide +kernel
theorem dX11_variable_16 : decode cX11_variable 16 = .ok (.invokevirtual 31, 3) := by decide +kernel
theorem dX11_variable_19 : decode cX11_variable 19 = .ok (.ifCond .ne 28, 3) := by decide +kernel
theorem dX11_variable_22 : decode cX11_variable 22 = .ok (.aload_n 0, 1) := by decide +kernel
theorem dX11_variable_23 : decode cX11_variable 23 = .ok (.aload_n 0, 1) := by decide +kernel
theorem dX11_variable_24 : decode cX11_variable 24 = .ok (.getfield 10, 3) := by decide +kernel
theorem dX11_variable_27 : decode cX11_variable 27 = .ok (.invokevirtual 34, 3) := by decide +kernel
theorem dX11_variable_30 : decode cX11_variable 30 = .ok (.bipush 12, 2) := by decide +kernel
theorem dX11_variable_32 : decode cX11_variable 32 = .ok (.if_icmp .ne 7, 3) := by decide +kernel
theorem dX11_variable_39 : decode cX11_variable 39 = .ok (.iconst 0, 1) := by decide +kernel
theorem dX11_variable_40 : decode cX11_variable 40 = .ok (.iconst 2, 1) := by decide +kernel
theorem dX11_variable_41 : decode cX11_variable 41 = .ok (.invokevirtual 23, 3) := by decide +kernel
theorem dX11_variable_44 : decode cX11_variable 44 = .ok (.ifCond .eq 5, 3) := by decide +kernel
theorem dX11_variable_47 : decode cX11_variable 47 = .ok (.iconst 0, 1) := by decide +kernel
theorem dX11_variable_48 : decode cX11_variable 48 = .ok (.ireturn, 1) := by decide +kernel
theorem dX11_variable_49 : decode cX11_variable 49 = .ok (.aload_n 0, 1) := by decide +kernel
theorem dX11_variable_50 : decode cX11_variable 50 = .ok (.getfield 10, 3) := by decide +kernel
theorem dX11_variable_53 : decode cX11_variable 53 = .ok (.new 38, 3) := by decide +kernel
theorem dX11_variable_56 : decode cX11_variable 56 = .ok (.dup, 1) := by decide +kernel
theorem dX11_variable_57 : decode cX11_variable 57 = .ok (.iload_n 1, 1) := by decide +kernel
theorem dX11_variable_58 : decode cX11_variable 58 = .ok (.iload_n 2, 1) := by decide +kernel
theorem dX11_variable_59 : decode cX11_variable 59 = .ok (.invokespecial 40, 3) := by decide +kernel
theorem dX11_variable_62 : decode cX11_variable 62 = .ok (.invokevirtual 43, 3) := by decide +kernel
theorem dX11_variable_65 : decode cX11_variable 65 = .ok (.pop, 1) := by decide +kernel
theorem dX11_variable_66 : decode cX11_variable 66 = .ok (.aload_n 0, 1) := by decide +kernel
theorem dX11_variable_67 : decode cX11_variable 67 = .ok (.getfield 10, 3) := by decide +kernel
theorem dX11_variable_70 : decode cX11_variable 70 = .ok (.invokevirtual 34, 3) := by decide +kernel
theorem dX11_variable_73 : decode cX11_variable 73 = .ok (.iconst 1, 1) := by decide +kernel
theorem dX11_variable_74 : decode cX11_variable 74 = .ok (.isub, 1) := by decide +kernel
theorem dX11_variable_75 : decode cX11_variable 75 = .ok (.ireturn, 1) := by decide +kernel
theorem dX11_isNoVariable_0 : decode cX11_isNoVariable 0 = .ok (.iload_n 1, 1) := by decide +kernel
theorem dX11_isNoVariable_1 : decode cX11_isNoVariable 1 = .ok (.iconst 0, 1) := by decide +kernel
theorem dX11_isNoVariable_2 : decode cX11_isNoVariable 2 = .ok (.aload_n 0, 1) := by decide +kernel
theorem dX11_isNoVariable_3 : decode cX11_isNoVariable 3 = .ok (.getfield 10, 3) := by decide +kernel
theorem dX11_isNoVariable_6 : decode cX11_isNoVariable 6 = .ok (.invokevirtual 34, 3) := by decide +kernel
theorem dX11_isNoVariable_9 : decode cX11_isNoVariable 9 = .ok (.iconst 1, 1) := by decide +kernel
theorem dX11_isNoVariable_10 : decode cX11_isNoVariable 10 = .ok (.isub, 1) := by decide +kernel
theorem dX11_isNoVariable_11 : decode cX11_isNoVariable 11 = .ok (.invokestatic 27, 3) := by decide +kernel
theorem dX11_isNoVariable_14 : decode cX11_isNoVariable 14 = .ok (.ifCond .ne 7, 3) := by decide +kernel
theorem dX11_isNoVariable_17 : decode cX11_isNoVariable 17 = .ok (.iconst 1, 1) := by decide +kernel
theorem dX11_isNoVariable_18 : decode cX11_isNoVariable 18 = .ok (.goto 4, 3) := by decide +kernel
theorem dX11_isNoVariable_22 : decode cX11_isNoVariable 22 = .ok (.ireturn, 1) := by decide +kernel
theorem dX11_add_0 : decode cX11_add 0 = .ok (.aload_n 0, 1) := by decide +kernel
theorem dX11_add_1 : decode cX11_add 1 = .ok (.aload_n 0, 1) := by decide +kernel
theorem dX11_add_2 : decode cX11_add 2 = .ok (.getfield 16, 3) := by decide +kernel
theorem dX11_add_5 : decode cX11_add 5 = .ok (.invokevirtual 34, 3) := by decide +kernel
theorem dX11_add_8 : decode cX11_add 8 = .ok (.bipush 40, 2) := by decide +kernel
theorem dX11_add_10 : decode cX11_add 10 = .ok (.if_icmp .ne 7, 3) := by decide +kernel
theorem dX11_add_17 : decode cX11_add 17 = .ok (.iconst 0, 1) := by decide +kernel
theorem dX11_add_18 : decode cX11_add 18 = .ok (.iload 7, 2) := by decide +kernel
theorem dX11_add_20 : decode cX11_add 20 = .ok (.invokevirtual 23, 3) := by decide +kernel
theorem dX11_add_23 : decode cX11_add 23 = .ok (.ifCond .eq 5, 3) := by decide +kernel
theorem dX11_add_28 : decode cX11_add 28 = .ok (.aload_n 0, 1) := by decide +kernel
theorem dX11_add_29 : decode cX11_add 29 = .ok (.getfield 16, 3) := by decide +kernel
theorem dX11_add_32 : decode cX11_add 32 = .ok (.new 54, 3) := by decide +kernel
theorem dX11_add_35 : decode cX11_add 35 = .ok (.dup, 1) := by decide +kernel
theorem dX11_add_36 : decode cX11_add 36 = .ok (.iload_n 1, 1) := by decide +kernel
theorem dX11_add_37 : decode cX11_add 37 = .ok (.iload_n 2, 1) := by decide +kernel
theorem dX11_add_38 : decode cX11_add 38 = .ok (.iload_n 3, 1) := by decide +kernel
theorem dX11_add_39 : decode cX11_add 39 = .ok (.iload 4, 2) := by decide +kernel
theorem dX11_add_41 : decode cX11_add 41 = .ok (.iload 5, 2) := by decide +kernel
theorem dX11_add_43 : decode cX11_add 43 = .ok (.iload 6, 2) := by decide +kernel
theorem dX11_add_45 : decode cX11_add 45 = .ok (.invokespecial 56, 3) := by decide +kernel
theorem dX11_add_48 : decode cX11_add 48 = .ok (.invokevirtual 43, 3) := by decide +kernel
theorem dX11_add_51 : decode cX11_add 51 = .ok (.pop, 1) := by decide +kernel
theorem dX11_add_52 : decode cX11_add 52 = .ok (.aload_n 0, 1) := by decide +kernel
theorem dX11_add_53 : decode cX11_add 53 = .ok (.getfield 16, 3) := by decide +kernel
theorem dX11_add_56 : decode cX11_add 56 = .ok (.invokevirtual 34, 3) := by decide +kernel
theorem dX11_add_59 : decode cX11_add 59 = .ok (.iconst 1, 1) := by decide +kernel
theorem dX11_add_60 : decode cX11_add 60 = .ok (.isub, 1) := by decide +kernel
theorem dX11_add_61 : decode cX11_add 61 = .ok (.ireturn, 1) := by decide +kernel
theorem dX11_write_0 : decode cX11_write 0 = .ok (.aload_n 0, 1) := by decide +kernel
theorem dX11_write_1 : decode cX11_write 1 = .ok (.aload_n 0, 1) := by decide +kernel
theorem dX11_write_2 : decode cX11_write 2 = .ok (.iload_n 1, 1) := by decide +kernel
theorem dX11_write_3 : decode cX11_write 3 = .ok (.invokevirtual 62, 3) := by decide +kernel
theorem dX11_write_6 : decode cX11_write 6 = .ok (.iconst 1, 1) := by decide +kernel
theorem dX11_write_7 : decode cX11_write 7 = .ok (.invokevirtual 31, 3) := by decide +kernel
theorem dX11_write_10 : decode cX11_write 10 = .ok (.ifCond .eq 5, 3) := by decide +kernel
theorem dX11_write_13 : decode cX11_write 13 = .ok (.iconst 0, 1) := by decide +kernel
theorem dX11_write_14 : decode cX11_write 14 = .ok (.ireturn, 1) := by decide +kernel
theorem dX11_move_0 : decode cX11_move 0 = .ok (.aload_n 0, 1) := by decide +kernel
theorem dX11_move_1 : decode cX11_move 1 = .ok (.aload_n 0, 1) := by decide +kernel
theorem dX11_move_2 : decode cX11_move 2 = .ok (.iload_n 1, 1) := by decide +kernel
theorem dX11_move_3 : decode cX11_move 3 = .ok (.invokevirtual 62, 3) := by decide +kernel
theorem dX11_move_6 : decode cX11_move 6 = .ok (.ifCond .ne 11, 3) := by decide +kernel
theorem dX11_move_17 : decode cX11_move 17 = .ok (.iconst 1, 1) := by decide +kernel
theorem dX11_move_18 : decode cX11_move 18 = .ok (.goto 4, 3) := by decide +kernel
theorem dX11_move_22 : decode cX11_move 22 = .ok (.iconst 1, 1) := by decide +kernel
theorem dX11_move_23 : decode cX11_move 23 = .ok (.invokevirtual 31, 3) := by decide +kernel
theorem dX11_move_26 : decode cX11_move 26 = .ok (.ifCond .eq 5, 3) := by decide +kernel
theorem dX11_move_29 : decode cX11_move 29 = .ok (.iconst 0, 1) := by decide +kernel
theorem dX11_move_30 : decode cX11_move 30 = .ok (.ireturn, 1) := by decide +kernel
theorem dX11_lend_0 : decode cX11_lend 0 = .ok (.aload_n 0, 1) := by decide +kernel
theorem dX11_lend_1 : decode cX11_lend 1 = .ok (.aload_n 0, 1) := by decide +kernel
theorem dX11_lend_2 : decode cX11_lend 2 = .ok (.iload_n 1, 1) := by decide +kernel
theorem dX11_lend_3 : decode cX11_lend 3 = .ok (.invokevirtual 62, 3) := by decide +kernel
theorem dX11_lend_6 : decode cX11_lend 6 = .ok (.ifCond .ne 11, 3) := by decide +kernel
theorem dX11_lend_17 : decode cX11_lend 17 = .ok (.iconst 1, 1) := by decide +kernel
theorem dX11_lend_18 : decode cX11_lend 18 = .ok (.goto 4, 3) := by decide +kernel
theorem dX11_lend_22 : decode cX11_lend 22 = .ok (.iconst 1, 1) := by decide +kernel
theorem dX11_lend_23 : decode cX11_lend 23 = .ok (.invokevirtual 31, 3) := by decide +kernel
theorem dX11_lend_26 : decode cX11_lend 26 = .ok (.ifCond .eq 5, 3) := by decide +kernel
theorem dX11_lend_29 : decode cX11_lend 29 = .ok (.iconst 0, 1) := by decide +kernel
theorem dX11_lend_30 : decode cX11_lend 30 = .ok (.ireturn, 1) := by decide +kernel
theorem dX11_relend_0 : decode cX11_relend 0 = .ok (.aload_n 0, 1) := by decide +kernel
theorem dX11_relend_1 : decode cX11_relend 1 = .ok (.aload_n 0, 1) := by decide +kernel
theorem dX11_relend_2 : decode cX11_relend 2 = .ok (.iload_n 1, 1) := by decide +kernel
theorem dX11_relend_3 : decode cX11_relend 3 = .ok (.invokevirtual 62, 3) := by decide +kernel
theorem dX11_relend_6 : decode cX11_relend 6 = .ok (.ifCond .ne 11, 3) := by decide +kernel
theorem dX11_relend_17 : decode cX11_relend 17 = .ok (.iconst 1, 1) := by decide +kernel
theorem dX11_relend_18 : decode cX11_relend 18 = .ok (.goto 4, 3) := by decide +kernel
theorem dX11_relend_22 : decode cX11_relend 22 = .ok (.iconst 1, 1) := by decide +kernel
theorem dX11_relend_23 : decode cX11_relend 23 = .ok (.invokevirtual 31, 3) := by decide +kernel
theorem dX11_relend_26 : decode cX11_relend 26 = .ok (.ifCond .eq 5, 3) := by decide +kernel
theorem dX11_relend_29 : decode cX11_relend 29 = .ok (.iconst 0, 1) := by decide +kernel
theorem dX11_relend_30 : decode cX11_relend 30 = .ok (.ireturn, 1) := by decide +kernel
theorem dX11_read_0 : decode cX11_read 0 = .ok (.aload_n 0, 1) := by decide +kernel
theorem dX11_read_1 : decode cX11_read 1 = .ok (.aload_n 0, 1) := by decide +kernel
theorem dX11_read_2 : decode cX11_read 2 = .ok (.iload_n 1, 1) := by decide +kernel
theorem dX11_read_3 : decode cX11_read 3 = .ok (.invokevirtual 62, 3) := by decide +kernel
theorem dX11_read_6 : decode cX11_read 6 = .ok (.iconst 1, 1) := by decide +kernel
theorem dX11_read_7 : decode cX11_read 7 = .ok (.invokevirtual 31, 3) := by decide +kernel
theorem dX11_read_10 : decode cX11_read 10 = .ok (.ifCond .eq 5, 3) := by decide +kernel
theorem dX11_read_13 : decode cX11_read 13 = .ok (.iconst 0, 1) := by decide +kernel
theorem dX11_read_14 : decode cX11_read 14 = .ok (.ireturn, 1) := by decide +kernel
theorem dX11_drop_0 : decode cX11_drop 0 = .ok (.aload_n 0, 1) := by decide +kernel
theorem dX11_drop_1 : decode cX11_drop 1 = .ok (.aload_n 0, 1) := by decide +kernel
theorem dX11_drop_2 : decode cX11_drop 2 = .ok (.iload_n 1, 1) := by decide +kernel
theorem dX11_drop_3 : decode cX11_drop 3 = .ok (.invokevirtual 62, 3) := by decide +kernel
theorem dX11_drop_6 : decode cX11_drop 6 = .ok (.iconst 1, 1) := by decide +kernel
theorem dX11_drop_7 : decode cX11_drop 7 = .ok (.invokevirtual 31, 3) := by decide +kernel
theorem dX11_drop_10 : decode cX11_drop 10 = .ok (.ifCond .eq 7, 3) := by decide +kernel
theorem dX11_drop_13 : decode cX11_drop 13 = .ok (.iconst 0, 1) := by decide +kernel
theorem dX11_drop_14 : decode cX11_drop 14 = .ok (.goto 14, 3) := by decide +kernel
theorem dX11_drop_28 : decode cX11_drop 28 = .ok (.ireturn, 1) := by decide +kernel
theorem dX11_call_0 : decode cX11_call 0 = .ok (.aload_n 0, 1) := by decide +kernel
theorem dX11_call_1 : decode cX11_call 1 = .ok (.aload_n 0, 1) := by decide +kernel
theorem dX11_call_2 : decode cX11_call 2 = .ok (.iload_n 1, 1) := by decide +kernel
theorem dX11_call_3 : decode cX11_call 3 = .ok (.invokevirtual 62, 3) := by decide +kernel
theorem dX11_call_6 : decode cX11_call 6 = .ok (.ifCond .ne 29, 3) := by decide +kernel
theorem dX11_call_35 : decode cX11_call 35 = .ok (.iconst 1, 1) := by decide +kernel
theorem dX11_call_36 : decode cX11_call 36 = .ok (.goto 4, 3) := by decide +kernel
theorem dX11_call_40 : decode cX11_call 40 = .ok (.iconst 1, 1) := by decide +kernel
theorem dX11_call_41 : decode cX11_call 41 = .ok (.invokevirtual 31, 3) := by decide +kernel
theorem dX11_call_44 : decode cX11_call 44 = .ok (.ifCond .eq 5, 3) := by decide +kernel
theorem dX11_call_47 : decode cX11_call 47 = .ok (.iconst 0, 1) := by decide +kernel
theorem dX11_call_48 : decode cX11_call 48 = .ok (.ireturn, 1) := by decide +kernel
theorem dX11_branch_0 : decode cX11_branch 0 = .ok (.aload_n 0, 1) := by decide +kernel
theorem dX11_branch_1 : decode cX11_branch 1 = .ok (.iload_n 2, 1) := by decide +kernel
theorem dX11_branch_2 : decode cX11_branch 2 = .ok (.iconst 0, 1) := by decide +kernel
theorem dX11_branch_3 : decode cX11_branch 3 = .ok (.bipush 40, 2) := by decide +kernel
theorem dX11_branch_5 : decode cX11_branch 5 = .ok (.invokestatic 27, 3) := by decide +kernel
theorem dX11_branch_8 : decode cX11_branch 8 = .ok (.ifCond .ne 7, 3) := by decide +kernel
theorem dX11_branch_11 : decode cX11_branch 11 = .ok (.iconst 1, 1) := by decide +kernel
theorem dX11_branch_12 : decode cX11_branch 12 = .ok (.goto 4, 3) := by decide +kernel
theorem dX11_branch_15 : decode cX11_branch 15 = .ok (.iconst 0, 1) := by decide +kernel
theorem dX11_branch_16 : decode cX11_branch 16 = .ok (.iconst 1, 1) := by decide +kernel
theorem dX11_branch_17 : decode cX11_branch 17 = .ok (.invokevirtual 31, 3) := by decide +kernel
theorem dX11_branch_20 : decode cX11_branch 20 = .ok (.ifCond .eq 7, 3) := by decide +kernel
theorem dX11_branch_23 : decode cX11_branch 23 = .ok (.iconst 0, 1) := by decide +kernel
theorem dX11_branch_24 : decode cX11_branch 24 = .ok (.goto 24, 3) := by decide +kernel
theorem dX11_branch_27 : decode cX11_branch 27 = .ok (.aload_n 0, 1) := by decide +kernel
theorem dX11_branch_28 : decode cX11_branch 28 = .ok (.iload_n 1, 1) := by decide +kernel
theorem dX11_branch_29 : decode cX11_branch 29 = .ok (.ifCond .eq 8, 3) := by decide +kernel
theorem dX11_branch_32 : decode cX11_branch 32 = .ok (.bipush 8, 2) := by decide +kernel
theorem dX11_branch_34 : decode cX11_branch 34 = .ok (.goto 5, 3) := by decide +kernel
theorem dX11_branch_37 : decode cX11_branch 37 = .ok (.bipush 7, 2) := by decide +kernel
theorem dX11_branch_39 : decode cX11_branch 39 = .ok (.iconst (-1), 1) := by decide +kernel
theorem dX11_branch_40 : decode cX11_branch 40 = .ok (.iconst (-1), 1) := by decide +kernel
theorem dX11_branch_41 : decode cX11_branch 41 = .ok (.iconst (-1), 1) := by decide +kernel
theorem dX11_branch_42 : decode cX11_branch 42 = .ok (.iconst 0, 1) := by decide +kernel
theorem dX11_branch_43 : decode cX11_branch 43 = .ok (.iload_n 2, 1) := by decide +kernel
theorem dX11_branch_44 : decode cX11_branch 44 = .ok (.iconst 2, 1) := by decide +kernel
theorem dX11_branch_45 : decode cX11_branch 45 = .ok (.invokevirtual 74, 3) := by decide +kernel
theorem dX11_branch_48 : decode cX11_branch 48 = .ok (.ireturn, 1) := by decide +kernel
theorem dX11_finish_0 : decode cX11_finish 0 = .ok (.aload_n 0, 1) := by decide +kernel
theorem dX11_finish_1 : decode cX11_finish 1 = .ok (.iload_n 1, 1) := by decide +kernel
theorem dX11_finish_2 : decode cX11_finish 2 = .ok (.iconst (-1), 1) := by decide +kernel
theorem dX11_finish_3 : decode cX11_finish 3 = .ok (.if_icmp .eq 15, 3) := by decide +kernel
theorem dX11_finish_6 : decode cX11_finish 6 = .ok (.aload_n 0, 1) := by decide +kernel
theorem dX11_finish_7 : decode cX11_finish 7 = .ok (.iload_n 1, 1) := by decide +kernel
theorem dX11_finish_8 : decode cX11_finish 8 = .ok (.invokevirtual 62, 3) := by decide +kernel
theorem dX11_finish_11 : decode cX11_finish 11 = .ok (.ifCond .eq 7, 3) := by decide +kernel
theorem dX11_finish_14 : decode cX11_finish 14 = .ok (.iconst 1, 1) := by decide +kernel
theorem dX11_finish_15 : decode cX11_finish 15 = .ok (.goto 4, 3) := by decide +kernel
theorem dX11_finish_18 : decode cX11_finish 18 = .ok (.iconst 0, 1) := by decide +kernel
theorem dX11_finish_19 : decode cX11_finish 19 = .ok (.iconst 1, 1) := by decide +kernel
theorem dX11_finish_20 : decode cX11_finish 20 = .ok (.invokevirtual 31, 3) := by decide +kernel
theorem dX11_finish_23 : decode cX11_finish 23 = .ok (.ifCond .eq 7, 3) := by decide +kernel
theorem dX11_finish_26 : decode cX11_finish 26 = .ok (.iconst 0, 1) := by decide +kernel
theorem dX11_finish_27 : decode cX11_finish 27 = .ok (.goto 15, 3) := by decide +kernel
theorem dX11_finish_30 : decode cX11_finish 30 = .ok (.aload_n 0, 1) := by decide +kernel
theorem dX11_finish_31 : decode cX11_finish 31 = .ok (.bipush 9, 2) := by decide +kernel
theorem dX11_finish_33 : decode cX11_finish 33 = .ok (.iconst (-1), 1) := by decide +kernel
theorem dX11_finish_34 : decode cX11_finish 34 = .ok (.iload_n 1, 1) := by decide +kernel
theorem dX11_finish_35 : decode cX11_finish 35 = .ok (.iconst (-1), 1) := by decide +kernel
theorem dX11_finish_36 : decode cX11_finish 36 = .ok (.iconst 0, 1) := by decide +kernel
theorem dX11_finish_37 : decode cX11_finish 37 = .ok (.iconst 0, 1) := by decide +kernel
theorem dX11_finish_38 : decode cX11_finish 38 = .ok (.iconst 2, 1) := by decide +kernel
theorem dX11_finish_39 : decode cX11_finish 39 = .ok (.invokevirtual 74, 3) := by decide +kernel
theorem dX11_finish_42 : decode cX11_finish 42 = .ok (.ireturn, 1) := by decide +kernel
theorem dX11_isNoStatement_0 : decode cX11_isNoStatement 0 = .ok (.aload_n 0, 1) := by decide +kernel
theorem dX11_isNoStatement_1 : decode cX11_isNoStatement 1 = .ok (.iload_n 1, 1) := by decide +kernel
theorem dX11_isNoStatement_2 : decode cX11_isNoStatement 2 = .ok (.iconst 0, 1) := by decide +kernel
theorem dX11_isNoStatement_3 : decode cX11_isNoStatement 3 = .ok (.aload_n 0, 1) := by decide +kernel
theorem dX11_isNoStatement_4 : decode cX11_isNoStatement 4 = .ok (.getfield 16, 3) := by decide +kernel
theorem dX11_isNoStatement_7 : decode cX11_isNoStatement 7 = .ok (.invokevirtual 34, 3) := by decide +kernel
theorem dX11_isNoStatement_10 : decode cX11_isNoStatement 10 = .ok (.iconst 1, 1) := by decide +kernel
theorem dX11_isNoStatement_11 : decode cX11_isNoStatement 11 = .ok (.isub, 1) := by decide +kernel
theorem dX11_isNoStatement_12 : decode cX11_isNoStatement 12 = .ok (.invokestatic 27, 3) := by decide +kernel
theorem dX11_isNoStatement_15 : decode cX11_isNoStatement 15 = .ok (.ifCond .ne 7, 3) := by decide +kernel
theorem dX11_isNoStatement_18 : decode cX11_isNoStatement 18 = .ok (.iconst 1, 1) := by decide +kernel
theorem dX11_isNoStatement_19 : decode cX11_isNoStatement 19 = .ok (.goto 4, 3) := by decide +kernel
theorem dX11_isNoStatement_23 : decode cX11_isNoStatement 23 = .ok (.iconst 1, 1) := by decide +kernel
theorem dX11_isNoStatement_24 : decode cX11_isNoStatement 24 = .ok (.invokevirtual 31, 3) := by decide +kernel
theorem dX11_isNoStatement_27 : decode cX11_isNoStatement 27 = .ok (.ireturn, 1) := by decide +kernel
theorem dX11_setTarget_0 : decode cX11_setTarget 0 = .ok (.aload_n 0, 1) := by decide +kernel
theorem dX11_setTarget_1 : decode cX11_setTarget 1 = .ok (.iload_n 1, 1) := by decide +kernel
theorem dX11_setTarget_2 : decode cX11_setTarget 2 = .ok (.invokevirtual 77, 3) := by decide +kernel
theorem dX11_setTarget_5 : decode cX11_setTarget 5 = .ok (.ifCond .eq 5, 3) := by decide +kernel
theorem dX11_setTarget_8 : decode cX11_setTarget 8 = .ok (.iconst 0, 1) := by decide +kernel
theorem dX11_setTarget_9 : decode cX11_setTarget 9 = .ok (.ireturn, 1) := by decide +kernel
theorem dX11_undo_0 : decode cX11_undo 0 = .ok (.aload_n 0, 1) := by decide +kernel
theorem dX11_undo_1 : decode cX11_undo 1 = .ok (.aload_n 0, 1) := by decide +kernel
theorem dX11_undo_2 : decode cX11_undo 2 = .ok (.getfield 16, 3) := by decide +kernel
theorem dX11_undo_5 : decode cX11_undo 5 = .ok (.invokevirtual 90, 3) := by decide +kernel
theorem dX11_undo_8 : decode cX11_undo 8 = .ok (.iconst 1, 1) := by decide +kernel
theorem dX11_undo_9 : decode cX11_undo 9 = .ok (.invokevirtual 31, 3) := by decide +kernel
theorem dX11_undo_12 : decode cX11_undo 12 = .ok (.ifCond .eq 5, 3) := by decide +kernel
theorem dX11_undo_15 : decode cX11_undo 15 = .ok (.iconst 0, 1) := by decide +kernel
theorem dX11_undo_16 : decode cX11_undo 16 = .ok (.ireturn, 1) := by decide +kernel
theorem dX11_variables_0 : decode cX11_variables 0 = .ok (.aload_n 0, 1) := by decide +kernel
theorem dX11_variables_1 : decode cX11_variables 1 = .ok (.aload_n 0, 1) := by decide +kernel
theorem dX11_variables_2 : decode cX11_variables 2 = .ok (.getfield 10, 3) := by decide +kernel
theorem dX11_variables_5 : decode cX11_variables 5 = .ok (.invokevirtual 34, 3) := by decide +kernel
theorem dX11_variables_8 : decode cX11_variables 8 = .ok (.invokevirtual 96, 3) := by decide +kernel
theorem dX11_variables_11 : decode cX11_variables 11 = .ok (.ireturn, 1) := by decide +kernel
theorem dX11_statements_0 : decode cX11_statements 0 = .ok (.aload_n 0, 1) := by decide +kernel
theorem dX11_statements_1 : decode cX11_statements 1 = .ok (.aload_n 0, 1) := by decide +kernel
theorem dX11_statements_2 : decode cX11_statements 2 = .ok (.getfield 16, 3) := by decide +kernel
theorem dX11_statements_5 : decode cX11_statements 5 = .ok (.invokevirtual 34, 3) := by decide +kernel
theorem dX11_statements_8 : decode cX11_statements 8 = .ok (.invokevirtual 96, 3) := by decide +kernel
theorem dX11_statements_11 : decode cX11_statements 11 = .ok (.ireturn, 1) := by decide +kernel
theorem dX11_codeOf_0 : decode cX11_codeOf 0 = .ok (.aload_n 0, 1) := by decide +kernel
theorem dX11_codeOf_1 : decode cX11_codeOf 1 = .ok (.iload_n 1, 1) := by decide +kernel
theorem dX11_codeOf_2 : decode cX11_codeOf 2 = .ok (.invokevirtual 77, 3) := by decide +kernel
theorem dX11_codeOf_5 : decode cX11_codeOf 5 = .ok (.ifCond .eq 7, 3) := by decide +kernel
theorem dX11_codeOf_8 : decode cX11_codeOf 8 = .ok (.iconst 0, 1) := by decide +kernel
theorem dX11_codeOf_9 : decode cX11_codeOf 9 = .ok (.goto 17, 3) := by decide +kernel
theorem dX11_codeOf_26 : decode cX11_codeOf 26 = .ok (.ireturn, 1) := by decide +kernel
theorem dX11_look_0 : decode cX11_look 0 = .ok (.new 99, 3) := by decide +kernel
theorem dX11_look_3 : decode cX11_look 3 = .ok (.dup, 1) := by decide +kernel
theorem dX11_look_4 : decode cX11_look 4 = .ok (.aload_n 0, 1) := by decide +kernel
theorem dX11_look_5 : decode cX11_look 5 = .ok (.iconst (-1), 1) := by decide +kernel
theorem dX11_look_6 : decode cX11_look 6 = .ok (.iconst (-1), 1) := by decide +kernel
theorem dX11_look_7 : decode cX11_look 7 = .ok (.invokespecial 101, 3) := by decide +kernel
theorem dX11_look_10 : decode cX11_look 10 = .ok (.areturn, 1) := by decide +kernel
theorem dX11_isReached_0 : decode cX11_isReached 0 = .ok (.aload_n 0, 1) := by decide +kernel
theorem dX11_isReached_1 : decode cX11_isReached 1 = .ok (.iload_n 1, 1) := by decide +kernel
theorem dX11_isReached_2 : decode cX11_isReached 2 = .ok (.invokevirtual 77, 3) := by decide +kernel
theorem dX11_isReached_5 : decode cX11_isReached 5 = .ok (.ifCond .ne 19, 3) := by decide +kernel
theorem dX11_isReached_24 : decode cX11_isReached 24 = .ok (.iconst 0, 1) := by decide +kernel
theorem dX11_isReached_25 : decode cX11_isReached 25 = .ok (.ireturn, 1) := by decide +kernel
theorem dX11_canBe_0 : decode cX11_canBe 0 = .ok (.aload_n 0, 1) := by decide +kernel
theorem dX11_canBe_1 : decode cX11_canBe 1 = .ok (.iload_n 1, 1) := by decide +kernel
theorem dX11_canBe_2 : decode cX11_canBe 2 = .ok (.invokevirtual 77, 3) := by decide +kernel
theorem dX11_canBe_5 : decode cX11_canBe 5 = .ok (.ifCond .ne 43, 3) := by decide +kernel
theorem dX11_canBe_48 : decode cX11_canBe 48 = .ok (.iconst 0, 1) := by decide +kernel
theorem dX11_canBe_49 : decode cX11_canBe 49 = .ok (.ireturn, 1) := by decide +kernel
theorem dX11_holds_0 : decode cX11_holds 0 = .ok (.aload_n 0, 1) := by decide +kernel
theorem dX11_holds_1 : decode cX11_holds 1 = .ok (.iload_n 1, 1) := by decide +kernel
theorem dX11_holds_2 : decode cX11_holds 2 = .ok (.invokevirtual 77, 3) := by decide +kernel
theorem dX11_holds_5 : decode cX11_holds 5 = .ok (.ifCond .ne 16, 3) := by decide +kernel
theorem dX11_holds_21 : decode cX11_holds 21 = .ok (.iconst 0, 1) := by decide +kernel
theorem dX11_holds_22 : decode cX11_holds 22 = .ok (.goto 13, 3) := by decide +kernel
theorem dX11_holds_35 : decode cX11_holds 35 = .ok (.ireturn, 1) := by decide +kernel
theorem dX11_canHold_0 : decode cX11_canHold 0 = .ok (.aload_n 0, 1) := by decide +kernel
theorem dX11_canHold_1 : decode cX11_canHold 1 = .ok (.iload_n 1, 1) := by decide +kernel
theorem dX11_canHold_2 : decode cX11_canHold 2 = .ok (.invokevirtual 77, 3) := by decide +kernel
theorem dX11_canHold_5 : decode cX11_canHold 5 = .ok (.ifCond .ne 16, 3) := by decide +kernel
theorem dX11_canHold_21 : decode cX11_canHold 21 = .ok (.iconst 0, 1) := by decide +kernel
theorem dX11_canHold_22 : decode cX11_canHold 22 = .ok (.ireturn, 1) := by decide +kernel
theorem dX11_awaited_0 : decode cX11_awaited 0 = .ok (.aload_n 0, 1) := by decide +kernel
theorem dX11_awaited_1 : decode cX11_awaited 1 = .ok (.iload_n 1, 1) := by decide +kernel
theorem dX11_awaited_2 : decode cX11_awaited 2 = .ok (.invokevirtual 77, 3) := by decide +kernel
theorem dX11_awaited_5 : decode cX11_awaited 5 = .ok (.ifCond .eq 7, 3) := by decide +kernel
theorem dX11_awaited_8 : decode cX11_awaited 8 = .ok (.iconst 0, 1) := by decide +kernel
theorem dX11_awaited_9 : decode cX11_awaited 9 = .ok (.goto 12, 3) := by decide +kernel
theorem dX11_awaited_21 : decode cX11_awaited 21 = .ok (.ireturn, 1) := by decide +kernel
theorem dX11_loans_0 : decode cX11_loans 0 = .ok (.iconst 0, 1) := by decide +kernel
theorem dX11_loans_1 : decode cX11_loans 1 = .ok (.istore_n 2, 1) := by decide +kernel
theorem dX11_loans_2 : decode cX11_loans 2 = .ok (.iconst 0, 1) := by decide +kernel
theorem dX11_loans_3 : decode cX11_loans 3 = .ok (.istore_n 3, 1) := by decide +kernel
theorem dX11_loans_4 : decode cX11_loans 4 = .ok (.iload_n 3, 1) := by decide +kernel
theorem dX11_loans_5 : decode cX11_loans 5 = .ok (.aload_n 0, 1) := by decide +kernel
theorem dX11_loans_6 : decode cX11_loans 6 = .ok (.getfield 16, 3) := by decide +kernel
theorem dX11_loans_9 : decode cX11_loans 9 = .ok (.invokevirtual 34, 3) := by decide +kernel
theorem dX11_loans_12 : decode cX11_loans 12 = .ok (.if_icmp .ge 25, 3) := by decide +kernel
theorem dX11_loans_37 : decode cX11_loans 37 = .ok (.iload_n 2, 1) := by decide +kernel
theorem dX11_loans_38 : decode cX11_loans 38 = .ok (.ireturn, 1) := by decide +kernel
theorem dX11_loans__0 : decode cX11_loans_ 0 = .ok (.aload_n 0, 1) := by decide +kernel
theorem dX11_loans__1 : decode cX11_loans_ 1 = .ok (.aload_n 0, 1) := by decide +kernel
theorem dX11_loans__2 : decode cX11_loans_ 2 = .ok (.aload_n 0, 1) := by decide +kernel
theorem dX11_loans__3 : decode cX11_loans_ 3 = .ok (.invokevirtual 104, 3) := by decide +kernel
theorem dX11_loans__6 : decode cX11_loans_ 6 = .ok (.invokevirtual 144, 3) := by decide +kernel
theorem dX11_loans__9 : decode cX11_loans_ 9 = .ok (.invokevirtual 96, 3) := by decide +kernel
theorem dX11_loans__12 : decode cX11_loans_ 12 = .ok (.ireturn, 1) := by decide +kernel
theorem dX11_isLive_0 : decode cX11_isLive 0 = .ok (.aload_n 0, 1) := by decide +kernel
theorem dX11_isLive_1 : decode cX11_isLive 1 = .ok (.iload_n 2, 1) := by decide +kernel
theorem dX11_isLive_2 : decode cX11_isLive 2 = .ok (.invokevirtual 77, 3) := by decide +kernel
theorem dX11_isLive_5 : decode cX11_isLive 5 = .ok (.ifCond .ne 19, 3) := by decide +kernel
theorem dX11_isLive_24 : decode cX11_isLive 24 = .ok (.iconst 0, 1) := by decide +kernel
theorem dX11_isLive_25 : decode cX11_isLive 25 = .ok (.ireturn, 1) := by decide +kernel
theorem dX11_region_0 : decode cX11_region 0 = .ok (.aload_n 1, 1) := by decide +kernel
theorem dX11_region_1 : decode cX11_region 1 = .ok (.iload_n 2, 1) := by decide +kernel
theorem dX11_region_2 : decode cX11_region 2 = .ok (.invokevirtual 135, 3) := by decide +kernel
theorem dX11_region_5 : decode cX11_region 5 = .ok (.ifCond .ne 5, 3) := by decide +kernel
theorem dX11_region_8 : decode cX11_region 8 = .ok (.iconst (-1), 1) := by decide +kernel
theorem dX11_region_9 : decode cX11_region 9 = .ok (.ireturn, 1) := by decide +kernel
theorem dX11_region__0 : decode cX11_region_ 0 = .ok (.aload_n 0, 1) := by decide +kernel
theorem dX11_region__1 : decode cX11_region_ 1 = .ok (.aload_n 0, 1) := by decide +kernel
theorem dX11_region__2 : decode cX11_region_ 2 = .ok (.aload_n 0, 1) := by decide +kernel
theorem dX11_region__3 : decode cX11_region_ 3 = .ok (.invokevirtual 104, 3) := by decide +kernel
theorem dX11_region__6 : decode cX11_region_ 6 = .ok (.iload_n 1, 1) := by decide +kernel
theorem dX11_region__7 : decode cX11_region_ 7 = .ok (.invokevirtual 151, 3) := by decide +kernel
theorem dX11_region__10 : decode cX11_region_ 10 = .ok (.invokevirtual 96, 3) := by decide +kernel
theorem dX11_region__13 : decode cX11_region_ 13 = .ok (.ireturn, 1) := by decide +kernel
theorem dX11_faults_0 : decode cX11_faults 0 = .ok (.aload_n 0, 1) := by decide +kernel
theorem dX11_faults_1 : decode cX11_faults 1 = .ok (.aload_n 0, 1) := by decide +kernel
theorem dX11_faults_2 : decode cX11_faults 2 = .ok (.invokevirtual 104, 3) := by decide +kernel
theorem dX11_faults_5 : decode cX11_faults 5 = .ok (.getfield 155, 3) := by decide +kernel
theorem dX11_faults_8 : decode cX11_faults 8 = .ok (.invokevirtual 34, 3) := by decide +kernel
theorem dX11_faults_11 : decode cX11_faults 11 = .ok (.invokevirtual 96, 3) := by decide +kernel
theorem dX11_faults_14 : decode cX11_faults 14 = .ok (.ireturn, 1) := by decide +kernel
theorem dX11_ofFault_0 : decode cX11_ofFault 0 = .ok (.aload_n 0, 1) := by decide +kernel
theorem dX11_ofFault_1 : decode cX11_ofFault 1 = .ok (.iconst 0, 1) := by decide +kernel
theorem dX11_ofFault_2 : decode cX11_ofFault 2 = .ok (.putfield 19, 3) := by decide +kernel
theorem dX11_ofFault_5 : decode cX11_ofFault 5 = .ok (.aload_n 0, 1) := by decide +kernel
theorem dX11_ofFault_6 : decode cX11_ofFault 6 = .ok (.invokevirtual 104, 3) := by decide +kernel
theorem dX11_ofFault_9 : decode cX11_ofFault 9 = .ok (.getfield 155, 3) := by decide +kernel
theorem dX11_ofFault_12 : decode cX11_ofFault 12 = .ok (.astore_n 3, 1) := by decide +kernel
theorem dX11_ofFault_13 : decode cX11_ofFault 13 = .ok (.aload_n 0, 1) := by decide +kernel
theorem dX11_ofFault_14 : decode cX11_ofFault 14 = .ok (.iload_n 1, 1) := by decide +kernel
theorem dX11_ofFault_15 : decode cX11_ofFault 15 = .ok (.iconst 0, 1) := by decide +kernel
theorem dX11_ofFault_16 : decode cX11_ofFault 16 = .ok (.aload_n 3, 1) := by decide +kernel
theorem dX11_ofFault_17 : decode cX11_ofFault 17 = .ok (.invokevirtual 34, 3) := by decide +kernel
theorem dX11_ofFault_20 : decode cX11_ofFault 20 = .ok (.iconst 1, 1) := by decide +kernel
theorem dX11_ofFault_21 : decode cX11_ofFault 21 = .ok (.isub, 1) := by decide +kernel
theorem dX11_ofFault_22 : decode cX11_ofFault 22 = .ok (.invokestatic 27, 3) := by decide +kernel
theorem dX11_ofFault_25 : decode cX11_ofFault 25 = .ok (.ifCond .ne 7, 3) := by decide +kernel
theorem dX11_ofFault_28 : decode cX11_ofFault 28 = .ok (.iconst 1, 1) := by decide +kernel
theorem dX11_ofFault_29 : decode cX11_ofFault 29 = .ok (.goto 4, 3) := by decide +kernel
theorem dX11_ofFault_33 : decode cX11_ofFault 33 = .ok (.iconst 1, 1) := by decide +kernel
theorem dX11_ofFault_34 : decode cX11_ofFault 34 = .ok (.invokevirtual 23, 3) := by decide +kernel
theorem dX11_ofFault_37 : decode cX11_ofFault 37 = .ok (.ifCond .ne 26, 3) := by decide +kernel
theorem dX11_ofFault_63 : decode cX11_ofFault 63 = .ok (.iconst 0, 1) := by decide +kernel
theorem dX11_ofFault_64 : decode cX11_ofFault 64 = .ok (.goto 13, 3) := by decide +kernel
theorem dX11_ofFault_77 : decode cX11_ofFault 77 = .ok (.ireturn, 1) := by decide +kernel
theorem dX11_many__0 : decode cX11_many_ 0 = .ok (.iconst 0, 1) := by decide +kernel
theorem dX11_many__1 : decode cX11_many_ 1 = .ok (.istore_n 3, 1) := by decide +kernel
theorem dX11_many__2 : decode cX11_many_ 2 = .ok (.iconst 0, 1) := by decide +kernel
theorem dX11_many__3 : decode cX11_many_ 3 = .ok (.istore 4, 2) := by decide +kernel
theorem dX11_many__5 : decode cX11_many_ 5 = .ok (.iload 4, 2) := by decide +kernel
theorem dX11_many__7 : decode cX11_many_ 7 = .ok (.aload_n 0, 1) := by decide +kernel
theorem dX11_many__8 : decode cX11_many_ 8 = .ok (.invokevirtual 34, 3) := by decide +kernel
theorem dX11_many__11 : decode cX11_many_ 11 = .ok (.if_icmp .ge 32, 3) := by decide +kernel
theorem dX11_many__43 : decode cX11_many_ 43 = .ok (.iload_n 3, 1) := by decide +kernel
theorem dX11_many__44 : decode cX11_many_ 44 = .ok (.ireturn, 1) := by decide +kernel
theorem dX11_faultsAt_0 : decode cX11_faultsAt 0 = .ok (.aload_n 0, 1) := by decide +kernel
theorem dX11_faultsAt_1 : decode cX11_faultsAt 1 = .ok (.iload_n 1, 1) := by decide +kernel
theorem dX11_faultsAt_2 : decode cX11_faultsAt 2 = .ok (.invokevirtual 77, 3) := by decide +kernel
theorem dX11_faultsAt_5 : decode cX11_faultsAt 5 = .ok (.ifCond .eq 7, 3) := by decide +kernel
theorem dX11_faultsAt_8 : decode cX11_faultsAt 8 = .ok (.iconst 0, 1) := by decide +kernel
theorem dX11_faultsAt_9 : decode cX11_faultsAt 9 = .ok (.goto 15, 3) := by decide +kernel
theorem dX11_faultsAt_24 : decode cX11_faultsAt 24 = .ok (.ireturn, 1) := by decide +kernel
theorem dX11_faultsOf_0 : decode cX11_faultsOf 0 = .ok (.aload_n 0, 1) := by decide +kernel
theorem dX11_faultsOf_1 : decode cX11_faultsOf 1 = .ok (.iload_n 1, 1) := by decide +kernel
theorem dX11_faultsOf_2 : decode cX11_faultsOf 2 = .ok (.iconst 1, 1) := by decide +kernel
theorem dX11_faultsOf_3 : decode cX11_faultsOf 3 = .ok (.bipush 6, 2) := by decide +kernel
theorem dX11_faultsOf_5 : decode cX11_faultsOf 5 = .ok (.invokestatic 27, 3) := by decide +kernel
theorem dX11_faultsOf_8 : decode cX11_faultsOf 8 = .ok (.ifCond .ne 7, 3) := by decide +kernel
theorem dX11_faultsOf_11 : decode cX11_faultsOf 11 = .ok (.iconst 1, 1) := by decide +kernel
theorem dX11_faultsOf_12 : decode cX11_faultsOf 12 = .ok (.goto 4, 3) := by decide +kernel
theorem dX11_faultsOf_15 : decode cX11_faultsOf 15 = .ok (.iconst 0, 1) := by decide +kernel
theorem dX11_faultsOf_16 : decode cX11_faultsOf 16 = .ok (.iconst 1, 1) := by decide +kernel
theorem dX11_faultsOf_17 : decode cX11_faultsOf 17 = .ok (.invokevirtual 31, 3) := by decide +kernel
theorem dX11_faultsOf_20 : decode cX11_faultsOf 20 = .ok (.ifCond .eq 7, 3) := by decide +kernel
theorem dX11_faultsOf_23 : decode cX11_faultsOf 23 = .ok (.iconst 0, 1) := by decide +kernel
theorem dX11_faultsOf_24 : decode cX11_faultsOf 24 = .ok (.goto 15, 3) := by decide +kernel
theorem dX11_faultsOf_27 : decode cX11_faultsOf 27 = .ok (.aload_n 0, 1) := by decide +kernel
theorem dX11_faultsOf_28 : decode cX11_faultsOf 28 = .ok (.invokevirtual 104, 3) := by decide +kernel
theorem dX11_faultsOf_31 : decode cX11_faultsOf 31 = .ok (.getfield 155, 3) := by decide +kernel
theorem dX11_faultsOf_34 : decode cX11_faultsOf 34 = .ok (.iconst 1, 1) := by decide +kernel
theorem dX11_faultsOf_35 : decode cX11_faultsOf 35 = .ok (.iload_n 1, 1) := by decide +kernel
theorem dX11_faultsOf_36 : decode cX11_faultsOf 36 = .ok (.invokestatic 159, 3) := by decide +kernel
theorem dX11_faultsOf_39 : decode cX11_faultsOf 39 = .ok (.ireturn, 1) := by decide +kernel
theorem dX11_without_0 : decode cX11_without 0 = .ok (.aload_n 0, 1) := by decide +kernel
theorem dX11_without_1 : decode cX11_without 1 = .ok (.iload_n 1, 1) := by decide +kernel
theorem dX11_without_2 : decode cX11_without 2 = .ok (.invokevirtual 77, 3) := by decide +kernel
theorem dX11_without_5 : decode cX11_without 5 = .ok (.ifCond .eq 7, 3) := by decide +kernel
theorem dX11_without_8 : decode cX11_without 8 = .ok (.iconst 0, 1) := by decide +kernel
theorem dX11_without_9 : decode cX11_without 9 = .ok (.goto 8, 3) := by decide +kernel
theorem dX11_without_17 : decode cX11_without 17 = .ok (.ireturn, 1) := by decide +kernel
theorem dX11_copied_0 : decode cX11_copied 0 = .ok (.aload_n 0, 1) := by decide +kernel
theorem dX11_copied_1 : decode cX11_copied 1 = .ok (.iload_n 1, 1) := by decide +kernel
theorem dX11_copied_2 : decode cX11_copied 2 = .ok (.invokevirtual 77, 3) := by decide +kernel
theorem dX11_copied_5 : decode cX11_copied 5 = .ok (.ifCond .eq 7, 3) := by decide +kernel
theorem dX11_copied_8 : decode cX11_copied 8 = .ok (.iconst 0, 1) := by decide +kernel
theorem dX11_copied_9 : decode cX11_copied 9 = .ok (.goto 19, 3) := by decide +kernel
theorem dX11_copied_28 : decode cX11_copied 28 = .ok (.ireturn, 1) := by decide +kernel
theorem dX11_culprit_0 : decode cX11_culprit 0 = .ok (.aload_n 0, 1) := by decide +kernel
theorem dX11_culprit_1 : decode cX11_culprit 1 = .ok (.iconst 0, 1) := by decide +kernel
theorem dX11_culprit_2 : decode cX11_culprit 2 = .ok (.putfield 19, 3) := by decide +kernel
theorem dX11_culprit_5 : decode cX11_culprit 5 = .ok (.iconst (-1), 1) := by decide +kernel
theorem dX11_culprit_6 : decode cX11_culprit 6 = .ok (.istore_n 1, 1) := by decide +kernel
theorem dX11_culprit_7 : decode cX11_culprit 7 = .ok (.aload_n 0, 1) := by decide +kernel
theorem dX11_culprit_8 : decode cX11_culprit 8 = .ok (.invokevirtual 104, 3) := by decide +kernel
theorem dX11_culprit_11 : decode cX11_culprit 11 = .ok (.getfield 155, 3) := by decide +kernel
theorem dX11_culprit_14 : decode cX11_culprit 14 = .ok (.invokevirtual 34, 3) := by decide +kernel
theorem dX11_culprit_17 : decode cX11_culprit 17 = .ok (.istore_n 2, 1) := by decide +kernel
theorem dX11_culprit_18 : decode cX11_culprit 18 = .ok (.iconst 0, 1) := by decide +kernel
theorem dX11_culprit_19 : decode cX11_culprit 19 = .ok (.istore_n 3, 1) := by decide +kernel
theorem dX11_culprit_20 : decode cX11_culprit 20 = .ok (.iload_n 3, 1) := by decide +kernel
theorem dX11_culprit_21 : decode cX11_culprit 21 = .ok (.aload_n 0, 1) := by decide +kernel
theorem dX11_culprit_22 : decode cX11_culprit 22 = .ok (.getfield 16, 3) := by decide +kernel
theorem dX11_culprit_25 : decode cX11_culprit 25 = .ok (.invokevirtual 34, 3) := by decide +kernel
theorem dX11_culprit_28 : decode cX11_culprit 28 = .ok (.if_icmp .ge 30, 3) := by decide +kernel
theorem dX11_culprit_58 : decode cX11_culprit 58 = .ok (.iload_n 1, 1) := by decide +kernel
theorem dX11_culprit_59 : decode cX11_culprit 59 = .ok (.ireturn, 1) := by decide +kernel
theorem dX11_density_0 : decode cX11_density 0 = .ok (.aload_n 0, 1) := by decide +kernel
theorem dX11_density_1 : decode cX11_density 1 = .ok (.iconst 0, 1) := by decide +kernel
theorem dX11_density_2 : decode cX11_density 2 = .ok (.putfield 19, 3) := by decide +kernel
theorem dX11_density_5 : decode cX11_density 5 = .ok (.aload_n 0, 1) := by decide +kernel
theorem dX11_density_6 : decode cX11_density 6 = .ok (.invokevirtual 104, 3) := by decide +kernel
theorem dX11_density_9 : decode cX11_density 9 = .ok (.astore_n 1, 1) := by decide +kernel
theorem dX11_density_10 : decode cX11_density 10 = .ok (.iconst 0, 1) := by decide +kernel
theorem dX11_density_11 : decode cX11_density 11 = .ok (.istore_n 2, 1) := by decide +kernel
theorem dX11_density_12 : decode cX11_density 12 = .ok (.iconst 0, 1) := by decide +kernel
theorem dX11_density_13 : decode cX11_density 13 = .ok (.istore_n 3, 1) := by decide +kernel
theorem dX11_density_14 : decode cX11_density 14 = .ok (.iload_n 3, 1) := by decide +kernel
theorem dX11_density_15 : decode cX11_density 15 = .ok (.aload_n 0, 1) := by decide +kernel
theorem dX11_density_16 : decode cX11_density 16 = .ok (.getfield 16, 3) := by decide +kernel
theorem dX11_density_19 : decode cX11_density 19 = .ok (.invokevirtual 34, 3) := by decide +kernel
theorem dX11_density_22 : decode cX11_density 22 = .ok (.if_icmp .ge 26, 3) := by decide +kernel
theorem dX11_density_48 : decode cX11_density 48 = .ok (.iload_n 2, 1) := by decide +kernel
theorem dX11_density_49 : decode cX11_density 49 = .ok (.ifCond .ne 7, 3) := by decide +kernel
theorem dX11_density_52 : decode cX11_density 52 = .ok (.dconst 0, 1) := by decide +kernel
theorem dX11_density_53 : decode cX11_density 53 = .ok (.goto 14, 3) := by decide +kernel
theorem dX11_density_67 : decode cX11_density 67 = .ok (.dreturn, 1) := by decide +kernel
theorem dX11_add__0 : decode cX11_add_ 0 = .ok (.lload_n 0, 1) := by decide +kernel
theorem dX11_add__1 : decode cX11_add_ 1 = .ok (.ldc2_w 165, 3) := by decide +kernel
theorem dX11_add__4 : decode cX11_add_ 4 = .ok (.lmul, 1) := by decide +kernel
theorem dX11_add__5 : decode cX11_add_ 5 = .ok (.lload_n 2, 1) := by decide +kernel
theorem dX11_add__6 : decode cX11_add_ 6 = .ok (.ladd, 1) := by decide +kernel
theorem dX11_add__7 : decode cX11_add_ 7 = .ok (.lreturn, 1) := by decide +kernel
theorem dX11_digest_0 : decode cX11_digest 0 = .ok (.aload_n 0, 1) := by decide +kernel
theorem dX11_digest_1 : decode cX11_digest 1 = .ok (.iconst 0, 1) := by decide +kernel
theorem dX11_digest_2 : decode cX11_digest 2 = .ok (.putfield 19, 3) := by decide +kernel
theorem dX11_digest_5 : decode cX11_digest 5 = .ok (.aload_n 0, 1) := by decide +kernel
theorem dX11_digest_6 : decode cX11_digest 6 = .ok (.invokevirtual 104, 3) := by decide +kernel
theorem dX11_digest_9 : decode cX11_digest 9 = .ok (.astore_n 1, 1) := by decide +kernel
theorem dX11_digest_10 : decode cX11_digest 10 = .ok (.ldc2_w 167, 3) := by decide +kernel
theorem dX11_digest_13 : decode cX11_digest 13 = .ok (.aload_n 0, 1) := by decide +kernel
theorem dX11_digest_14 : decode cX11_digest 14 = .ok (.getfield 10, 3) := by decide +kernel
theorem dX11_digest_17 : decode cX11_digest 17 = .ok (.invokevirtual 34, 3) := by decide +kernel
theorem dX11_digest_20 : decode cX11_digest 20 = .ok (.i2l, 1) := by decide +kernel
theorem dX11_digest_21 : decode cX11_digest 21 = .ok (.invokestatic 169, 3) := by decide +kernel
theorem dX11_digest_24 : decode cX11_digest 24 = .ok (.aload_n 0, 1) := by decide +kernel
theorem dX11_digest_25 : decode cX11_digest 25 = .ok (.getfield 16, 3) := by decide +kernel
theorem dX11_digest_28 : decode cX11_digest 28 = .ok (.invokevirtual 34, 3) := by decide +kernel
theorem dX11_digest_31 : decode cX11_digest 31 = .ok (.i2l, 1) := by decide +kernel
theorem dX11_digest_32 : decode cX11_digest 32 = .ok (.invokestatic 169, 3) := by decide +kernel
theorem dX11_digest_35 : decode cX11_digest 35 = .ok (.aload_n 0, 1) := by decide +kernel
theorem dX11_digest_36 : decode cX11_digest 36 = .ok (.aload_n 1, 1) := by decide +kernel
theorem dX11_digest_37 : decode cX11_digest 37 = .ok (.invokevirtual 144, 3) := by decide +kernel
theorem dX11_digest_40 : decode cX11_digest 40 = .ok (.i2l, 1) := by decide +kernel
theorem dX11_digest_41 : decode cX11_digest 41 = .ok (.invokestatic 169, 3) := by decide +kernel
theorem dX11_digest_44 : decode cX11_digest 44 = .ok (.aload_n 1, 1) := by decide +kernel
theorem dX11_digest_45 : decode cX11_digest 45 = .ok (.getfield 155, 3) := by decide +kernel
theorem dX11_digest_48 : decode cX11_digest 48 = .ok (.invokevirtual 34, 3) := by decide +kernel
theorem dX11_digest_51 : decode cX11_digest 51 = .ok (.i2l, 1) := by decide +kernel
theorem dX11_digest_52 : decode cX11_digest 52 = .ok (.invokestatic 169, 3) := by decide +kernel
theorem dX11_digest_55 : decode cX11_digest 55 = .ok (.lstore_n 2, 1) := by decide +kernel
theorem dX11_digest_56 : decode cX11_digest 56 = .ok (.iconst 0, 1) := by decide +kernel
theorem dX11_digest_57 : decode cX11_digest 57 = .ok (.istore 4, 2) := by decide +kernel
theorem dX11_digest_59 : decode cX11_digest 59 = .ok (.iload 4, 2) := by decide +kernel
theorem dX11_digest_61 : decode cX11_digest 61 = .ok (.aload_n 0, 1) := by decide +kernel
theorem dX11_digest_62 : decode cX11_digest 62 = .ok (.getfield 16, 3) := by decide +kernel
theorem dX11_digest_65 : decode cX11_digest 65 = .ok (.invokevirtual 34, 3) := by decide +kernel
theorem dX11_digest_68 : decode cX11_digest 68 = .ok (.if_icmp .ge 120, 3) := by decide +kernel
theorem dX11_digest_188 : decode cX11_digest 188 = .ok (.iconst 0, 1) := by decide +kernel
theorem dX11_digest_189 : decode cX11_digest 189 = .ok (.istore 4, 2) := by decide +kernel
theorem dX11_digest_191 : decode cX11_digest 191 = .ok (.iload 4, 2) := by decide +kernel
theorem dX11_digest_193 : decode cX11_digest 193 = .ok (.aload_n 1, 1) := by decide +kernel
theorem dX11_digest_194 : decode cX11_digest 194 = .ok (.getfield 155, 3) := by decide +kernel
theorem dX11_digest_197 : decode cX11_digest 197 = .ok (.invokevirtual 34, 3) := by decide +kernel
theorem dX11_digest_200 : decode cX11_digest 200 = .ok (.if_icmp .ge 46, 3) := by decide +kernel
theorem dX11_digest_246 : decode cX11_digest 246 = .ok (.iconst 1, 1) := by decide +kernel
theorem dX11_digest_247 : decode cX11_digest 247 = .ok (.istore 4, 2) := by decide +kernel
theorem dX11_digest_249 : decode cX11_digest 249 = .ok (.iload 4, 2) := by decide +kernel
theorem dX11_digest_251 : decode cX11_digest 251 = .ok (.bipush 6, 2) := by decide +kernel
theorem dX11_digest_253 : decode cX11_digest 253 = .ok (.if_icmp .gt 25, 3) := by decide +kernel
theorem dX11_digest_256 : decode cX11_digest 256 = .ok (.lload_n 2, 1) := by decide +kernel
theorem dX11_digest_257 : decode cX11_digest 257 = .ok (.aload_n 1, 1) := by decide +kernel
theorem dX11_digest_258 : decode cX11_digest 258 = .ok (.getfield 155, 3) := by decide +kernel
theorem dX11_digest_261 : decode cX11_digest 261 = .ok (.iconst 1, 1) := by decide +kernel
theorem dX11_digest_262 : decode cX11_digest 262 = .ok (.iload 4, 2) := by decide +kernel
theorem dX11_digest_264 : decode cX11_digest 264 = .ok (.invokestatic 159, 3) := by decide +kernel
theorem dX11_digest_267 : decode cX11_digest 267 = .ok (.i2l, 1) := by decide +kernel
theorem dX11_digest_268 : decode cX11_digest 268 = .ok (.invokestatic 169, 3) := by decide +kernel
theorem dX11_digest_271 : decode cX11_digest 271 = .ok (.lstore_n 2, 1) := by decide +kernel
theorem dX11_digest_272 : decode cX11_digest 272 = .ok (.iinc 4 1, 3) := by decide +kernel
theorem dX11_digest_275 : decode cX11_digest 275 = .ok (.goto (-26), 3) := by decide +kernel
theorem dX11_digest_278 : decode cX11_digest 278 = .ok (.lload_n 2, 1) := by decide +kernel
theorem dX11_digest_279 : decode cX11_digest 279 = .ok (.lreturn, 1) := by decide +kernel
theorem dJ13_bitCount_95d88_0 : decode cJ13_bitCount_95d88 0 = .ok (.lload_n 0, 1) := by decide +kernel
theorem dJ13_bitCount_95d88_1 : decode cJ13_bitCount_95d88 1 = .ok (.lload_n 0, 1) := by decide +kernel
theorem dJ13_bitCount_95d88_2 : decode cJ13_bitCount_95d88 2 = .ok (.iconst 1, 1) := by decide +kernel
theorem dJ13_bitCount_95d88_3 : decode cJ13_bitCount_95d88 3 = .ok (.lushr, 1) := by decide +kernel
theorem dJ13_bitCount_95d88_4 : decode cJ13_bitCount_95d88 4 = .ok (.ldc2_w 314, 3) := by decide +kernel
theorem dJ13_bitCount_95d88_7 : decode cJ13_bitCount_95d88 7 = .ok (.land, 1) := by decide +kernel
theorem dJ13_bitCount_95d88_8 : decode cJ13_bitCount_95d88 8 = .ok (.lsub, 1) := by decide +kernel
theorem dJ13_bitCount_95d88_9 : decode cJ13_bitCount_95d88 9 = .ok (.lstore_n 0, 1) := by decide +kernel
theorem dJ13_bitCount_95d88_10 : decode cJ13_bitCount_95d88 10 = .ok (.lload_n 0, 1) := by decide +kernel
theorem dJ13_bitCount_95d88_11 : decode cJ13_bitCount_95d88 11 = .ok (.ldc2_w 316, 3) := by decide +kernel
theorem dJ13_bitCount_95d88_14 : decode cJ13_bitCount_95d88 14 = .ok (.land, 1) := by decide +kernel
theorem dJ13_bitCount_95d88_15 : decode cJ13_bitCount_95d88 15 = .ok (.lload_n 0, 1) := by decide +kernel
theorem dJ13_bitCount_95d88_16 : decode cJ13_bitCount_95d88 16 = .ok (.iconst 2, 1) := by decide +kernel
theorem dJ13_bitCount_95d88_17 : decode cJ13_bitCount_95d88 17 = .ok (.lushr, 1) := by decide +kernel
theorem dJ13_bitCount_95d88_18 : decode cJ13_bitCount_95d88 18 = .ok (.ldc2_w 316, 3) := by decide +kernel
theorem dJ13_bitCount_95d88_21 : decode cJ13_bitCount_95d88 21 = .ok (.land, 1) := by decide +kernel
theorem dJ13_bitCount_95d88_22 : decode cJ13_bitCount_95d88 22 = .ok (.ladd, 1) := by decide +kernel
theorem dJ13_bitCount_95d88_23 : decode cJ13_bitCount_95d88 23 = .ok (.lstore_n 0, 1) := by decide +kernel
theorem dJ13_bitCount_95d88_24 : decode cJ13_bitCount_95d88 24 = .ok (.lload_n 0, 1) := by decide +kernel
theorem dJ13_bitCount_95d88_25 : decode cJ13_bitCount_95d88 25 = .ok (.lload_n 0, 1) := by decide +kernel
theorem dJ13_bitCount_95d88_26 : decode cJ13_bitCount_95d88 26 = .ok (.iconst 4, 1) := by decide +kernel
theorem dJ13_bitCount_95d88_27 : decode cJ13_bitCount_95d88 27 = .ok (.lushr, 1) := by decide +kernel
theorem dJ13_bitCount_95d88_28 : decode cJ13_bitCount_95d88 28 = .ok (.ladd, 1) := by decide +kernel
theorem dJ13_bitCount_95d88_29 : decode cJ13_bitCount_95d88 29 = .ok (.ldc2_w 318, 3) := by decide +kernel
theorem dJ13_bitCount_95d88_32 : decode cJ13_bitCount_95d88 32 = .ok (.land, 1) := by decide +kernel
theorem dJ13_bitCount_95d88_33 : decode cJ13_bitCount_95d88 33 = .ok (.lstore_n 0, 1) := by decide +kernel
theorem dJ13_bitCount_95d88_34 : decode cJ13_bitCount_95d88 34 = .ok (.lload_n 0, 1) := by decide +kernel
theorem dJ13_bitCount_95d88_35 : decode cJ13_bitCount_95d88 35 = .ok (.lload_n 0, 1) := by decide +kernel
theorem dJ13_bitCount_95d88_36 : decode cJ13_bitCount_95d88 36 = .ok (.bipush 8, 2) := by decide +kernel
theorem dJ13_bitCount_95d88_38 : decode cJ13_bitCount_95d88 38 = .ok (.lushr, 1) := by decide +kernel
theorem dJ13_bitCount_95d88_39 : decode cJ13_bitCount_95d88 39 = .ok (.ladd, 1) := by decide +kernel
theorem dJ13_bitCount_95d88_40 : decode cJ13_bitCount_95d88 40 = .ok (.lstore_n 0, 1) := by decide +kernel
theorem dJ13_bitCount_95d88_41 : decode cJ13_bitCount_95d88 41 = .ok (.lload_n 0, 1) := by decide +kernel
theorem dJ13_bitCount_95d88_42 : decode cJ13_bitCount_95d88 42 = .ok (.lload_n 0, 1) := by decide +kernel
theorem dJ13_bitCount_95d88_43 : decode cJ13_bitCount_95d88 43 = .ok (.bipush 16, 2) := by decide +kernel
theorem dJ13_bitCount_95d88_45 : decode cJ13_bitCount_95d88 45 = .ok (.lushr, 1) := by decide +kernel
theorem dJ13_bitCount_95d88_46 : decode cJ13_bitCount_95d88 46 = .ok (.ladd, 1) := by decide +kernel
theorem dJ13_bitCount_95d88_47 : decode cJ13_bitCount_95d88 47 = .ok (.lstore_n 0, 1) := by decide +kernel
theorem dJ13_bitCount_95d88_48 : decode cJ13_bitCount_95d88 48 = .ok (.lload_n 0, 1) := by decide +kernel
theorem dJ13_bitCount_95d88_49 : decode cJ13_bitCount_95d88 49 = .ok (.lload_n 0, 1) := by decide +kernel
theorem dJ13_bitCount_95d88_50 : decode cJ13_bitCount_95d88 50 = .ok (.bipush 32, 2) := by decide +kernel
theorem dJ13_bitCount_95d88_52 : decode cJ13_bitCount_95d88 52 = .ok (.lushr, 1) := by decide +kernel
theorem dJ13_bitCount_95d88_53 : decode cJ13_bitCount_95d88 53 = .ok (.ladd, 1) := by decide +kernel
theorem dJ13_bitCount_95d88_54 : decode cJ13_bitCount_95d88 54 = .ok (.lstore_n 0, 1) := by decide +kernel
theorem dJ13_bitCount_95d88_55 : decode cJ13_bitCount_95d88 55 = .ok (.lload_n 0, 1) := by decide +kernel
theorem dJ13_bitCount_95d88_56 : decode cJ13_bitCount_95d88 56 = .ok (.l2i, 1) := by decide +kernel
theorem dJ13_bitCount_95d88_57 : decode cJ13_bitCount_95d88 57 = .ok (.bipush 127, 2) := by decide +kernel
theorem dJ13_bitCount_95d88_59 : decode cJ13_bitCount_95d88 59 = .ok (.iand, 1) := by decide +kernel
theorem dJ13_bitCount_95d88_60 : decode cJ13_bitCount_95d88 60 = .ok (.ireturn, 1) := by decide +kernel
theorem dJxa1e45_init_da8c8_0 : decode cJxa1e45_init_da8c8 0 = .ok (.aload_n 0, 1) := by decide +kernel
theorem dJxa1e45_init_da8c8_1 : decode cJxa1e45_init_da8c8 1 = .ok (.invokespecial 1, 3) := by decide +kernel
theorem dJxa1e45_init_da8c8_4 : decode cJxa1e45_init_da8c8 4 = .ok (.return_, 1) := by decide +kernel
theorem dJxc12de_init_da8c8_0 : decode cJxc12de_init_da8c8 0 = .ok (.aload_n 0, 1) := by decide +kernel
theorem dJxc12de_init_da8c8_1 : decode cJxc12de_init_da8c8 1 = .ok (.invokespecial 1, 3) := by decide +kernel
theorem dJxc12de_init_da8c8_4 : decode cJxc12de_init_da8c8 4 = .ok (.aload_n 0, 1) := by decide +kernel
theorem dJxc12de_init_da8c8_5 : decode cJxc12de_init_da8c8 5 = .ok (.iconst 0, 1) := by decide +kernel
theorem dJxc12de_init_da8c8_6 : decode cJxc12de_init_da8c8 6 = .ok (.putfield 7, 3) := by decide +kernel
theorem dJxc12de_init_da8c8_9 : decode cJxc12de_init_da8c8 9 = .ok (.return_, 1) := by decide +kernel
theorem dJx4a65c_init_da8c8_0 : decode cJx4a65c_init_da8c8 0 = .ok (.aload_n 0, 1) := by decide +kernel
theorem dJx4a65c_init_da8c8_1 : decode cJx4a65c_init_da8c8 1 = .ok (.invokespecial 1, 3) := by decide +kernel
theorem dJx4a65c_init_da8c8_4 : decode cJx4a65c_init_da8c8 4 = .ok (.aload_n 0, 1) := by decide +kernel
theorem dJx4a65c_init_da8c8_5 : decode cJx4a65c_init_da8c8 5 = .ok (.getstatic 39, 3) := by decide +kernel
theorem dJx4a65c_init_da8c8_8 : decode cJx4a65c_init_da8c8 8 = .ok (.putfield 9, 3) := by decide +kernel
theorem dJx4a65c_init_da8c8_11 : decode cJx4a65c_init_da8c8 11 = .ok (.return_, 1) := by decide +kernel
theorem dJx4a65c_grow_92f84_0 : decode cJx4a65c_grow_92f84 0 = .ok (.aload_n 0, 1) := by decide +kernel
theorem dJx4a65c_grow_92f84_1 : decode cJx4a65c_grow_92f84 1 = .ok (.getfield 9, 3) := by decide +kernel
theorem dJx4a65c_grow_92f84_4 : decode cJx4a65c_grow_92f84 4 = .ok (.arraylength, 1) := by decide +kernel
theorem dJx4a65c_grow_92f84_5 : decode cJx4a65c_grow_92f84 5 = .ok (.istore_n 2, 1) := by decide +kernel
theorem dJx4a65c_grow_92f84_6 : decode cJx4a65c_grow_92f84 6 = .ok (.iload_n 2, 1) := by decide +kernel
theorem dJx4a65c_grow_92f84_7 : decode cJx4a65c_grow_92f84 7 = .ok (.ifCond .gt 13, 3) := by decide +kernel
theorem dJx4a65c_grow_92f84_10 : decode cJx4a65c_grow_92f84 10 = .ok (.aload_n 0, 1) := by decide +kernel
theorem dJx4a65c_grow_92f84_11 : decode cJx4a65c_grow_92f84 11 = .ok (.getfield 9, 3) := by decide +kernel
theorem dJx4a65c_grow_92f84_14 : decode cJx4a65c_grow_92f84 14 = .ok (.getstatic 39, 3) := by decide +kernel
theorem dJx4a65c_grow_92f84_17 : decode cJx4a65c_grow_92f84 17 = .ok (.if_acmp .eq 28, 3) := by decide +kernel
theorem dJx4a65c_grow_92f84_45 : decode cJx4a65c_grow_92f84 45 = .ok (.aload_n 0, 1) := by decide +kernel
theorem dJx4a65c_grow_92f84_46 : decode cJx4a65c_grow_92f84 46 = .ok (.bipush 10, 2) := by decide +kernel
theorem dJx4a65c_grow_92f84_48 : decode cJx4a65c_grow_92f84 48 = .ok (.iload_n 1, 1) := by decide +kernel
theorem dJx4a65c_grow_92f84_49 : decode cJx4a65c_grow_92f84 49 = .ok (.invokestatic 79, 3) := by decide +kernel
theorem dJx4a65c_grow_92f84_52 : decode cJx4a65c_grow_92f84 52 = .ok (.anewarray 7, 3) := by decide +kernel
theorem dJx4a65c_grow_92f84_55 : decode cJx4a65c_grow_92f84 55 = .ok (.dup_x1, 1) := by decide +kernel
theorem dJx4a65c_grow_92f84_56 : decode cJx4a65c_grow_92f84 56 = .ok (.putfield 9, 3) := by decide +kernel
theorem dJx4a65c_grow_92f84_59 : decode cJx4a65c_grow_92f84 59 = .ok (.areturn, 1) := by decide +kernel
theorem dJx4a65c_grow_d5877_0 : decode cJx4a65c_grow_d5877 0 = .ok (.aload_n 0, 1) := by decide +kernel
theorem dJx4a65c_grow_d5877_1 : decode cJx4a65c_grow_d5877 1 = .ok (.aload_n 0, 1) := by decide +kernel
theorem dJx4a65c_grow_d5877_2 : decode cJx4a65c_grow_d5877 2 = .ok (.getfield 48, 3) := by decide +kernel
theorem dJx4a65c_grow_d5877_5 : decode cJx4a65c_grow_d5877 5 = .ok (.iconst 1, 1) := by decide +kernel
theorem dJx4a65c_grow_d5877_6 : decode cJx4a65c_grow_d5877 6 = .ok (.iadd, 1) := by decide +kernel
theorem dJx4a65c_grow_d5877_7 : decode cJx4a65c_grow_d5877 7 = .ok (.invokevirtual 69, 3) := by decide +kernel
theorem dJx4a65c_grow_d5877_10 : decode cJx4a65c_grow_d5877 10 = .ok (.areturn, 1) := by decide +kernel
theorem dJx4a65c_size_8abf5_0 : decode cJx4a65c_size_8abf5 0 = .ok (.aload_n 0, 1) := by decide +kernel
theorem dJx4a65c_size_8abf5_1 : decode cJx4a65c_size_8abf5 1 = .ok (.getfield 48, 3) := by decide +kernel
theorem dJx4a65c_size_8abf5_4 : decode cJx4a65c_size_8abf5 4 = .ok (.ireturn, 1) := by decide +kernel
theorem dJx4a65c_isEmpty_aae02_0 : decode cJx4a65c_isEmpty_aae02 0 = .ok (.aload_n 0, 1) := by decide +kernel
theorem dJx4a65c_isEmpty_aae02_1 : decode cJx4a65c_isEmpty_aae02 1 = .ok (.getfield 48, 3) := by decide +kernel
theorem dJx4a65c_isEmpty_aae02_4 : decode cJx4a65c_isEmpty_aae02 4 = .ok (.ifCond .ne 7, 3) := by decide +kernel
theorem dJx4a65c_isEmpty_aae02_7 : decode cJx4a65c_isEmpty_aae02 7 = .ok (.iconst 1, 1) := by decide +kernel
theorem dJx4a65c_isEmpty_aae02_8 : decode cJx4a65c_isEmpty_aae02 8 = .ok (.goto 4, 3) := by decide +kernel
theorem dJx4a65c_isEmpty_aae02_12 : decode cJx4a65c_isEmpty_aae02 12 = .ok (.ireturn, 1) := by decide +kernel
theorem dJx4a65c_add_72be8_0 : decode cJx4a65c_add_72be8 0 = .ok (.iload_n 3, 1) := by decide +kernel
theorem dJx4a65c_add_72be8_1 : decode cJx4a65c_add_72be8 1 = .ok (.aload_n 2, 1) := by decide +kernel
theorem dJx4a65c_add_72be8_2 : decode cJx4a65c_add_72be8 2 = .ok (.arraylength, 1) := by decide +kernel
theorem dJx4a65c_add_72be8_3 : decode cJx4a65c_add_72be8 3 = .ok (.if_icmp .ne 8, 3) := by decide +kernel
theorem dJx4a65c_add_72be8_6 : decode cJx4a65c_add_72be8 6 = .ok (.aload_n 0, 1) := by decide +kernel
theorem dJx4a65c_add_72be8_7 : decode cJx4a65c_add_72be8 7 = .ok (.invokevirtual 129, 3) := by decide +kernel
theorem dJx4a65c_add_72be8_10 : decode cJx4a65c_add_72be8 10 = .ok (.astore_n 2, 1) := by decide +kernel
theorem dJx4a65c_add_72be8_11 : decode cJx4a65c_add_72be8 11 = .ok (.aload_n 2, 1) := by decide +kernel
theorem dJx4a65c_add_72be8_12 : decode cJx4a65c_add_72be8 12 = .ok (.iload_n 3, 1) := by decide +kernel
theorem dJx4a65c_add_72be8_13 : decode cJx4a65c_add_72be8 13 = .ok (.aload_n 1, 1) := by decide +kernel
theorem dJx4a65c_add_72be8_14 : decode cJx4a65c_add_72be8 14 = .ok (.aastore, 1) := by decide +kernel
theorem dJx4a65c_add_72be8_15 : decode cJx4a65c_add_72be8 15 = .ok (.aload_n 0, 1) := by decide +kernel
theorem dJx4a65c_add_72be8_16 : decode cJx4a65c_add_72be8 16 = .ok (.iload_n 3, 1) := by decide +kernel
theorem dJx4a65c_add_72be8_17 : decode cJx4a65c_add_72be8 17 = .ok (.iconst 1, 1) := by decide +kernel
theorem dJx4a65c_add_72be8_18 : decode cJx4a65c_add_72be8 18 = .ok (.iadd, 1) := by decide +kernel
theorem dJx4a65c_add_72be8_19 : decode cJx4a65c_add_72be8 19 = .ok (.putfield 48, 3) := by decide +kernel
theorem dJx4a65c_add_72be8_22 : decode cJx4a65c_add_72be8 22 = .ok (.return_, 1) := by decide +kernel
theorem dJx4a65c_add_9ea2d_0 : decode cJx4a65c_add_9ea2d 0 = .ok (.aload_n 0, 1) := by decide +kernel
theorem dJx4a65c_add_9ea2d_1 : decode cJx4a65c_add_9ea2d 1 = .ok (.dup, 1) := by decide +kernel
theorem dJx4a65c_add_9ea2d_2 : decode cJx4a65c_add_9ea2d 2 = .ok (.getfield 63, 3) := by decide +kernel
theorem dJx4a65c_add_9ea2d_5 : decode cJx4a65c_add_9ea2d 5 = .ok (.iconst 1, 1) := by decide +kernel
theorem dJx4a65c_add_9ea2d_6 : decode cJx4a65c_add_9ea2d 6 = .ok (.iadd, 1) := by decide +kernel
theorem dJx4a65c_add_9ea2d_7 : decode cJx4a65c_add_9ea2d 7 = .ok (.putfield 63, 3) := by decide +kernel
theorem dJx4a65c_add_9ea2d_10 : decode cJx4a65c_add_9ea2d 10 = .ok (.aload_n 0, 1) := by decide +kernel
theorem dJx4a65c_add_9ea2d_11 : decode cJx4a65c_add_9ea2d 11 = .ok (.aload_n 1, 1) := by decide +kernel
theorem dJx4a65c_add_9ea2d_12 : decode cJx4a65c_add_9ea2d 12 = .ok (.aload_n 0, 1) := by decide +kernel
theorem dJx4a65c_add_9ea2d_13 : decode cJx4a65c_add_9ea2d 13 = .ok (.getfield 9, 3) := by decide +kernel
theorem dJx4a65c_add_9ea2d_16 : decode cJx4a65c_add_9ea2d 16 = .ok (.aload_n 0, 1) := by decide +kernel
theorem dJx4a65c_add_9ea2d_17 : decode cJx4a65c_add_9ea2d 17 = .ok (.getfield 48, 3) := by decide +kernel
theorem dJx4a65c_add_9ea2d_20 : decode cJx4a65c_add_9ea2d 20 = .ok (.invokevirtual 131, 3) := by decide +kernel
theorem dJx4a65c_add_9ea2d_23 : decode cJx4a65c_add_9ea2d 23 = .ok (.iconst 1, 1) := by decide +kernel
theorem dJx4a65c_add_9ea2d_24 : decode cJx4a65c_add_9ea2d 24 = .ok (.ireturn, 1) := by decide +kernel
theorem dL_variable_0 : decode cL_variable 0 = .ok (.aload_n 3, 1) := by decide +kernel
theorem dL_variable_1 : decode cL_variable 1 = .ok (.iconst 0, 1) := by decide +kernel
theorem dL_variable_2 : decode cL_variable 2 = .ok (.aload_n 0, 1) := by decide +kernel
theorem dL_variable_3 : decode cL_variable 3 = .ok (.iload_n 1, 1) := by decide +kernel
theorem dL_variable_4 : decode cL_variable 4 = .ok (.iload_n 2, 1) := by decide +kernel
theorem dL_variable_5 : decode cL_variable 5 = .ok (.invokevirtual 7, 3) := by decide +kernel
theorem dL_variable_8 : decode cL_variable 8 = .ok (.i2l, 1) := by decide +kernel
theorem dL_variable_9 : decode cL_variable 9 = .ok (.lastore, 1) := by decide +kernel
theorem dL_variable_10 : decode cL_variable 10 = .ok (.goto 11, 3) := by decide +kernel
theorem dL_variable_13 : decode cL_variable 13 = .ok (.astore 4, 2) := by decide +kernel
theorem dL_variable_15 : decode cL_variable 15 = .ok (.iconst 1, 1) := by decide +kernel
theorem dL_variable_16 : decode cL_variable 16 = .ok (.ireturn, 1) := by decide +kernel
theorem dL_variable_21 : decode cL_variable 21 = .ok (.iconst 0, 1) := by decide +kernel
theorem dL_variable_22 : decode cL_variable 22 = .ok (.ireturn, 1) := by decide +kernel
theorem dL_write_0 : decode cL_write 0 = .ok (.aload_n 3, 1) := by decide +kernel
theorem dL_write_1 : decode cL_write 1 = .ok (.iconst 0, 1) := by decide +kernel
theorem dL_write_2 : decode cL_write 2 = .ok (.aload_n 0, 1) := by decide +kernel
theorem dL_write_3 : decode cL_write 3 = .ok (.iload_n 1, 1) := by decide +kernel
theorem dL_write_4 : decode cL_write 4 = .ok (.iload_n 2, 1) := by decide +kernel
theorem dL_write_5 : decode cL_write 5 = .ok (.invokevirtual 17, 3) := by decide +kernel
theorem dL_write_13 : decode cL_write 13 = .ok (.astore 4, 2) := by decide +kernel
theorem dL_write_15 : decode cL_write 15 = .ok (.iconst 1, 1) := by decide +kernel
theorem dL_write_16 : decode cL_write 16 = .ok (.ireturn, 1) := by decide +kernel
theorem dL_move_0 : decode cL_move 0 = .ok (.aload 4, 2) := by decide +kernel
theorem dL_move_2 : decode cL_move 2 = .ok (.iconst 0, 1) := by decide +kernel
theorem dL_move_3 : decode cL_move 3 = .ok (.aload_n 0, 1) := by decide +kernel
theorem dL_move_4 : decode cL_move 4 = .ok (.iload_n 1, 1) := by decide +kernel
theorem dL_move_5 : decode cL_move 5 = .ok (.iload_n 2, 1) := by decide +kernel
theorem dL_move_6 : decode cL_move 6 = .ok (.iload_n 3, 1) := by decide +kernel
theorem dL_move_7 : decode cL_move 7 = .ok (.invokevirtual 23, 3) := by decide +kernel
theorem dL_move_15 : decode cL_move 15 = .ok (.astore 5, 2) := by decide +kernel
theorem dL_move_17 : decode cL_move 17 = .ok (.iconst 1, 1) := by decide +kernel
theorem dL_move_18 : decode cL_move 18 = .ok (.ireturn, 1) := by decide +kernel
theorem dL_lend_0 : decode cL_lend 0 = .ok (.aload 4, 2) := by decide +kernel
theorem dL_lend_2 : decode cL_lend 2 = .ok (.iconst 0, 1) := by decide +kernel
theorem dL_lend_3 : decode cL_lend 3 = .ok (.aload_n 0, 1) := by decide +kernel
theorem dL_lend_4 : decode cL_lend 4 = .ok (.iload_n 1, 1) := by decide +kernel
theorem dL_lend_5 : decode cL_lend 5 = .ok (.iload_n 2, 1) := by decide +kernel
theorem dL_lend_6 : decode cL_lend 6 = .ok (.iload_n 3, 1) := by decide +kernel
theorem dL_lend_7 : decode cL_lend 7 = .ok (.invokevirtual 27, 3) := by decide +kernel
theorem dL_lend_15 : decode cL_lend 15 = .ok (.astore 5, 2) := by decide +kernel
theorem dL_lend_17 : decode cL_lend 17 = .ok (.iconst 1, 1) := by decide +kernel
theorem dL_lend_18 : decode cL_lend 18 = .ok (.ireturn, 1) := by decide +kernel
theorem dL_relend_0 : decode cL_relend 0 = .ok (.aload_n 3, 1) := by decide +kernel
theorem dL_relend_1 : decode cL_relend 1 = .ok (.iconst 0, 1) := by decide +kernel
theorem dL_relend_2 : decode cL_relend 2 = .ok (.aload_n 0, 1) := by decide +kernel
theorem dL_relend_3 : decode cL_relend 3 = .ok (.iload_n 1, 1) := by decide +kernel
theorem dL_relend_4 : decode cL_relend 4 = .ok (.iload_n 2, 1) := by decide +kernel
theorem dL_relend_5 : decode cL_relend 5 = .ok (.invokevirtual 30, 3) := by decide +kernel
theorem dL_relend_13 : decode cL_relend 13 = .ok (.astore 4, 2) := by decide +kernel
theorem dL_relend_15 : decode cL_relend 15 = .ok (.iconst 1, 1) := by decide +kernel
theorem dL_relend_16 : decode cL_relend 16 = .ok (.ireturn, 1) := by decide +kernel
theorem dL_read_0 : decode cL_read 0 = .ok (.aload_n 3, 1) := by decide +kernel
theorem dL_read_1 : decode cL_read 1 = .ok (.iconst 0, 1) := by decide +kernel
theorem dL_read_2 : decode cL_read 2 = .ok (.aload_n 0, 1) := by decide +kernel
theorem dL_read_3 : decode cL_read 3 = .ok (.iload_n 1, 1) := by decide +kernel
theorem dL_read_4 : decode cL_read 4 = .ok (.iload_n 2, 1) := by decide +kernel
theorem dL_read_5 : decode cL_read 5 = .ok (.invokevirtual 33, 3) := by decide +kernel
theorem dL_read_13 : decode cL_read 13 = .ok (.astore 4, 2) := by decide +kernel
theorem dL_read_15 : decode cL_read 15 = .ok (.iconst 1, 1) := by decide +kernel
theorem dL_read_16 : decode cL_read 16 = .ok (.ireturn, 1) := by decide +kernel
theorem dL_drop_0 : decode cL_drop 0 = .ok (.aload_n 2, 1) := by decide +kernel
theorem dL_drop_1 : decode cL_drop 1 = .ok (.iconst 0, 1) := by decide +kernel
theorem dL_drop_2 : decode cL_drop 2 = .ok (.aload_n 0, 1) := by decide +kernel
theorem dL_drop_3 : decode cL_drop 3 = .ok (.iload_n 1, 1) := by decide +kernel
theorem dL_drop_4 : decode cL_drop 4 = .ok (.invokevirtual 36, 3) := by decide +kernel
theorem dL_drop_12 : decode cL_drop 12 = .ok (.astore_n 3, 1) := by decide +kernel
theorem dL_drop_13 : decode cL_drop 13 = .ok (.iconst 1, 1) := by decide +kernel
theorem dL_drop_14 : decode cL_drop 14 = .ok (.ireturn, 1) := by decide +kernel
theorem dL_call_0 : decode cL_call 0 = .ok (.aload 5, 2) := by decide +kernel
theorem dL_call_2 : decode cL_call 2 = .ok (.iconst 0, 1) := by decide +kernel
theorem dL_call_3 : decode cL_call 3 = .ok (.aload_n 0, 1) := by decide +kernel
theorem dL_call_4 : decode cL_call 4 = .ok (.iload_n 1, 1) := by decide +kernel
theorem dL_call_5 : decode cL_call 5 = .ok (.iload_n 2, 1) := by decide +kernel
theorem dL_call_6 : decode cL_call 6 = .ok (.iload_n 3, 1) := by decide +kernel
theorem dL_call_7 : decode cL_call 7 = .ok (.iload 4, 2) := by decide +kernel
theorem dL_call_9 : decode cL_call 9 = .ok (.invokevirtual 40, 3) := by decide +kernel
theorem dL_call_17 : decode cL_call 17 = .ok (.astore 6, 2) := by decide +kernel
theorem dL_call_19 : decode cL_call 19 = .ok (.iconst 1, 1) := by decide +kernel
theorem dL_call_20 : decode cL_call 20 = .ok (.ireturn, 1) := by decide +kernel
theorem dL_branch_0 : decode cL_branch 0 = .ok (.aload_n 3, 1) := by decide +kernel
theorem dL_branch_1 : decode cL_branch 1 = .ok (.iconst 0, 1) := by decide +kernel
theorem dL_branch_2 : decode cL_branch 2 = .ok (.aload_n 0, 1) := by decide +kernel
theorem dL_branch_3 : decode cL_branch 3 = .ok (.iload_n 1, 1) := by decide +kernel
theorem dL_branch_4 : decode cL_branch 4 = .ok (.iload_n 2, 1) := by decide +kernel
theorem dL_branch_5 : decode cL_branch 5 = .ok (.invokevirtual 44, 3) := by decide +kernel
theorem dL_branch_8 : decode cL_branch 8 = .ok (.i2l, 1) := by decide +kernel
theorem dL_branch_9 : decode cL_branch 9 = .ok (.lastore, 1) := by decide +kernel
theorem dL_branch_10 : decode cL_branch 10 = .ok (.goto 11, 3) := by decide +kernel
theorem dL_branch_13 : decode cL_branch 13 = .ok (.astore 4, 2) := by decide +kernel
theorem dL_branch_15 : decode cL_branch 15 = .ok (.iconst 1, 1) := by decide +kernel
theorem dL_branch_16 : decode cL_branch 16 = .ok (.ireturn, 1) := by decide +kernel
theorem dL_branch_21 : decode cL_branch 21 = .ok (.iconst 0, 1) := by decide +kernel
theorem dL_branch_22 : decode cL_branch 22 = .ok (.ireturn, 1) := by decide +kernel
theorem dL_finish_0 : decode cL_finish 0 = .ok (.aload_n 2, 1) := by decide +kernel
theorem dL_finish_1 : decode cL_finish 1 = .ok (.iconst 0, 1) := by decide +kernel
theorem dL_finish_2 : decode cL_finish 2 = .ok (.aload_n 0, 1) := by decide +kernel
theorem dL_finish_3 : decode cL_finish 3 = .ok (.iload_n 1, 1) := by decide +kernel
theorem dL_finish_4 : decode cL_finish 4 = .ok (.invokevirtual 48, 3) := by decide +kernel
theorem dL_finish_7 : decode cL_finish 7 = .ok (.i2l, 1) := by decide +kernel
theorem dL_finish_8 : decode cL_finish 8 = .ok (.lastore, 1) := by decide +kernel
theorem dL_finish_9 : decode cL_finish 9 = .ok (.goto 9, 3) := by decide +kernel
theorem dL_finish_12 : decode cL_finish 12 = .ok (.astore_n 3, 1) := by decide +kernel
theorem dL_finish_13 : decode cL_finish 13 = .ok (.iconst 1, 1) := by decide +kernel
theorem dL_finish_14 : decode cL_finish 14 = .ok (.ireturn, 1) := by decide +kernel
theorem dL_finish_18 : decode cL_finish 18 = .ok (.iconst 0, 1) := by decide +kernel
theorem dL_finish_19 : decode cL_finish 19 = .ok (.ireturn, 1) := by decide +kernel
theorem dL_setTarget_0 : decode cL_setTarget 0 = .ok (.aload_n 3, 1) := by decide +kernel
theorem dL_setTarget_1 : decode cL_setTarget 1 = .ok (.iconst 0, 1) := by decide +kernel
theorem dL_setTarget_2 : decode cL_setTarget 2 = .ok (.aload_n 0, 1) := by decide +kernel
theorem dL_setTarget_3 : decode cL_setTarget 3 = .ok (.iload_n 1, 1) := by decide +kernel
theorem dL_setTarget_4 : decode cL_setTarget 4 = .ok (.iload_n 2, 1) := by decide +kernel
theorem dL_setTarget_5 : decode cL_setTarget 5 = .ok (.invokevirtual 51, 3) := by decide +kernel
theorem dL_setTarget_13 : decode cL_setTarget 13 = .ok (.astore 4, 2) := by decide +kernel
theorem dL_setTarget_15 : decode cL_setTarget 15 = .ok (.iconst 1, 1) := by decide +kernel
theorem dL_setTarget_16 : decode cL_setTarget 16 = .ok (.ireturn, 1) := by decide +kernel
theorem dL_undo_0 : decode cL_undo 0 = .ok (.aload_n 1, 1) := by decide +kernel
theorem dL_undo_1 : decode cL_undo 1 = .ok (.iconst 0, 1) := by decide +kernel
theorem dL_undo_2 : decode cL_undo 2 = .ok (.aload_n 0, 1) := by decide +kernel
theorem dL_undo_3 : decode cL_undo 3 = .ok (.invokevirtual 54, 3) := by decide +kernel
theorem dL_undo_11 : decode cL_undo 11 = .ok (.astore_n 2, 1) := by decide +kernel
theorem dL_undo_12 : decode cL_undo 12 = .ok (.iconst 1, 1) := by decide +kernel
theorem dL_undo_13 : decode cL_undo 13 = .ok (.ireturn, 1) := by decide +kernel
theorem dL_codeOf_0 : decode cL_codeOf 0 = .ok (.aload_n 2, 1) := by decide +kernel
theorem dL_codeOf_1 : decode cL_codeOf 1 = .ok (.iconst 0, 1) := by decide +kernel
theorem dL_codeOf_2 : decode cL_codeOf 2 = .ok (.aload_n 0, 1) := by decide +kernel
theorem dL_codeOf_3 : decode cL_codeOf 3 = .ok (.iload_n 1, 1) := by decide +kernel
theorem dL_codeOf_4 : decode cL_codeOf 4 = .ok (.invokevirtual 58, 3) := by decide +kernel
theorem dL_codeOf_12 : decode cL_codeOf 12 = .ok (.astore_n 3, 1) := by decide +kernel
theorem dL_codeOf_13 : decode cL_codeOf 13 = .ok (.iconst 1, 1) := by decide +kernel
theorem dL_codeOf_14 : decode cL_codeOf 14 = .ok (.ireturn, 1) := by decide +kernel
theorem dL_isReached_0 : decode cL_isReached 0 = .ok (.aload_n 2, 1) := by decide +kernel
theorem dL_isReached_1 : decode cL_isReached 1 = .ok (.iconst 0, 1) := by decide +kernel
theorem dL_isReached_2 : decode cL_isReached 2 = .ok (.aload_n 0, 1) := by decide +kernel
theorem dL_isReached_3 : decode cL_isReached 3 = .ok (.iload_n 1, 1) := by decide +kernel
theorem dL_isReached_4 : decode cL_isReached 4 = .ok (.invokevirtual 61, 3) := by decide +kernel
theorem dL_isReached_19 : decode cL_isReached 19 = .ok (.astore_n 3, 1) := by decide +kernel
theorem dL_isReached_20 : decode cL_isReached 20 = .ok (.iconst 1, 1) := by decide +kernel
theorem dL_isReached_21 : decode cL_isReached 21 = .ok (.ireturn, 1) := by decide +kernel
theorem dL_canBe_0 : decode cL_canBe 0 = .ok (.aload 4, 2) := by decide +kernel
theorem dL_canBe_2 : decode cL_canBe 2 = .ok (.iconst 0, 1) := by decide +kernel
theorem dL_canBe_3 : decode cL_canBe 3 = .ok (.aload_n 0, 1) := by decide +kernel
theorem dL_canBe_4 : decode cL_canBe 4 = .ok (.iload_n 1, 1) := by decide +kernel
theorem dL_canBe_5 : decode cL_canBe 5 = .ok (.iload_n 2, 1) := by decide +kernel
theorem dL_canBe_6 : decode cL_canBe 6 = .ok (.iload_n 3, 1) := by decide +kernel
theorem dL_canBe_7 : decode cL_canBe 7 = .ok (.invokevirtual 65, 3) := by decide +kernel
theorem dL_canBe_15 : decode cL_canBe 15 = .ok (.astore 5, 2) := by decide +kernel
theorem dL_canBe_17 : decode cL_canBe 17 = .ok (.iconst 1, 1) := by decide +kernel
theorem dL_canBe_18 : decode cL_canBe 18 = .ok (.ireturn, 1) := by decide +kernel
theorem dL_holds_0 : decode cL_holds 0 = .ok (.aload_n 3, 1) := by decide +kernel
theorem dL_holds_1 : decode cL_holds 1 = .ok (.iconst 0, 1) := by decide +kernel
theorem dL_holds_2 : decode cL_holds 2 = .ok (.aload_n 0, 1) := by decide +kernel
theorem dL_holds_3 : decode cL_holds 3 = .ok (.iload_n 1, 1) := by decide +kernel
theorem dL_holds_4 : decode cL_holds 4 = .ok (.iload_n 2, 1) := by decide +kernel
theorem dL_holds_5 : decode cL_holds 5 = .ok (.invokevirtual 68, 3) := by decide +kernel
theorem dL_holds_13 : decode cL_holds 13 = .ok (.astore 4, 2) := by decide +kernel
theorem dL_holds_15 : decode cL_holds 15 = .ok (.iconst 1, 1) := by decide +kernel
theorem dL_holds_16 : decode cL_holds 16 = .ok (.ireturn, 1) := by decide +kernel
theorem dL_canHold_0 : decode cL_canHold 0 = .ok (.aload 4, 2) := by decide +kernel
theorem dL_canHold_2 : decode cL_canHold 2 = .ok (.iconst 0, 1) := by decide +kernel
theorem dL_canHold_3 : decode cL_canHold 3 = .ok (.aload_n 0, 1) := by decide +kernel
theorem dL_canHold_4 : decode cL_canHold 4 = .ok (.iload_n 1, 1) := by decide +kernel
theorem dL_canHold_5 : decode cL_canHold 5 = .ok (.iload_n 2, 1) := by decide +kernel
theorem dL_canHold_6 : decode cL_canHold 6 = .ok (.iload_n 3, 1) := by decide +kernel
theorem dL_canHold_7 : decode cL_canHold 7 = .ok (.invokevirtual 71, 3) := by decide +kernel
theorem dL_canHold_22 : decode cL_canHold 22 = .ok (.astore 5, 2) := by decide +kernel
theorem dL_canHold_24 : decode cL_canHold 24 = .ok (.iconst 1, 1) := by decide +kernel
theorem dL_canHold_25 : decode cL_canHold 25 = .ok (.ireturn, 1) := by decide +kernel
theorem dL_awaited_0 : decode cL_awaited 0 = .ok (.aload_n 2, 1) := by decide +kernel
theorem dL_awaited_1 : decode cL_awaited 1 = .ok (.iconst 0, 1) := by decide +kernel
theorem dL_awaited_2 : decode cL_awaited 2 = .ok (.aload_n 0, 1) := by decide +kernel
theorem dL_awaited_3 : decode cL_awaited 3 = .ok (.iload_n 1, 1) := by decide +kernel
theorem dL_awaited_4 : decode cL_awaited 4 = .ok (.invokevirtual 75, 3) := by decide +kernel
theorem dL_awaited_12 : decode cL_awaited 12 = .ok (.astore_n 3, 1) := by decide +kernel
theorem dL_awaited_13 : decode cL_awaited 13 = .ok (.iconst 1, 1) := by decide +kernel
theorem dL_awaited_14 : decode cL_awaited 14 = .ok (.ireturn, 1) := by decide +kernel
theorem dL_isLive_0 : decode cL_isLive 0 = .ok (.aload_n 3, 1) := by decide +kernel
theorem dL_isLive_1 : decode cL_isLive 1 = .ok (.iconst 0, 1) := by decide +kernel
theorem dL_isLive_2 : decode cL_isLive 2 = .ok (.aload_n 0, 1) := by decide +kernel
theorem dL_isLive_3 : decode cL_isLive 3 = .ok (.iload_n 1, 1) := by decide +kernel
theorem dL_isLive_4 : decode cL_isLive 4 = .ok (.iload_n 2, 1) := by decide +kernel
theorem dL_isLive_5 : decode cL_isLive 5 = .ok (.invokevirtual 78, 3) := by decide +kernel
theorem dL_isLive_20 : decode cL_isLive 20 = .ok (.astore 4, 2) := by decide +kernel
theorem dL_isLive_22 : decode cL_isLive 22 = .ok (.iconst 1, 1) := by decide +kernel
theorem dL_isLive_23 : decode cL_isLive 23 = .ok (.ireturn, 1) := by decide +kernel
theorem dL_ofFault_0 : decode cL_ofFault 0 = .ok (.aload_n 3, 1) := by decide +kernel
theorem dL_ofFault_1 : decode cL_ofFault 1 = .ok (.iconst 0, 1) := by decide +kernel
theorem dL_ofFault_2 : decode cL_ofFault 2 = .ok (.aload_n 0, 1) := by decide +kernel
theorem dL_ofFault_3 : decode cL_ofFault 3 = .ok (.iload_n 1, 1) := by decide +kernel
theorem dL_ofFault_4 : decode cL_ofFault 4 = .ok (.iload_n 2, 1) := by decide +kernel
theorem dL_ofFault_5 : decode cL_ofFault 5 = .ok (.invokevirtual 82, 3) := by decide +kernel
theorem dL_ofFault_13 : decode cL_ofFault 13 = .ok (.astore 4, 2) := by decide +kernel
theorem dL_ofFault_15 : decode cL_ofFault 15 = .ok (.iconst 1, 1) := by decide +kernel
theorem dL_ofFault_16 : decode cL_ofFault 16 = .ok (.ireturn, 1) := by decide +kernel
theorem dL_faultsAt_0 : decode cL_faultsAt 0 = .ok (.aload_n 2, 1) := by decide +kernel
theorem dL_faultsAt_1 : decode cL_faultsAt 1 = .ok (.iconst 0, 1) := by decide +kernel
theorem dL_faultsAt_2 : decode cL_faultsAt 2 = .ok (.aload_n 0, 1) := by decide +kernel
theorem dL_faultsAt_3 : decode cL_faultsAt 3 = .ok (.iload_n 1, 1) := by decide +kernel
theorem dL_faultsAt_4 : decode cL_faultsAt 4 = .ok (.invokevirtual 85, 3) := by decide +kernel
theorem dL_faultsAt_12 : decode cL_faultsAt 12 = .ok (.astore_n 3, 1) := by decide +kernel
theorem dL_faultsAt_13 : decode cL_faultsAt 13 = .ok (.iconst 1, 1) := by decide +kernel
theorem dL_faultsAt_14 : decode cL_faultsAt 14 = .ok (.ireturn, 1) := by decide +kernel
theorem dL_faultsOf_0 : decode cL_faultsOf 0 = .ok (.aload_n 2, 1) := by decide +kernel
theorem dL_faultsOf_1 : decode cL_faultsOf 1 = .ok (.iconst 0, 1) := by decide +kernel
theorem dL_faultsOf_2 : decode cL_faultsOf 2 = .ok (.aload_n 0, 1) := by decide +kernel
theorem dL_faultsOf_3 : decode cL_faultsOf 3 = .ok (.iload_n 1, 1) := by decide +kernel
theorem dL_faultsOf_4 : decode cL_faultsOf 4 = .ok (.invokevirtual 88, 3) := by decide +kernel
theorem dL_faultsOf_7 : decode cL_faultsOf 7 = .ok (.i2l, 1) := by decide +kernel
theorem dL_faultsOf_8 : decode cL_faultsOf 8 = .ok (.lastore, 1) := by decide +kernel
theorem dL_faultsOf_9 : decode cL_faultsOf 9 = .ok (.goto 6, 3) := by decide +kernel
theorem dL_faultsOf_12 : decode cL_faultsOf 12 = .ok (.astore_n 3, 1) := by decide +kernel
theorem dL_faultsOf_13 : decode cL_faultsOf 13 = .ok (.iconst 1, 1) := by decide +kernel
theorem dL_faultsOf_14 : decode cL_faultsOf 14 = .ok (.ireturn, 1) := by decide +kernel
theorem dL_faultsOf_15 : decode cL_faultsOf 15 = .ok (.iconst 0, 1) := by decide +kernel
theorem dL_faultsOf_16 : decode cL_faultsOf 16 = .ok (.ireturn, 1) := by decide +kernel
theorem dL_without_0 : decode cL_without 0 = .ok (.aload_n 2, 1) := by decide +kernel
theorem dL_without_1 : decode cL_without 1 = .ok (.iconst 0, 1) := by decide +kernel
theorem dL_without_2 : decode cL_without 2 = .ok (.aload_n 0, 1) := by decide +kernel
theorem dL_without_3 : decode cL_without 3 = .ok (.iload_n 1, 1) := by decide +kernel
theorem dL_without_4 : decode cL_without 4 = .ok (.invokevirtual 91, 3) := by decide +kernel
theorem dL_without_12 : decode cL_without 12 = .ok (.astore_n 3, 1) := by decide +kernel
theorem dL_without_13 : decode cL_without 13 = .ok (.iconst 1, 1) := by decide +kernel
theorem dL_without_14 : decode cL_without 14 = .ok (.ireturn, 1) := by decide +kernel
theorem dL_copied_0 : decode cL_copied 0 = .ok (.aload_n 2, 1) := by decide +kernel
theorem dL_copied_1 : decode cL_copied 1 = .ok (.iconst 0, 1) := by decide +kernel
theorem dL_copied_2 : decode cL_copied 2 = .ok (.aload_n 0, 1) := by decide +kernel
theorem dL_copied_3 : decode cL_copied 3 = .ok (.iload_n 1, 1) := by decide +kernel
theorem dL_copied_4 : decode cL_copied 4 = .ok (.invokevirtual 94, 3) := by decide +kernel
theorem dL_copied_12 : decode cL_copied 12 = .ok (.astore_n 3, 1) := by decide +kernel
theorem dL_copied_13 : decode cL_copied 13 = .ok (.iconst 1, 1) := by decide +kernel
theorem dL_copied_14 : decode cL_copied 14 = .ok (.ireturn, 1) := by decide +kernel
theorem dL_law_0 : decode cL_law 0 = .ok (.new 8, 3) := by decide +kernel
theorem dL_law_3 : decode cL_law 3 = .ok (.dup, 1) := by decide +kernel
theorem dL_law_4 : decode cL_law 4 = .ok (.invokespecial 97, 3) := by decide +kernel
theorem dL_law_7 : decode cL_law 7 = .ok (.astore_n 1, 1) := by decide +kernel
theorem dL_law_8 : decode cL_law 8 = .ok (.new 98, 3) := by decide +kernel
theorem dL_law_11 : decode cL_law 11 = .ok (.dup, 1) := by decide +kernel
theorem dL_law_12 : decode cL_law 12 = .ok (.invokespecial 100, 3) := by decide +kernel
theorem dL_law_15 : decode cL_law 15 = .ok (.astore_n 2, 1) := by decide +kernel
theorem dL_law_16 : decode cL_law 16 = .ok (.iconst 1, 1) := by decide +kernel
theorem dL_law_17 : decode cL_law 17 = .ok (.newarray .long, 2) := by decide +kernel
theorem dL_law_19 : decode cL_law 19 = .ok (.astore_n 3, 1) := by decide +kernel
theorem dL_law_20 : decode cL_law 20 = .ok (.iconst 0, 1) := by decide +kernel
theorem dL_law_21 : decode cL_law 21 = .ok (.istore 4, 2) := by decide +kernel
theorem dL_law_23 : decode cL_law 23 = .ok (.iload 4, 2) := by decide +kernel
theorem dL_law_25 : decode cL_law 25 = .ok (.aload_n 0, 1) := by decide +kernel
theorem dL_law_26 : decode cL_law 26 = .ok (.arraylength, 1) := by decide +kernel
theorem dL_law_27 : decode cL_law 27 = .ok (.iconst 5, 1) := by decide +kernel
theorem dL_law_28 : decode cL_law 28 = .ok (.isub, 1) := by decide +kernel
theorem dL_law_29 : decode cL_law 29 = .ok (.if_icmp .gt 1927, 3) := by decide +kernel
theorem dL_law_32 : decode cL_law 32 = .ok (.aload_n 0, 1) := by decide +kernel
theorem dL_law_33 : decode cL_law 33 = .ok (.iload 4, 2) := by decide +kernel
theorem dL_law_35 : decode cL_law 35 = .ok (.iaload, 1) := by decide +kernel
theorem dL_law_36 : decode cL_law 36 = .ok (.bipush 31, 2) := by decide +kernel
theorem dL_law_38 : decode cL_law 38 = .ok (.iand, 1) := by decide +kernel
theorem dL_law_39 : decode cL_law 39 = .ok (.tableswitch 1911 0 31 #[141, 225, 293, 373, 453, 521, 589, 645, 737, 821, 877, 945, 989, 1002, 1015, 1071, 1134, 1214, 1282, 1369, 1425, 1438, 1513, 1538, 1551, 1619, 1675, 1731, 1787, 1843, 1856, 1897], 141) := by decide +kernel
theorem dL_law_180 : decode cL_law 180 = .ok (.aload_n 1, 1) := by decide +kernel
theorem dL_law_181 : decode cL_law 181 = .ok (.aload_n 0, 1) := by decide +kernel
theorem dL_law_182 : decode cL_law 182 = .ok (.iload 4, 2) := by decide +kernel
theorem dL_law_184 : decode cL_law 184 = .ok (.iconst 1, 1) := by decide +kernel
theorem dL_law_185 : decode cL_law 185 = .ok (.iadd, 1) := by decide +kernel
theorem dL_law_186 : decode cL_law 186 = .ok (.iaload, 1) := by decide +kernel
theorem dL_law_187 : decode cL_law 187 = .ok (.aload_n 0, 1) := by decide +kernel
theorem dL_law_188 : decode cL_law 188 = .ok (.iload 4, 2) := by decide +kernel
theorem dL_law_190 : decode cL_law 190 = .ok (.iconst 2, 1) := by decide +kernel
theorem dL_law_191 : decode cL_law 191 = .ok (.iadd, 1) := by decide +kernel
theorem dL_law_192 : decode cL_law 192 = .ok (.iaload, 1) := by decide +kernel
theorem dL_law_193 : decode cL_law 193 = .ok (.ifCond .eq 7, 3) := by decide +kernel
theorem dL_law_196 : decode cL_law 196 = .ok (.iconst 1, 1) := by decide +kernel
theorem dL_law_197 : decode cL_law 197 = .ok (.goto 4, 3) := by decide +kernel
theorem dL_law_200 : decode cL_law 200 = .ok (.iconst 0, 1) := by decide +kernel
theorem dL_law_201 : decode cL_law 201 = .ok (.aload_n 3, 1) := by decide +kernel
theorem dL_law_202 : decode cL_law 202 = .ok (.invokestatic 101, 3) := by decide +kernel
theorem dL_law_205 : decode cL_law 205 = .ok (.istore 5, 2) := by decide +kernel
theorem dL_law_207 : decode cL_law 207 = .ok (.aload_n 2, 1) := by decide +kernel
theorem dL_law_208 : decode cL_law 208 = .ok (.aload_n 0, 1) := by decide +kernel
theorem dL_law_209 : decode cL_law 209 = .ok (.iload 4, 2) := by decide +kernel
theorem dL_law_211 : decode cL_law 211 = .ok (.iconst 1, 1) := by decide +kernel
theorem dL_law_212 : decode cL_law 212 = .ok (.iadd, 1) := by decide +kernel
theorem dL_law_213 : decode cL_law 213 = .ok (.iaload, 1) := by decide +kernel
theorem dL_law_214 : decode cL_law 214 = .ok (.aload_n 0, 1) := by decide +kernel
theorem dL_law_215 : decode cL_law 215 = .ok (.iload 4, 2) := by decide +kernel
theorem dL_law_217 : decode cL_law 217 = .ok (.iconst 2, 1) := by decide +kernel
theorem dL_law_218 : decode cL_law 218 = .ok (.iadd, 1) := by decide +kernel
theorem dL_law_219 : decode cL_law 219 = .ok (.iaload, 1) := by decide +kernel
theorem dL_law_220 : decode cL_law 220 = .ok (.ifCond .eq 7, 3) := by decide +kernel
theorem dL_law_223 : decode cL_law 223 = .ok (.iconst 1, 1) := by decide +kernel
theorem dL_law_224 : decode cL_law 224 = .ok (.goto 4, 3) := by decide +kernel
theorem dL_law_227 : decode cL_law 227 = .ok (.iconst 0, 1) := by decide +kernel
theorem dL_law_228 : decode cL_law 228 = .ok (.invokevirtual 106, 3) := by decide +kernel
theorem dL_law_231 : decode cL_law 231 = .ok (.istore 6, 2) := by decide +kernel
theorem dL_law_233 : decode cL_law 233 = .ok (.aload_n 2, 1) := by decide +kernel
theorem dL_law_234 : decode cL_law 234 = .ok (.invokevirtual 107, 3) := by decide +kernel
theorem dL_law_237 : decode cL_law 237 = .ok (.iload 5, 2) := by decide +kernel
theorem dL_law_239 : decode cL_law 239 = .ok (.if_icmp .eq 5, 3) := by decide +kernel
theorem dL_law_244 : decode cL_law 244 = .ok (.iload 5, 2) := by decide +kernel
theorem dL_law_246 : decode cL_law 246 = .ok (.ifCond .ne 15, 3) := by decide +kernel
theorem dL_law_249 : decode cL_law 249 = .ok (.aload_n 3, 1) := by decide +kernel
theorem dL_law_250 : decode cL_law 250 = .ok (.iconst 0, 1) := by decide +kernel
theorem dL_law_251 : decode cL_law 251 = .ok (.laload, 1) := by decide +kernel
theorem dL_law_252 : decode cL_law 252 = .ok (.iload 6, 2) := by decide +kernel
theorem dL_law_254 : decode cL_law 254 = .ok (.i2l, 1) := by decide +kernel
theorem dL_law_255 : decode cL_law 255 = .ok (.lcmp, 1) := by decide +kernel
theorem dL_law_256 : decode cL_law 256 = .ok (.ifCond .eq 5, 3) := by decide +kernel
theorem dL_law_261 : decode cL_law 261 = .ok (.goto 1689, 3) := by decide +kernel
theorem dL_law_264 : decode cL_law 264 = .ok (.aload_n 1, 1) := by decide +kernel
theorem dL_law_265 : decode cL_law 265 = .ok (.aload_n 0, 1) := by decide +kernel
theorem dL_law_266 : decode cL_law 266 = .ok (.iload 4, 2) := by decide +kernel
theorem dL_law_268 : decode cL_law 268 = .ok (.iconst 1, 1) := by decide +kernel
theorem dL_law_269 : decode cL_law 269 = .ok (.iadd, 1) := by decide +kernel
theorem dL_law_270 : decode cL_law 270 = .ok (.iaload, 1) := by decide +kernel
theorem dL_law_271 : decode cL_law 271 = .ok (.aload_n 0, 1) := by decide +kernel
theorem dL_law_272 : decode cL_law 272 = .ok (.iload 4, 2) := by decide +kernel
theorem dL_law_274 : decode cL_law 274 = .ok (.iconst 2, 1) := by decide +kernel
theorem dL_law_275 : decode cL_law 275 = .ok (.iadd, 1) := by decide +kernel
theorem dL_law_276 : decode cL_law 276 = .ok (.iaload, 1) := by decide +kernel
theorem dL_law_277 : decode cL_law 277 = .ok (.aload_n 3, 1) := by decide +kernel
theorem dL_law_278 : decode cL_law 278 = .ok (.invokestatic 110, 3) := by decide +kernel
theorem dL_law_281 : decode cL_law 281 = .ok (.istore 5, 2) := by decide +kernel
theorem dL_law_283 : decode cL_law 283 = .ok (.aload_n 2, 1) := by decide +kernel
theorem dL_law_284 : decode cL_law 284 = .ok (.aload_n 0, 1) := by decide +kernel
theorem dL_law_285 : decode cL_law 285 = .ok (.iload 4, 2) := by decide +kernel
theorem dL_law_287 : decode cL_law 287 = .ok (.iconst 1, 1) := by decide +kernel
theorem dL_law_288 : decode cL_law 288 = .ok (.iadd, 1) := by decide +kernel
theorem dL_law_289 : decode cL_law 289 = .ok (.iaload, 1) := by decide +kernel
theorem dL_law_290 : decode cL_law 290 = .ok (.aload_n 0, 1) := by decide +kernel
theorem dL_law_291 : decode cL_law 291 = .ok (.iload 4, 2) := by decide +kernel
theorem dL_law_293 : decode cL_law 293 = .ok (.iconst 2, 1) := by decide +kernel
theorem dL_law_294 : decode cL_law 294 = .ok (.iadd, 1) := by decide +kernel
theorem dL_law_295 : decode cL_law 295 = .ok (.iaload, 1) := by decide +kernel
theorem dL_law_296 : decode cL_law 296 = .ok (.invokevirtual 113, 3) := by decide +kernel
theorem dL_law_299 : decode cL_law 299 = .ok (.istore 6, 2) := by decide +kernel
theorem dL_law_301 : decode cL_law 301 = .ok (.aload_n 2, 1) := by decide +kernel
theorem dL_law_302 : decode cL_law 302 = .ok (.invokevirtual 107, 3) := by decide +kernel
theorem dL_law_305 : decode cL_law 305 = .ok (.iload 5, 2) := by decide +kernel
theorem dL_law_307 : decode cL_law 307 = .ok (.if_icmp .eq 5, 3) := by decide +kernel
theorem dL_law_312 : decode cL_law 312 = .ok (.iload 5, 2) := by decide +kernel
theorem dL_law_314 : decode cL_law 314 = .ok (.ifCond .ne 15, 3) := by decide +kernel
theorem dL_law_329 : decode cL_law 329 = .ok (.goto 1621, 3) := by decide +kernel
theorem dL_law_332 : decode cL_law 332 = .ok (.aload_n 1, 1) := by decide +kernel
theorem dL_law_333 : decode cL_law 333 = .ok (.aload_n 0, 1) := by decide +kernel
theorem dL_law_334 : decode cL_law 334 = .ok (.iload 4, 2) := by decide +kernel
theorem dL_law_336 : decode cL_law 336 = .ok (.iconst 1, 1) := by decide +kernel
theorem dL_law_337 : decode cL_law 337 = .ok (.iadd, 1) := by decide +kernel
theorem dL_law_338 : decode cL_law 338 = .ok (.iaload, 1) := by decide +kernel
theorem dL_law_339 : decode cL_law 339 = .ok (.aload_n 0, 1) := by decide +kernel
theorem dL_law_340 : decode cL_law 340 = .ok (.iload 4, 2) := by decide +kernel
theorem dL_law_342 : decode cL_law 342 = .ok (.iconst 2, 1) := by decide +kernel
theorem dL_law_343 : decode cL_law 343 = .ok (.iadd, 1) := by decide +kernel
theorem dL_law_344 : decode cL_law 344 = .ok (.iaload, 1) := by decide +kernel
theorem dL_law_345 : decode cL_law 345 = .ok (.aload_n 0, 1) := by decide +kernel
theorem dL_law_346 : decode cL_law 346 = .ok (.iload 4, 2) := by decide +kernel
theorem dL_law_348 : decode cL_law 348 = .ok (.iconst 3, 1) := by decide +kernel
theorem dL_law_349 : decode cL_law 349 = .ok (.iadd, 1) := by decide +kernel
theorem dL_law_350 : decode cL_law 350 = .ok (.iaload, 1) := by decide +kernel
theorem dL_law_351 : decode cL_law 351 = .ok (.aload_n 3, 1) := by decide +kernel
theorem dL_law_352 : decode cL_law 352 = .ok (.invokestatic 114, 3) := by decide +kernel
theorem dL_law_355 : decode cL_law 355 = .ok (.istore 5, 2) := by decide +kernel
theorem dL_law_357 : decode cL_law 357 = .ok (.aload_n 2, 1) := by decide +kernel
theorem dL_law_358 : decode cL_law 358 = .ok (.aload_n 0, 1) := by decide +kernel
theorem dL_law_359 : decode cL_law 359 = .ok (.iload 4, 2) := by decide +kernel
theorem dL_law_361 : decode cL_law 361 = .ok (.iconst 1, 1) := by decide +kernel
theorem dL_law_362 : decode cL_law 362 = .ok (.iadd, 1) := by decide +kernel
theorem dL_law_363 : decode cL_law 363 = .ok (.iaload, 1) := by decide +kernel
theorem dL_law_364 : decode cL_law 364 = .ok (.aload_n 0, 1) := by decide +kernel
theorem dL_law_365 : decode cL_law 365 = .ok (.iload 4, 2) := by decide +kernel
theorem dL_law_367 : decode cL_law 367 = .ok (.iconst 2, 1) := by decide +kernel
theorem dL_law_368 : decode cL_law 368 = .ok (.iadd, 1) := by decide +kernel
theorem dL_law_369 : decode cL_law 369 = .ok (.iaload, 1) := by decide +kernel
theorem dL_law_370 : decode cL_law 370 = .ok (.aload_n 0, 1) := by decide +kernel
theorem dL_law_371 : decode cL_law 371 = .ok (.iload 4, 2) := by decide +kernel
theorem dL_law_373 : decode cL_law 373 = .ok (.iconst 3, 1) := by decide +kernel
theorem dL_law_374 : decode cL_law 374 = .ok (.iadd, 1) := by decide +kernel
theorem dL_law_375 : decode cL_law 375 = .ok (.iaload, 1) := by decide +kernel
theorem dL_law_376 : decode cL_law 376 = .ok (.invokevirtual 117, 3) := by decide +kernel
theorem dL_law_379 : decode cL_law 379 = .ok (.istore 6, 2) := by decide +kernel
theorem dL_law_381 : decode cL_law 381 = .ok (.aload_n 2, 1) := by decide +kernel
theorem dL_law_382 : decode cL_law 382 = .ok (.invokevirtual 107, 3) := by decide +kernel
theorem dL_law_385 : decode cL_law 385 = .ok (.iload 5, 2) := by decide +kernel
theorem dL_law_387 : decode cL_law 387 = .ok (.if_icmp .eq 5, 3) := by decide +kernel
theorem dL_law_392 : decode cL_law 392 = .ok (.iload 5, 2) := by decide +kernel
theorem dL_law_394 : decode cL_law 394 = .ok (.ifCond .ne 15, 3) := by decide +kernel
theorem dL_law_409 : decode cL_law 409 = .ok (.goto 1541, 3) := by decide +kernel
theorem dL_law_412 : decode cL_law 412 = .ok (.aload_n 1, 1) := by decide +kernel
theorem dL_law_413 : decode cL_law 413 = .ok (.aload_n 0, 1) := by decide +kernel
theorem dL_law_414 : decode cL_law 414 = .ok (.iload 4, 2) := by decide +kernel
theorem dL_law_416 : decode cL_law 416 = .ok (.iconst 1, 1) := by decide +kernel
theorem dL_law_417 : decode cL_law 417 = .ok (.iadd, 1) := by decide +kernel
theorem dL_law_418 : decode cL_law 418 = .ok (.iaload, 1) := by decide +kernel
theorem dL_law_419 : decode cL_law 419 = .ok (.aload_n 0, 1) := by decide +kernel
theorem dL_law_420 : decode cL_law 420 = .ok (.iload 4, 2) := by decide +kernel
theorem dL_law_422 : decode cL_law 422 = .ok (.iconst 2, 1) := by decide +kernel
theorem dL_law_423 : decode cL_law 423 = .ok (.iadd, 1) := by decide +kernel
theorem dL_law_424 : decode cL_law 424 = .ok (.iaload, 1) := by decide +kernel
theorem dL_law_425 : decode cL_law 425 = .ok (.aload_n 0, 1) := by decide +kernel
theorem dL_law_426 : decode cL_law 426 = .ok (.iload 4, 2) := by decide +kernel
theorem dL_law_428 : decode cL_law 428 = .ok (.iconst 3, 1) := by decide +kernel
theorem dL_law_429 : decode cL_law 429 = .ok (.iadd, 1) := by decide +kernel
theorem dL_law_430 : decode cL_law 430 = .ok (.iaload, 1) := by decide +kernel
theorem dL_law_431 : decode cL_law 431 = .ok (.aload_n 3, 1) := by decide +kernel
theorem dL_law_432 : decode cL_law 432 = .ok (.invokestatic 118, 3) := by decide +kernel
theorem dL_law_435 : decode cL_law 435 = .ok (.istore 5, 2) := by decide +kernel
theorem dL_law_437 : decode cL_law 437 = .ok (.aload_n 2, 1) := by decide +kernel
theorem dL_law_438 : decode cL_law 438 = .ok (.aload_n 0, 1) := by decide +kernel
theorem dL_law_439 : decode cL_law 439 = .ok (.iload 4, 2) := by decide +kernel
theorem dL_law_441 : decode cL_law 441 = .ok (.iconst 1, 1) := by decide +kernel
theorem dL_law_442 : decode cL_law 442 = .ok (.iadd, 1) := by decide +kernel
theorem dL_law_443 : decode cL_law 443 = .ok (.iaload, 1) := by decide +kernel
theorem dL_law_444 : decode cL_law 444 = .ok (.aload_n 0, 1) := by decide +kernel
theorem dL_law_445 : decode cL_law 445 = .ok (.iload 4, 2) := by decide +kernel
theorem dL_law_447 : decode cL_law 447 = .ok (.iconst 2, 1) := by decide +kernel
theorem dL_law_448 : decode cL_law 448 = .ok (.iadd, 1) := by decide +kernel
theorem dL_law_449 : decode cL_law 449 = .ok (.iaload, 1) := by decide +kernel
theorem dL_law_450 : decode cL_law 450 = .ok (.aload_n 0, 1) := by decide +kernel
theorem dL_law_451 : decode cL_law 451 = .ok (.iload 4, 2) := by decide +kernel
theorem dL_law_453 : decode cL_law 453 = .ok (.iconst 3, 1) := by decide +kernel
theorem dL_law_454 : decode cL_law 454 = .ok (.iadd, 1) := by decide +kernel
theorem dL_law_455 : decode cL_law 455 = .ok (.iaload, 1) := by decide +kernel
theorem dL_law_456 : decode cL_law 456 = .ok (.invokevirtual 120, 3) := by decide +kernel
theorem dL_law_459 : decode cL_law 459 = .ok (.istore 6, 2) := by decide +kernel
theorem dL_law_461 : decode cL_law 461 = .ok (.aload_n 2, 1) := by decide +kernel
theorem dL_law_462 : decode cL_law 462 = .ok (.invokevirtual 107, 3) := by decide +kernel
theorem dL_law_465 : decode cL_law 465 = .ok (.iload 5, 2) := by decide +kernel
theorem dL_law_467 : decode cL_law 467 = .ok (.if_icmp .eq 5, 3) := by decide +kernel
theorem dL_law_472 : decode cL_law 472 = .ok (.iload 5, 2) := by decide +kernel
theorem dL_law_474 : decode cL_law 474 = .ok (.ifCond .ne 15, 3) := by decide +kernel
theorem dL_law_489 : decode cL_law 489 = .ok (.goto 1461, 3) := by decide +kernel
theorem dL_law_492 : decode cL_law 492 = .ok (.aload_n 1, 1) := by decide +kernel
theorem dL_law_493 : decode cL_law 493 = .ok (.aload_n 0, 1) := by decide +kernel
theorem dL_law_494 : decode cL_law 494 = .ok (.iload 4, 2) := by decide +kernel
theorem dL_law_496 : decode cL_law 496 = .ok (.iconst 1, 1) := by decide +kernel
theorem dL_law_497 : decode cL_law 497 = .ok (.iadd, 1) := by decide +kernel
theorem dL_law_498 : decode cL_law 498 = .ok (.iaload, 1) := by decide +kernel
theorem dL_law_499 : decode cL_law 499 = .ok (.aload_n 0, 1) := by decide +kernel
theorem dL_law_500 : decode cL_law 500 = .ok (.iload 4, 2) := by decide +kernel
theorem dL_law_502 : decode cL_law 502 = .ok (.iconst 2, 1) := by decide +kernel
theorem dL_law_503 : decode cL_law 503 = .ok (.iadd, 1) := by decide +kernel
theorem dL_law_504 : decode cL_law 504 = .ok (.iaload, 1) := by decide +kernel
theorem dL_law_505 : decode cL_law 505 = .ok (.aload_n 3, 1) := by decide +kernel
theorem dL_law_506 : decode cL_law 506 = .ok (.invokestatic 121, 3) := by decide +kernel
theorem dL_law_509 : decode cL_law 509 = .ok (.istore 5, 2) := by decide +kernel
theorem dL_law_511 : decode cL_law 511 = .ok (.aload_n 2, 1) := by decide +kernel
theorem dL_law_512 : decode cL_law 512 = .ok (.aload_n 0, 1) := by decide +kernel
theorem dL_law_513 : decode cL_law 513 = .ok (.iload 4, 2) := by decide +kernel
theorem dL_law_515 : decode cL_law 515 = .ok (.iconst 1, 1) := by decide +kernel
theorem dL_law_516 : decode cL_law 516 = .ok (.iadd, 1) := by decide +kernel
theorem dL_law_517 : decode cL_law 517 = .ok (.iaload, 1) := by decide +kernel
theorem dL_law_518 : decode cL_law 518 = .ok (.aload_n 0, 1) := by decide +kernel
theorem dL_law_519 : decode cL_law 519 = .ok (.iload 4, 2) := by decide +kernel
theorem dL_law_521 : decode cL_law 521 = .ok (.iconst 2, 1) := by decide +kernel
theorem dL_law_522 : decode cL_law 522 = .ok (.iadd, 1) := by decide +kernel
theorem dL_law_523 : decode cL_law 523 = .ok (.iaload, 1) := by decide +kernel
theorem dL_law_524 : decode cL_law 524 = .ok (.invokevirtual 123, 3) := by decide +kernel
theorem dL_law_527 : decode cL_law 527 = .ok (.istore 6, 2) := by decide +kernel
theorem dL_law_529 : decode cL_law 529 = .ok (.aload_n 2, 1) := by decide +kernel
theorem dL_law_530 : decode cL_law 530 = .ok (.invokevirtual 107, 3) := by decide +kernel
theorem dL_law_533 : decode cL_law 533 = .ok (.iload 5, 2) := by decide +kernel
theorem dL_law_535 : decode cL_law 535 = .ok (.if_icmp .eq 5, 3) := by decide +kernel
theorem dL_law_540 : decode cL_law 540 = .ok (.iload 5, 2) := by decide +kernel
theorem dL_law_542 : decode cL_law 542 = .ok (.ifCond .ne 15, 3) := by decide +kernel
theorem dL_law_557 : decode cL_law 557 = .ok (.goto 1393, 3) := by decide +kernel
theorem dL_law_560 : decode cL_law 560 = .ok (.aload_n 1, 1) := by decide +kernel
theorem dL_law_561 : decode cL_law 561 = .ok (.aload_n 0, 1) := by decide +kernel
theorem dL_law_562 : decode cL_law 562 = .ok (.iload 4, 2) := by decide +kernel
theorem dL_law_564 : decode cL_law 564 = .ok (.iconst 1, 1) := by decide +kernel
theorem dL_law_565 : decode cL_law 565 = .ok (.iadd, 1) := by decide +kernel
theorem dL_law_566 : decode cL_law 566 = .ok (.iaload, 1) := by decide +kernel
theorem dL_law_567 : decode cL_law 567 = .ok (.aload_n 0, 1) := by decide +kernel
theorem dL_law_568 : decode cL_law 568 = .ok (.iload 4, 2) := by decide +kernel
theorem dL_law_570 : decode cL_law 570 = .ok (.iconst 2, 1) := by decide +kernel
theorem dL_law_571 : decode cL_law 571 = .ok (.iadd, 1) := by decide +kernel
theorem dL_law_572 : decode cL_law 572 = .ok (.iaload, 1) := by decide +kernel
theorem dL_law_573 : decode cL_law 573 = .ok (.aload_n 3, 1) := by decide +kernel
theorem dL_law_574 : decode cL_law 574 = .ok (.invokestatic 124, 3) := by decide +kernel
theorem dL_law_577 : decode cL_law 577 = .ok (.istore 5, 2) := by decide +kernel
theorem dL_law_579 : decode cL_law 579 = .ok (.aload_n 2, 1) := by decide +kernel
theorem dL_law_580 : decode cL_law 580 = .ok (.aload_n 0, 1) := by decide +kernel
theorem dL_law_581 : decode cL_law 581 = .ok (.iload 4, 2) := by decide +kernel
theorem dL_law_583 : decode cL_law 583 = .ok (.iconst 1, 1) := by decide +kernel
theorem dL_law_584 : decode cL_law 584 = .ok (.iadd, 1) := by decide +kernel
theorem dL_law_585 : decode cL_law 585 = .ok (.iaload, 1) := by decide +kernel
theorem dL_law_586 : decode cL_law 586 = .ok (.aload_n 0, 1) := by decide +kernel
theorem dL_law_587 : decode cL_law 587 = .ok (.iload 4, 2) := by decide +kernel
theorem dL_law_589 : decode cL_law 589 = .ok (.iconst 2, 1) := by decide +kernel
theorem dL_law_590 : decode cL_law 590 = .ok (.iadd, 1) := by decide +kernel
theorem dL_law_591 : decode cL_law 591 = .ok (.iaload, 1) := by decide +kernel
theorem dL_law_592 : decode cL_law 592 = .ok (.invokevirtual 126, 3) := by decide +kernel
theorem dL_law_595 : decode cL_law 595 = .ok (.istore 6, 2) := by decide +kernel
theorem dL_law_597 : decode cL_law 597 = .ok (.aload_n 2, 1) := by decide +kernel
theorem dL_law_598 : decode cL_law 598 = .ok (.invokevirtual 107, 3) := by decide +kernel
theorem dL_law_601 : decode cL_law 601 = .ok (.iload 5, 2) := by decide +kernel
theorem dL_law_603 : decode cL_law 603 = .ok (.if_icmp .eq 5, 3) := by decide +kernel
theorem dL_law_608 : decode cL_law 608 = .ok (.iload 5, 2) := by decide +kernel
theorem dL_law_610 : decode cL_law 610 = .ok (.ifCond .ne 15, 3) := by decide +kernel
theorem dL_law_625 : decode cL_law 625 = .ok (.goto 1325, 3) := by decide +kernel
theorem dL_law_628 : decode cL_law 628 = .ok (.aload_n 1, 1) := by decide +kernel
theorem dL_law_629 : decode cL_law 629 = .ok (.aload_n 0, 1) := by decide +kernel
theorem dL_law_630 : decode cL_law 630 = .ok (.iload 4, 2) := by decide +kernel
theorem dL_law_632 : decode cL_law 632 = .ok (.iconst 1, 1) := by decide +kernel
theorem dL_law_633 : decode cL_law 633 = .ok (.iadd, 1) := by decide +kernel
theorem dL_law_634 : decode cL_law 634 = .ok (.iaload, 1) := by decide +kernel
theorem dL_law_635 : decode cL_law 635 = .ok (.aload_n 3, 1) := by decide +kernel
theorem dL_law_636 : decode cL_law 636 = .ok (.invokestatic 127, 3) := by decide +kernel
theorem dL_law_639 : decode cL_law 639 = .ok (.istore 5, 2) := by decide +kernel
theorem dL_law_641 : decode cL_law 641 = .ok (.aload_n 2, 1) := by decide +kernel
theorem dL_law_642 : decode cL_law 642 = .ok (.aload_n 0, 1) := by decide +kernel
theorem dL_law_643 : decode cL_law 643 = .ok (.iload 4, 2) := by decide +kernel
theorem dL_law_645 : decode cL_law 645 = .ok (.iconst 1, 1) := by decide +kernel
theorem dL_law_646 : decode cL_law 646 = .ok (.iadd, 1) := by decide +kernel
theorem dL_law_647 : decode cL_law 647 = .ok (.iaload, 1) := by decide +kernel
theorem dL_law_648 : decode cL_law 648 = .ok (.invokevirtual 130, 3) := by decide +kernel
theorem dL_law_651 : decode cL_law 651 = .ok (.istore 6, 2) := by decide +kernel
theorem dL_law_653 : decode cL_law 653 = .ok (.aload_n 2, 1) := by decide +kernel
theorem dL_law_654 : decode cL_law 654 = .ok (.invokevirtual 107, 3) := by decide +kernel
theorem dL_law_657 : decode cL_law 657 = .ok (.iload 5, 2) := by decide +kernel
theorem dL_law_659 : decode cL_law 659 = .ok (.if_icmp .eq 5, 3) := by decide +kernel
theorem dL_law_664 : decode cL_law 664 = .ok (.iload 5, 2) := by decide +kernel
theorem dL_law_666 : decode cL_law 666 = .ok (.ifCond .ne 15, 3) := by decide +kernel
theorem dL_law_681 : decode cL_law 681 = .ok (.goto 1269, 3) := by decide +kernel
theorem dL_law_684 : decode cL_law 684 = .ok (.aload_n 1, 1) := by decide +kernel
theorem dL_law_685 : decode cL_law 685 = .ok (.aload_n 0, 1) := by decide +kernel
theorem dL_law_686 : decode cL_law 686 = .ok (.iload 4, 2) := by decide +kernel
theorem dL_law_688 : decode cL_law 688 = .ok (.iconst 1, 1) := by decide +kernel
theorem dL_law_689 : decode cL_law 689 = .ok (.iadd, 1) := by decide +kernel
theorem dL_law_690 : decode cL_law 690 = .ok (.iaload, 1) := by decide +kernel
theorem dL_law_691 : decode cL_law 691 = .ok (.aload_n 0, 1) := by decide +kernel
theorem dL_law_692 : decode cL_law 692 = .ok (.iload 4, 2) := by decide +kernel
theorem dL_law_694 : decode cL_law 694 = .ok (.iconst 2, 1) := by decide +kernel
theorem dL_law_695 : decode cL_law 695 = .ok (.iadd, 1) := by decide +kernel
theorem dL_law_696 : decode cL_law 696 = .ok (.iaload, 1) := by decide +kernel
theorem dL_law_697 : decode cL_law 697 = .ok (.aload_n 0, 1) := by decide +kernel
theorem dL_law_698 : decode cL_law 698 = .ok (.iload 4, 2) := by decide +kernel
theorem dL_law_700 : decode cL_law 700 = .ok (.iconst 3, 1) := by decide +kernel
theorem dL_law_701 : decode cL_law 701 = .ok (.iadd, 1) := by decide +kernel
theorem dL_law_702 : decode cL_law 702 = .ok (.iaload, 1) := by decide +kernel
theorem dL_law_703 : decode cL_law 703 = .ok (.aload_n 0, 1) := by decide +kernel
theorem dL_law_704 : decode cL_law 704 = .ok (.iload 4, 2) := by decide +kernel
theorem dL_law_706 : decode cL_law 706 = .ok (.iconst 4, 1) := by decide +kernel
theorem dL_law_707 : decode cL_law 707 = .ok (.iadd, 1) := by decide +kernel
theorem dL_law_708 : decode cL_law 708 = .ok (.iaload, 1) := by decide +kernel
theorem dL_law_709 : decode cL_law 709 = .ok (.aload_n 3, 1) := by decide +kernel
theorem dL_law_710 : decode cL_law 710 = .ok (.invokestatic 131, 3) := by decide +kernel
theorem dL_law_713 : decode cL_law 713 = .ok (.istore 5, 2) := by decide +kernel
theorem dL_law_715 : decode cL_law 715 = .ok (.aload_n 2, 1) := by decide +kernel
theorem dL_law_716 : decode cL_law 716 = .ok (.aload_n 0, 1) := by decide +kernel
theorem dL_law_717 : decode cL_law 717 = .ok (.iload 4, 2) := by decide +kernel
theorem dL_law_719 : decode cL_law 719 = .ok (.iconst 1, 1) := by decide +kernel
theorem dL_law_720 : decode cL_law 720 = .ok (.iadd, 1) := by decide +kernel
theorem dL_law_721 : decode cL_law 721 = .ok (.iaload, 1) := by decide +kernel
theorem dL_law_722 : decode cL_law 722 = .ok (.aload_n 0, 1) := by decide +kernel
theorem dL_law_723 : decode cL_law 723 = .ok (.iload 4, 2) := by decide +kernel
theorem dL_law_725 : decode cL_law 725 = .ok (.iconst 2, 1) := by decide +kernel
theorem dL_law_726 : decode cL_law 726 = .ok (.iadd, 1) := by decide +kernel
theorem dL_law_727 : decode cL_law 727 = .ok (.iaload, 1) := by decide +kernel
theorem dL_law_728 : decode cL_law 728 = .ok (.aload_n 0, 1) := by decide +kernel
theorem dL_law_729 : decode cL_law 729 = .ok (.iload 4, 2) := by decide +kernel
theorem dL_law_731 : decode cL_law 731 = .ok (.iconst 3, 1) := by decide +kernel
theorem dL_law_732 : decode cL_law 732 = .ok (.iadd, 1) := by decide +kernel
theorem dL_law_733 : decode cL_law 733 = .ok (.iaload, 1) := by decide +kernel
theorem dL_law_734 : decode cL_law 734 = .ok (.aload_n 0, 1) := by decide +kernel
theorem dL_law_735 : decode cL_law 735 = .ok (.iload 4, 2) := by decide +kernel
theorem dL_law_737 : decode cL_law 737 = .ok (.iconst 4, 1) := by decide +kernel
theorem dL_law_738 : decode cL_law 738 = .ok (.iadd, 1) := by decide +kernel
theorem dL_law_739 : decode cL_law 739 = .ok (.iaload, 1) := by decide +kernel
theorem dL_law_740 : decode cL_law 740 = .ok (.invokevirtual 134, 3) := by decide +kernel
theorem dL_law_743 : decode cL_law 743 = .ok (.istore 6, 2) := by decide +kernel
theorem dL_law_745 : decode cL_law 745 = .ok (.aload_n 2, 1) := by decide +kernel
theorem dL_law_746 : decode cL_law 746 = .ok (.invokevirtual 107, 3) := by decide +kernel
theorem dL_law_749 : decode cL_law 749 = .ok (.iload 5, 2) := by decide +kernel
theorem dL_law_751 : decode cL_law 751 = .ok (.if_icmp .eq 5, 3) := by decide +kernel
theorem dL_law_756 : decode cL_law 756 = .ok (.iload 5, 2) := by decide +kernel
theorem dL_law_758 : decode cL_law 758 = .ok (.ifCond .ne 15, 3) := by decide +kernel
theorem dL_law_773 : decode cL_law 773 = .ok (.goto 1177, 3) := by decide +kernel
theorem dL_law_776 : decode cL_law 776 = .ok (.aload_n 1, 1) := by decide +kernel
theorem dL_law_777 : decode cL_law 777 = .ok (.aload_n 0, 1) := by decide +kernel
theorem dL_law_778 : decode cL_law 778 = .ok (.iload 4, 2) := by decide +kernel
theorem dL_law_780 : decode cL_law 780 = .ok (.iconst 1, 1) := by decide +kernel
theorem dL_law_781 : decode cL_law 781 = .ok (.iadd, 1) := by decide +kernel
theorem dL_law_782 : decode cL_law 782 = .ok (.iaload, 1) := by decide +kernel
theorem dL_law_783 : decode cL_law 783 = .ok (.ifCond .eq 7, 3) := by decide +kernel
theorem dL_law_786 : decode cL_law 786 = .ok (.iconst 1, 1) := by decide +kernel
theorem dL_law_787 : decode cL_law 787 = .ok (.goto 4, 3) := by decide +kernel
theorem dL_law_790 : decode cL_law 790 = .ok (.iconst 0, 1) := by decide +kernel
theorem dL_law_791 : decode cL_law 791 = .ok (.aload_n 0, 1) := by decide +kernel
theorem dL_law_792 : decode cL_law 792 = .ok (.iload 4, 2) := by decide +kernel
theorem dL_law_794 : decode cL_law 794 = .ok (.iconst 2, 1) := by decide +kernel
theorem dL_law_795 : decode cL_law 795 = .ok (.iadd, 1) := by decide +kernel
theorem dL_law_796 : decode cL_law 796 = .ok (.iaload, 1) := by decide +kernel
theorem dL_law_797 : decode cL_law 797 = .ok (.aload_n 3, 1) := by decide +kernel
theorem dL_law_798 : decode cL_law 798 = .ok (.invokestatic 135, 3) := by decide +kernel
theorem dL_law_801 : decode cL_law 801 = .ok (.istore 5, 2) := by decide +kernel
theorem dL_law_803 : decode cL_law 803 = .ok (.aload_n 2, 1) := by decide +kernel
theorem dL_law_804 : decode cL_law 804 = .ok (.aload_n 0, 1) := by decide +kernel
theorem dL_law_805 : decode cL_law 805 = .ok (.iload 4, 2) := by decide +kernel
theorem dL_law_807 : decode cL_law 807 = .ok (.iconst 1, 1) := by decide +kernel
theorem dL_law_808 : decode cL_law 808 = .ok (.iadd, 1) := by decide +kernel
theorem dL_law_809 : decode cL_law 809 = .ok (.iaload, 1) := by decide +kernel
theorem dL_law_810 : decode cL_law 810 = .ok (.ifCond .eq 7, 3) := by decide +kernel
theorem dL_law_813 : decode cL_law 813 = .ok (.iconst 1, 1) := by decide +kernel
theorem dL_law_814 : decode cL_law 814 = .ok (.goto 4, 3) := by decide +kernel
theorem dL_law_817 : decode cL_law 817 = .ok (.iconst 0, 1) := by decide +kernel
theorem dL_law_818 : decode cL_law 818 = .ok (.aload_n 0, 1) := by decide +kernel
theorem dL_law_819 : decode cL_law 819 = .ok (.iload 4, 2) := by decide +kernel
theorem dL_law_821 : decode cL_law 821 = .ok (.iconst 2, 1) := by decide +kernel
theorem dL_law_822 : decode cL_law 822 = .ok (.iadd, 1) := by decide +kernel
theorem dL_law_823 : decode cL_law 823 = .ok (.iaload, 1) := by decide +kernel
theorem dL_law_824 : decode cL_law 824 = .ok (.invokevirtual 138, 3) := by decide +kernel
theorem dL_law_827 : decode cL_law 827 = .ok (.istore 6, 2) := by decide +kernel
theorem dL_law_829 : decode cL_law 829 = .ok (.aload_n 2, 1) := by decide +kernel
theorem dL_law_830 : decode cL_law 830 = .ok (.invokevirtual 107, 3) := by decide +kernel
theorem dL_law_833 : decode cL_law 833 = .ok (.iload 5, 2) := by decide +kernel
theorem dL_law_835 : decode cL_law 835 = .ok (.if_icmp .eq 5, 3) := by decide +kernel
theorem dL_law_840 : decode cL_law 840 = .ok (.iload 5, 2) := by decide +kernel
theorem dL_law_842 : decode cL_law 842 = .ok (.ifCond .ne 15, 3) := by decide +kernel
theorem dL_law_845 : decode cL_law 845 = .ok (.aload_n 3, 1) := by decide +kernel
theorem dL_law_846 : decode cL_law 846 = .ok (.iconst 0, 1) := by decide +kernel
theorem dL_law_847 : decode cL_law 847 = .ok (.laload, 1) := by decide +kernel
theorem dL_law_848 : decode cL_law 848 = .ok (.iload 6, 2) := by decide +kernel
theorem dL_law_850 : decode cL_law 850 = .ok (.i2l, 1) := by decide +kernel
theorem dL_law_851 : decode cL_law 851 = .ok (.lcmp, 1) := by decide +kernel
theorem dL_law_852 : decode cL_law 852 = .ok (.ifCond .eq 5, 3) := by decide +kernel
theorem dL_law_857 : decode cL_law 857 = .ok (.goto 1093, 3) := by decide +kernel
theorem dL_law_860 : decode cL_law 860 = .ok (.aload_n 1, 1) := by decide +kernel
theorem dL_law_861 : decode cL_law 861 = .ok (.aload_n 0, 1) := by decide +kernel
theorem dL_law_862 : decode cL_law 862 = .ok (.iload 4, 2) := by decide +kernel
theorem dL_law_864 : decode cL_law 864 = .ok (.iconst 1, 1) := by decide +kernel
theorem dL_law_865 : decode cL_law 865 = .ok (.iadd, 1) := by decide +kernel
theorem dL_law_866 : decode cL_law 866 = .ok (.iaload, 1) := by decide +kernel
theorem dL_law_867 : decode cL_law 867 = .ok (.aload_n 3, 1) := by decide +kernel
theorem dL_law_868 : decode cL_law 868 = .ok (.invokestatic 139, 3) := by decide +kernel
theorem dL_law_871 : decode cL_law 871 = .ok (.istore 5, 2) := by decide +kernel
theorem dL_law_873 : decode cL_law 873 = .ok (.aload_n 2, 1) := by decide +kernel
theorem dL_law_874 : decode cL_law 874 = .ok (.aload_n 0, 1) := by decide +kernel
theorem dL_law_875 : decode cL_law 875 = .ok (.iload 4, 2) := by decide +kernel
theorem dL_law_877 : decode cL_law 877 = .ok (.iconst 1, 1) := by decide +kernel
theorem dL_law_878 : decode cL_law 878 = .ok (.iadd, 1) := by decide +kernel
theorem dL_law_879 : decode cL_law 879 = .ok (.iaload, 1) := by decide +kernel
theorem dL_law_880 : decode cL_law 880 = .ok (.invokevirtual 141, 3) := by decide +kernel
theorem dL_law_883 : decode cL_law 883 = .ok (.istore 6, 2) := by decide +kernel
theorem dL_law_885 : decode cL_law 885 = .ok (.aload_n 2, 1) := by decide +kernel
theorem dL_law_886 : decode cL_law 886 = .ok (.invokevirtual 107, 3) := by decide +kernel
theorem dL_law_889 : decode cL_law 889 = .ok (.iload 5, 2) := by decide +kernel
theorem dL_law_891 : decode cL_law 891 = .ok (.if_icmp .eq 5, 3) := by decide +kernel
theorem dL_law_896 : decode cL_law 896 = .ok (.iload 5, 2) := by decide +kernel
theorem dL_law_898 : decode cL_law 898 = .ok (.ifCond .ne 15, 3) := by decide +kernel
theorem dL_law_901 : decode cL_law 901 = .ok (.aload_n 3, 1) := by decide +kernel
theorem dL_law_902 : decode cL_law 902 = .ok (.iconst 0, 1) := by decide +kernel
theorem dL_law_903 : decode cL_law 903 = .ok (.laload, 1) := by decide +kernel
theorem dL_law_904 : decode cL_law 904 = .ok (.iload 6, 2) := by decide +kernel
theorem dL_law_906 : decode cL_law 906 = .ok (.i2l, 1) := by decide +kernel
theorem dL_law_907 : decode cL_law 907 = .ok (.lcmp, 1) := by decide +kernel
theorem dL_law_908 : decode cL_law 908 = .ok (.ifCond .eq 5, 3) := by decide +kernel
theorem dL_law_913 : decode cL_law 913 = .ok (.goto 1037, 3) := by decide +kernel
theorem dL_law_916 : decode cL_law 916 = .ok (.aload_n 1, 1) := by decide +kernel
theorem dL_law_917 : decode cL_law 917 = .ok (.aload_n 0, 1) := by decide +kernel
theorem dL_law_918 : decode cL_law 918 = .ok (.iload 4, 2) := by decide +kernel
theorem dL_law_920 : decode cL_law 920 = .ok (.iconst 1, 1) := by decide +kernel
theorem dL_law_921 : decode cL_law 921 = .ok (.iadd, 1) := by decide +kernel
theorem dL_law_922 : decode cL_law 922 = .ok (.iaload, 1) := by decide +kernel
theorem dL_law_923 : decode cL_law 923 = .ok (.aload_n 0, 1) := by decide +kernel
theorem dL_law_924 : decode cL_law 924 = .ok (.iload 4, 2) := by decide +kernel
theorem dL_law_926 : decode cL_law 926 = .ok (.iconst 2, 1) := by decide +kernel
theorem dL_law_927 : decode cL_law 927 = .ok (.iadd, 1) := by decide +kernel
theorem dL_law_928 : decode cL_law 928 = .ok (.iaload, 1) := by decide +kernel
theorem dL_law_929 : decode cL_law 929 = .ok (.aload_n 3, 1) := by decide +kernel
theorem dL_law_930 : decode cL_law 930 = .ok (.invokestatic 142, 3) := by decide +kernel
theorem dL_law_933 : decode cL_law 933 = .ok (.istore 5, 2) := by decide +kernel
theorem dL_law_935 : decode cL_law 935 = .ok (.aload_n 2, 1) := by decide +kernel
theorem dL_law_936 : decode cL_law 936 = .ok (.aload_n 0, 1) := by decide +kernel
theorem dL_law_937 : decode cL_law 937 = .ok (.iload 4, 2) := by decide +kernel
theorem dL_law_939 : decode cL_law 939 = .ok (.iconst 1, 1) := by decide +kernel
theorem dL_law_940 : decode cL_law 940 = .ok (.iadd, 1) := by decide +kernel
theorem dL_law_941 : decode cL_law 941 = .ok (.iaload, 1) := by decide +kernel
theorem dL_law_942 : decode cL_law 942 = .ok (.aload_n 0, 1) := by decide +kernel
theorem dL_law_943 : decode cL_law 943 = .ok (.iload 4, 2) := by decide +kernel
theorem dL_law_945 : decode cL_law 945 = .ok (.iconst 2, 1) := by decide +kernel
theorem dL_law_946 : decode cL_law 946 = .ok (.iadd, 1) := by decide +kernel
theorem dL_law_947 : decode cL_law 947 = .ok (.iaload, 1) := by decide +kernel
theorem dL_law_948 : decode cL_law 948 = .ok (.invokevirtual 144, 3) := by decide +kernel
theorem dL_law_951 : decode cL_law 951 = .ok (.istore 6, 2) := by decide +kernel
theorem dL_law_953 : decode cL_law 953 = .ok (.aload_n 2, 1) := by decide +kernel
theorem dL_law_954 : decode cL_law 954 = .ok (.invokevirtual 107, 3) := by decide +kernel
theorem dL_law_957 : decode cL_law 957 = .ok (.iload 5, 2) := by decide +kernel
theorem dL_law_959 : decode cL_law 959 = .ok (.if_icmp .eq 5, 3) := by decide +kernel
theorem dL_law_964 : decode cL_law 964 = .ok (.iload 5, 2) := by decide +kernel
theorem dL_law_966 : decode cL_law 966 = .ok (.ifCond .ne 15, 3) := by decide +kernel
theorem dL_law_981 : decode cL_law 981 = .ok (.goto 969, 3) := by decide +kernel
theorem dL_law_984 : decode cL_law 984 = .ok (.aload_n 1, 1) := by decide +kernel
theorem dL_law_985 : decode cL_law 985 = .ok (.aload_n 3, 1) := by decide +kernel
theorem dL_law_986 : decode cL_law 986 = .ok (.invokestatic 145, 3) := by decide +kernel
theorem dL_law_989 : decode cL_law 989 = .ok (.istore 5, 2) := by decide +kernel
theorem dL_law_991 : decode cL_law 991 = .ok (.aload_n 2, 1) := by decide +kernel
theorem dL_law_992 : decode cL_law 992 = .ok (.invokevirtual 148, 3) := by decide +kernel
theorem dL_law_995 : decode cL_law 995 = .ok (.istore 6, 2) := by decide +kernel
theorem dL_law_997 : decode cL_law 997 = .ok (.aload_n 2, 1) := by decide +kernel
theorem dL_law_998 : decode cL_law 998 = .ok (.invokevirtual 107, 3) := by decide +kernel
theorem dL_law_1001 : decode cL_law 1001 = .ok (.iload 5, 2) := by decide +kernel
theorem dL_law_1003 : decode cL_law 1003 = .ok (.if_icmp .eq 5, 3) := by decide +kernel
theorem dL_law_1008 : decode cL_law 1008 = .ok (.iload 5, 2) := by decide +kernel
theorem dL_law_1010 : decode cL_law 1010 = .ok (.ifCond .ne 15, 3) := by decide +kernel
theorem dL_law_1025 : decode cL_law 1025 = .ok (.goto 925, 3) := by decide +kernel
theorem dL_law_1028 : decode cL_law 1028 = .ok (.aload_n 1, 1) := by decide +kernel
theorem dL_law_1029 : decode cL_law 1029 = .ok (.invokevirtual 149, 3) := by decide +kernel
theorem dL_law_1032 : decode cL_law 1032 = .ok (.aload_n 2, 1) := by decide +kernel
theorem dL_law_1033 : decode cL_law 1033 = .ok (.invokevirtual 152, 3) := by decide +kernel
theorem dL_law_1036 : decode cL_law 1036 = .ok (.if_icmp .eq 914, 3) := by decide +kernel
theorem dL_law_1041 : decode cL_law 1041 = .ok (.aload_n 1, 1) := by decide +kernel
theorem dL_law_1042 : decode cL_law 1042 = .ok (.invokevirtual 153, 3) := by decide +kernel
theorem dL_law_1045 : decode cL_law 1045 = .ok (.aload_n 2, 1) := by decide +kernel
theorem dL_law_1046 : decode cL_law 1046 = .ok (.invokevirtual 156, 3) := by decide +kernel
theorem dL_law_1049 : decode cL_law 1049 = .ok (.if_icmp .eq 901, 3) := by decide +kernel
theorem dL_law_1054 : decode cL_law 1054 = .ok (.aload_n 1, 1) := by decide +kernel
theorem dL_law_1055 : decode cL_law 1055 = .ok (.aload_n 0, 1) := by decide +kernel
theorem dL_law_1056 : decode cL_law 1056 = .ok (.iload 4, 2) := by decide +kernel
theorem dL_law_1058 : decode cL_law 1058 = .ok (.iconst 1, 1) := by decide +kernel
theorem dL_law_1059 : decode cL_law 1059 = .ok (.iadd, 1) := by decide +kernel
theorem dL_law_1060 : decode cL_law 1060 = .ok (.iaload, 1) := by decide +kernel
theorem dL_law_1061 : decode cL_law 1061 = .ok (.aload_n 3, 1) := by decide +kernel
theorem dL_law_1062 : decode cL_law 1062 = .ok (.invokestatic 157, 3) := by decide +kernel
theorem dL_law_1065 : decode cL_law 1065 = .ok (.istore 5, 2) := by decide +kernel
theorem dL_law_1067 : decode cL_law 1067 = .ok (.aload_n 2, 1) := by decide +kernel
theorem dL_law_1068 : decode cL_law 1068 = .ok (.aload_n 0, 1) := by decide +kernel
theorem dL_law_1069 : decode cL_law 1069 = .ok (.iload 4, 2) := by decide +kernel
theorem dL_law_1071 : decode cL_law 1071 = .ok (.iconst 1, 1) := by decide +kernel
theorem dL_law_1072 : decode cL_law 1072 = .ok (.iadd, 1) := by decide +kernel
theorem dL_law_1073 : decode cL_law 1073 = .ok (.iaload, 1) := by decide +kernel
theorem dL_law_1074 : decode cL_law 1074 = .ok (.invokevirtual 159, 3) := by decide +kernel
theorem dL_law_1077 : decode cL_law 1077 = .ok (.istore 6, 2) := by decide +kernel
theorem dL_law_1079 : decode cL_law 1079 = .ok (.aload_n 2, 1) := by decide +kernel
theorem dL_law_1080 : decode cL_law 1080 = .ok (.invokevirtual 107, 3) := by decide +kernel
theorem dL_law_1083 : decode cL_law 1083 = .ok (.iload 5, 2) := by decide +kernel
theorem dL_law_1085 : decode cL_law 1085 = .ok (.if_icmp .eq 5, 3) := by decide +kernel
theorem dL_law_1090 : decode cL_law 1090 = .ok (.iload 5, 2) := by decide +kernel
theorem dL_law_1092 : decode cL_law 1092 = .ok (.ifCond .ne 15, 3) := by decide +kernel
theorem dL_law_1107 : decode cL_law 1107 = .ok (.goto 843, 3) := by decide +kernel
theorem dL_law_1110 : decode cL_law 1110 = .ok (.aload_n 1, 1) := by decide +kernel
theorem dL_law_1111 : decode cL_law 1111 = .ok (.aload_n 0, 1) := by decide +kernel
theorem dL_law_1112 : decode cL_law 1112 = .ok (.iload 4, 2) := by decide +kernel
theorem dL_law_1114 : decode cL_law 1114 = .ok (.iconst 1, 1) := by decide +kernel
theorem dL_law_1115 : decode cL_law 1115 = .ok (.iadd, 1) := by decide +kernel
theorem dL_law_1116 : decode cL_law 1116 = .ok (.iaload, 1) := by decide +kernel
theorem dL_law_1117 : decode cL_law 1117 = .ok (.aload_n 3, 1) := by decide +kernel
theorem dL_law_1118 : decode cL_law 1118 = .ok (.invokestatic 160, 3) := by decide +kernel
theorem dL_law_1121 : decode cL_law 1121 = .ok (.istore 5, 2) := by decide +kernel
theorem dL_law_1123 : decode cL_law 1123 = .ok (.aload_n 2, 1) := by decide +kernel
theorem dL_law_1124 : decode cL_law 1124 = .ok (.aload_n 0, 1) := by decide +kernel
theorem dL_law_1125 : decode cL_law 1125 = .ok (.iload 4, 2) := by decide +kernel
theorem dL_law_1127 : decode cL_law 1127 = .ok (.iconst 1, 1) := by decide +kernel
theorem dL_law_1128 : decode cL_law 1128 = .ok (.iadd, 1) := by decide +kernel
theorem dL_law_1129 : decode cL_law 1129 = .ok (.iaload, 1) := by decide +kernel
theorem dL_law_1130 : decode cL_law 1130 = .ok (.invokevirtual 162, 3) := by decide +kernel
theorem dL_law_1133 : decode cL_law 1133 = .ok (.istore 6, 2) := by decide +kernel
theorem dL_law_1135 : decode cL_law 1135 = .ok (.aload_n 2, 1) := by decide +kernel
theorem dL_law_1136 : decode cL_law 1136 = .ok (.invokevirtual 107, 3) := by decide +kernel
theorem dL_law_1139 : decode cL_law 1139 = .ok (.iload 5, 2) := by decide +kernel
theorem dL_law_1141 : decode cL_law 1141 = .ok (.if_icmp .eq 5, 3) := by decide +kernel
theorem dL_law_1146 : decode cL_law 1146 = .ok (.iload 5, 2) := by decide +kernel
theorem dL_law_1148 : decode cL_law 1148 = .ok (.ifCond .ne 22, 3) := by decide +kernel
theorem dL_law_1170 : decode cL_law 1170 = .ok (.goto 780, 3) := by decide +kernel
theorem dL_law_1173 : decode cL_law 1173 = .ok (.aload_n 1, 1) := by decide +kernel
theorem dL_law_1174 : decode cL_law 1174 = .ok (.aload_n 0, 1) := by decide +kernel
theorem dL_law_1175 : decode cL_law 1175 = .ok (.iload 4, 2) := by decide +kernel
theorem dL_law_1177 : decode cL_law 1177 = .ok (.iconst 1, 1) := by decide +kernel
theorem dL_law_1178 : decode cL_law 1178 = .ok (.iadd, 1) := by decide +kernel
theorem dL_law_1179 : decode cL_law 1179 = .ok (.iaload, 1) := by decide +kernel
theorem dL_law_1180 : decode cL_law 1180 = .ok (.aload_n 0, 1) := by decide +kernel
theorem dL_law_1181 : decode cL_law 1181 = .ok (.iload 4, 2) := by decide +kernel
theorem dL_law_1183 : decode cL_law 1183 = .ok (.iconst 2, 1) := by decide +kernel
theorem dL_law_1184 : decode cL_law 1184 = .ok (.iadd, 1) := by decide +kernel
theorem dL_law_1185 : decode cL_law 1185 = .ok (.iaload, 1) := by decide +kernel
theorem dL_law_1186 : decode cL_law 1186 = .ok (.aload_n 0, 1) := by decide +kernel
theorem dL_law_1187 : decode cL_law 1187 = .ok (.iload 4, 2) := by decide +kernel
theorem dL_law_1189 : decode cL_law 1189 = .ok (.iconst 3, 1) := by decide +kernel
theorem dL_law_1190 : decode cL_law 1190 = .ok (.iadd, 1) := by decide +kernel
theorem dL_law_1191 : decode cL_law 1191 = .ok (.iaload, 1) := by decide +kernel
theorem dL_law_1192 : decode cL_law 1192 = .ok (.aload_n 3, 1) := by decide +kernel
theorem dL_law_1193 : decode cL_law 1193 = .ok (.invokestatic 163, 3) := by decide +kernel
theorem dL_law_1196 : decode cL_law 1196 = .ok (.istore 5, 2) := by decide +kernel
theorem dL_law_1198 : decode cL_law 1198 = .ok (.aload_n 2, 1) := by decide +kernel
theorem dL_law_1199 : decode cL_law 1199 = .ok (.aload_n 0, 1) := by decide +kernel
theorem dL_law_1200 : decode cL_law 1200 = .ok (.iload 4, 2) := by decide +kernel
theorem dL_law_1202 : decode cL_law 1202 = .ok (.iconst 1, 1) := by decide +kernel
theorem dL_law_1203 : decode cL_law 1203 = .ok (.iadd, 1) := by decide +kernel
theorem dL_law_1204 : decode cL_law 1204 = .ok (.iaload, 1) := by decide +kernel
theorem dL_law_1205 : decode cL_law 1205 = .ok (.aload_n 0, 1) := by decide +kernel
theorem dL_law_1206 : decode cL_law 1206 = .ok (.iload 4, 2) := by decide +kernel
theorem dL_law_1208 : decode cL_law 1208 = .ok (.iconst 2, 1) := by decide +kernel
theorem dL_law_1209 : decode cL_law 1209 = .ok (.iadd, 1) := by decide +kernel
theorem dL_law_1210 : decode cL_law 1210 = .ok (.iaload, 1) := by decide +kernel
theorem dL_law_1211 : decode cL_law 1211 = .ok (.aload_n 0, 1) := by decide +kernel
theorem dL_law_1212 : decode cL_law 1212 = .ok (.iload 4, 2) := by decide +kernel
theorem dL_law_1214 : decode cL_law 1214 = .ok (.iconst 3, 1) := by decide +kernel
theorem dL_law_1215 : decode cL_law 1215 = .ok (.iadd, 1) := by decide +kernel
theorem dL_law_1216 : decode cL_law 1216 = .ok (.iaload, 1) := by decide +kernel
theorem dL_law_1217 : decode cL_law 1217 = .ok (.invokevirtual 165, 3) := by decide +kernel
theorem dL_law_1220 : decode cL_law 1220 = .ok (.istore 6, 2) := by decide +kernel
theorem dL_law_1222 : decode cL_law 1222 = .ok (.aload_n 2, 1) := by decide +kernel
theorem dL_law_1223 : decode cL_law 1223 = .ok (.invokevirtual 107, 3) := by decide +kernel
theorem dL_law_1226 : decode cL_law 1226 = .ok (.iload 5, 2) := by decide +kernel
theorem dL_law_1228 : decode cL_law 1228 = .ok (.if_icmp .eq 5, 3) := by decide +kernel
theorem dL_law_1233 : decode cL_law 1233 = .ok (.iload 5, 2) := by decide +kernel
theorem dL_law_1235 : decode cL_law 1235 = .ok (.ifCond .ne 15, 3) := by decide +kernel
theorem dL_law_1250 : decode cL_law 1250 = .ok (.goto 700, 3) := by decide +kernel
theorem dL_law_1253 : decode cL_law 1253 = .ok (.aload_n 1, 1) := by decide +kernel
theorem dL_law_1254 : decode cL_law 1254 = .ok (.aload_n 0, 1) := by decide +kernel
theorem dL_law_1255 : decode cL_law 1255 = .ok (.iload 4, 2) := by decide +kernel
theorem dL_law_1257 : decode cL_law 1257 = .ok (.iconst 1, 1) := by decide +kernel
theorem dL_law_1258 : decode cL_law 1258 = .ok (.iadd, 1) := by decide +kernel
theorem dL_law_1259 : decode cL_law 1259 = .ok (.iaload, 1) := by decide +kernel
theorem dL_law_1260 : decode cL_law 1260 = .ok (.aload_n 0, 1) := by decide +kernel
theorem dL_law_1261 : decode cL_law 1261 = .ok (.iload 4, 2) := by decide +kernel
theorem dL_law_1263 : decode cL_law 1263 = .ok (.iconst 2, 1) := by decide +kernel
theorem dL_law_1264 : decode cL_law 1264 = .ok (.iadd, 1) := by decide +kernel
theorem dL_law_1265 : decode cL_law 1265 = .ok (.iaload, 1) := by decide +kernel
theorem dL_law_1266 : decode cL_law 1266 = .ok (.aload_n 3, 1) := by decide +kernel
theorem dL_law_1267 : decode cL_law 1267 = .ok (.invokestatic 166, 3) := by decide +kernel
theorem dL_law_1270 : decode cL_law 1270 = .ok (.istore 5, 2) := by decide +kernel
theorem dL_law_1272 : decode cL_law 1272 = .ok (.aload_n 2, 1) := by decide +kernel
theorem dL_law_1273 : decode cL_law 1273 = .ok (.aload_n 0, 1) := by decide +kernel
theorem dL_law_1274 : decode cL_law 1274 = .ok (.iload 4, 2) := by decide +kernel
theorem dL_law_1276 : decode cL_law 1276 = .ok (.iconst 1, 1) := by decide +kernel
theorem dL_law_1277 : decode cL_law 1277 = .ok (.iadd, 1) := by decide +kernel
theorem dL_law_1278 : decode cL_law 1278 = .ok (.iaload, 1) := by decide +kernel
theorem dL_law_1279 : decode cL_law 1279 = .ok (.aload_n 0, 1) := by decide +kernel
theorem dL_law_1280 : decode cL_law 1280 = .ok (.iload 4, 2) := by decide +kernel
theorem dL_law_1282 : decode cL_law 1282 = .ok (.iconst 2, 1) := by decide +kernel
theorem dL_law_1283 : decode cL_law 1283 = .ok (.iadd, 1) := by decide +kernel
theorem dL_law_1284 : decode cL_law 1284 = .ok (.iaload, 1) := by decide +kernel
theorem dL_law_1285 : decode cL_law 1285 = .ok (.invokevirtual 168, 3) := by decide +kernel
theorem dL_law_1288 : decode cL_law 1288 = .ok (.istore 6, 2) := by decide +kernel
theorem dL_law_1290 : decode cL_law 1290 = .ok (.aload_n 2, 1) := by decide +kernel
theorem dL_law_1291 : decode cL_law 1291 = .ok (.invokevirtual 107, 3) := by decide +kernel
theorem dL_law_1294 : decode cL_law 1294 = .ok (.iload 5, 2) := by decide +kernel
theorem dL_law_1296 : decode cL_law 1296 = .ok (.if_icmp .eq 5, 3) := by decide +kernel
theorem dL_law_1301 : decode cL_law 1301 = .ok (.iload 5, 2) := by decide +kernel
theorem dL_law_1303 : decode cL_law 1303 = .ok (.ifCond .ne 15, 3) := by decide +kernel
theorem dL_law_1318 : decode cL_law 1318 = .ok (.goto 632, 3) := by decide +kernel
theorem dL_law_1321 : decode cL_law 1321 = .ok (.aload_n 1, 1) := by decide +kernel
theorem dL_law_1322 : decode cL_law 1322 = .ok (.aload_n 0, 1) := by decide +kernel
theorem dL_law_1323 : decode cL_law 1323 = .ok (.iload 4, 2) := by decide +kernel
theorem dL_law_1325 : decode cL_law 1325 = .ok (.iconst 1, 1) := by decide +kernel
theorem dL_law_1326 : decode cL_law 1326 = .ok (.iadd, 1) := by decide +kernel
theorem dL_law_1327 : decode cL_law 1327 = .ok (.iaload, 1) := by decide +kernel
theorem dL_law_1328 : decode cL_law 1328 = .ok (.aload_n 0, 1) := by decide +kernel
theorem dL_law_1329 : decode cL_law 1329 = .ok (.iload 4, 2) := by decide +kernel
theorem dL_law_1331 : decode cL_law 1331 = .ok (.iconst 2, 1) := by decide +kernel
theorem dL_law_1332 : decode cL_law 1332 = .ok (.iadd, 1) := by decide +kernel
theorem dL_law_1333 : decode cL_law 1333 = .ok (.iaload, 1) := by decide +kernel
theorem dL_law_1334 : decode cL_law 1334 = .ok (.aload_n 0, 1) := by decide +kernel
theorem dL_law_1335 : decode cL_law 1335 = .ok (.iload 4, 2) := by decide +kernel
theorem dL_law_1337 : decode cL_law 1337 = .ok (.iconst 3, 1) := by decide +kernel
theorem dL_law_1338 : decode cL_law 1338 = .ok (.iadd, 1) := by decide +kernel
theorem dL_law_1339 : decode cL_law 1339 = .ok (.iaload, 1) := by decide +kernel
theorem dL_law_1340 : decode cL_law 1340 = .ok (.aload_n 3, 1) := by decide +kernel
theorem dL_law_1341 : decode cL_law 1341 = .ok (.invokestatic 169, 3) := by decide +kernel
theorem dL_law_1344 : decode cL_law 1344 = .ok (.istore 5, 2) := by decide +kernel
theorem dL_law_1346 : decode cL_law 1346 = .ok (.aload_n 2, 1) := by decide +kernel
theorem dL_law_1347 : decode cL_law 1347 = .ok (.aload_n 0, 1) := by decide +kernel
theorem dL_law_1348 : decode cL_law 1348 = .ok (.iload 4, 2) := by decide +kernel
theorem dL_law_1350 : decode cL_law 1350 = .ok (.iconst 1, 1) := by decide +kernel
theorem dL_law_1351 : decode cL_law 1351 = .ok (.iadd, 1) := by decide +kernel
theorem dL_law_1352 : decode cL_law 1352 = .ok (.iaload, 1) := by decide +kernel
theorem dL_law_1353 : decode cL_law 1353 = .ok (.aload_n 0, 1) := by decide +kernel
theorem dL_law_1354 : decode cL_law 1354 = .ok (.iload 4, 2) := by decide +kernel
theorem dL_law_1356 : decode cL_law 1356 = .ok (.iconst 2, 1) := by decide +kernel
theorem dL_law_1357 : decode cL_law 1357 = .ok (.iadd, 1) := by decide +kernel
theorem dL_law_1358 : decode cL_law 1358 = .ok (.iaload, 1) := by decide +kernel
theorem dL_law_1359 : decode cL_law 1359 = .ok (.aload_n 0, 1) := by decide +kernel
theorem dL_law_1360 : decode cL_law 1360 = .ok (.iload 4, 2) := by decide +kernel
theorem dL_law_1362 : decode cL_law 1362 = .ok (.iconst 3, 1) := by decide +kernel
theorem dL_law_1363 : decode cL_law 1363 = .ok (.iadd, 1) := by decide +kernel
theorem dL_law_1364 : decode cL_law 1364 = .ok (.iaload, 1) := by decide +kernel
theorem dL_law_1365 : decode cL_law 1365 = .ok (.invokevirtual 171, 3) := by decide +kernel
theorem dL_law_1368 : decode cL_law 1368 = .ok (.istore 6, 2) := by decide +kernel
theorem dL_law_1370 : decode cL_law 1370 = .ok (.aload_n 2, 1) := by decide +kernel
theorem dL_law_1371 : decode cL_law 1371 = .ok (.invokevirtual 107, 3) := by decide +kernel
theorem dL_law_1374 : decode cL_law 1374 = .ok (.iload 5, 2) := by decide +kernel
theorem dL_law_1376 : decode cL_law 1376 = .ok (.if_icmp .eq 5, 3) := by decide +kernel
theorem dL_law_1381 : decode cL_law 1381 = .ok (.iload 5, 2) := by decide +kernel
theorem dL_law_1383 : decode cL_law 1383 = .ok (.ifCond .ne 22, 3) := by decide +kernel
theorem dL_law_1405 : decode cL_law 1405 = .ok (.goto 545, 3) := by decide +kernel
theorem dL_law_1408 : decode cL_law 1408 = .ok (.aload_n 1, 1) := by decide +kernel
theorem dL_law_1409 : decode cL_law 1409 = .ok (.aload_n 0, 1) := by decide +kernel
theorem dL_law_1410 : decode cL_law 1410 = .ok (.iload 4, 2) := by decide +kernel
theorem dL_law_1412 : decode cL_law 1412 = .ok (.iconst 1, 1) := by decide +kernel
theorem dL_law_1413 : decode cL_law 1413 = .ok (.iadd, 1) := by decide +kernel
theorem dL_law_1414 : decode cL_law 1414 = .ok (.iaload, 1) := by decide +kernel
theorem dL_law_1415 : decode cL_law 1415 = .ok (.aload_n 3, 1) := by decide +kernel
theorem dL_law_1416 : decode cL_law 1416 = .ok (.invokestatic 172, 3) := by decide +kernel
theorem dL_law_1419 : decode cL_law 1419 = .ok (.istore 5, 2) := by decide +kernel
theorem dL_law_1421 : decode cL_law 1421 = .ok (.aload_n 2, 1) := by decide +kernel
theorem dL_law_1422 : decode cL_law 1422 = .ok (.aload_n 0, 1) := by decide +kernel
theorem dL_law_1423 : decode cL_law 1423 = .ok (.iload 4, 2) := by decide +kernel
theorem dL_law_1425 : decode cL_law 1425 = .ok (.iconst 1, 1) := by decide +kernel
theorem dL_law_1426 : decode cL_law 1426 = .ok (.iadd, 1) := by decide +kernel
theorem dL_law_1427 : decode cL_law 1427 = .ok (.iaload, 1) := by decide +kernel
theorem dL_law_1428 : decode cL_law 1428 = .ok (.invokevirtual 174, 3) := by decide +kernel
theorem dL_law_1431 : decode cL_law 1431 = .ok (.istore 6, 2) := by decide +kernel
theorem dL_law_1433 : decode cL_law 1433 = .ok (.aload_n 2, 1) := by decide +kernel
theorem dL_law_1434 : decode cL_law 1434 = .ok (.invokevirtual 107, 3) := by decide +kernel
theorem dL_law_1437 : decode cL_law 1437 = .ok (.iload 5, 2) := by decide +kernel
theorem dL_law_1439 : decode cL_law 1439 = .ok (.if_icmp .eq 5, 3) := by decide +kernel
theorem dL_law_1444 : decode cL_law 1444 = .ok (.iload 5, 2) := by decide +kernel
theorem dL_law_1446 : decode cL_law 1446 = .ok (.ifCond .ne 15, 3) := by decide +kernel
theorem dL_law_1461 : decode cL_law 1461 = .ok (.goto 489, 3) := by decide +kernel
theorem dL_law_1464 : decode cL_law 1464 = .ok (.aload_n 1, 1) := by decide +kernel
theorem dL_law_1465 : decode cL_law 1465 = .ok (.invokevirtual 175, 3) := by decide +kernel
theorem dL_law_1468 : decode cL_law 1468 = .ok (.aload_n 2, 1) := by decide +kernel
theorem dL_law_1469 : decode cL_law 1469 = .ok (.invokevirtual 178, 3) := by decide +kernel
theorem dL_law_1472 : decode cL_law 1472 = .ok (.if_icmp .eq 478, 3) := by decide +kernel
theorem dL_law_1477 : decode cL_law 1477 = .ok (.aload_n 1, 1) := by decide +kernel
theorem dL_law_1478 : decode cL_law 1478 = .ok (.aload_n 0, 1) := by decide +kernel
theorem dL_law_1479 : decode cL_law 1479 = .ok (.iload 4, 2) := by decide +kernel
theorem dL_law_1481 : decode cL_law 1481 = .ok (.iconst 1, 1) := by decide +kernel
theorem dL_law_1482 : decode cL_law 1482 = .ok (.iadd, 1) := by decide +kernel
theorem dL_law_1483 : decode cL_law 1483 = .ok (.iaload, 1) := by decide +kernel
theorem dL_law_1484 : decode cL_law 1484 = .ok (.aload_n 0, 1) := by decide +kernel
theorem dL_law_1485 : decode cL_law 1485 = .ok (.iload 4, 2) := by decide +kernel
theorem dL_law_1487 : decode cL_law 1487 = .ok (.iconst 2, 1) := by decide +kernel
theorem dL_law_1488 : decode cL_law 1488 = .ok (.iadd, 1) := by decide +kernel
theorem dL_law_1489 : decode cL_law 1489 = .ok (.iaload, 1) := by decide +kernel
theorem dL_law_1490 : decode cL_law 1490 = .ok (.aload_n 3, 1) := by decide +kernel
theorem dL_law_1491 : decode cL_law 1491 = .ok (.invokestatic 179, 3) := by decide +kernel
theorem dL_law_1494 : decode cL_law 1494 = .ok (.istore 5, 2) := by decide +kernel
theorem dL_law_1496 : decode cL_law 1496 = .ok (.aload_n 2, 1) := by decide +kernel
theorem dL_law_1497 : decode cL_law 1497 = .ok (.aload_n 0, 1) := by decide +kernel
theorem dL_law_1498 : decode cL_law 1498 = .ok (.iload 4, 2) := by decide +kernel
theorem dL_law_1500 : decode cL_law 1500 = .ok (.iconst 1, 1) := by decide +kernel
theorem dL_law_1501 : decode cL_law 1501 = .ok (.iadd, 1) := by decide +kernel
theorem dL_law_1502 : decode cL_law 1502 = .ok (.iaload, 1) := by decide +kernel
theorem dL_law_1503 : decode cL_law 1503 = .ok (.aload_n 0, 1) := by decide +kernel
theorem dL_law_1504 : decode cL_law 1504 = .ok (.iload 4, 2) := by decide +kernel
theorem dL_law_1506 : decode cL_law 1506 = .ok (.iconst 2, 1) := by decide +kernel
theorem dL_law_1507 : decode cL_law 1507 = .ok (.iadd, 1) := by decide +kernel
theorem dL_law_1508 : decode cL_law 1508 = .ok (.iaload, 1) := by decide +kernel
theorem dL_law_1509 : decode cL_law 1509 = .ok (.invokevirtual 181, 3) := by decide +kernel
theorem dL_law_1512 : decode cL_law 1512 = .ok (.istore 6, 2) := by decide +kernel
theorem dL_law_1514 : decode cL_law 1514 = .ok (.aload_n 2, 1) := by decide +kernel
theorem dL_law_1515 : decode cL_law 1515 = .ok (.invokevirtual 107, 3) := by decide +kernel
theorem dL_law_1518 : decode cL_law 1518 = .ok (.iload 5, 2) := by decide +kernel
theorem dL_law_1520 : decode cL_law 1520 = .ok (.if_icmp .eq 5, 3) := by decide +kernel
theorem dL_law_1525 : decode cL_law 1525 = .ok (.iload 5, 2) := by decide +kernel
theorem dL_law_1527 : decode cL_law 1527 = .ok (.ifCond .ne 22, 3) := by decide +kernel
theorem dL_law_1549 : decode cL_law 1549 = .ok (.goto 401, 3) := by decide +kernel
theorem dL_law_1552 : decode cL_law 1552 = .ok (.aload_n 1, 1) := by decide +kernel
theorem dL_law_1553 : decode cL_law 1553 = .ok (.aload_n 0, 1) := by decide +kernel
theorem dL_law_1554 : decode cL_law 1554 = .ok (.iload 4, 2) := by decide +kernel
theorem dL_law_1556 : decode cL_law 1556 = .ok (.iconst 1, 1) := by decide +kernel
theorem dL_law_1557 : decode cL_law 1557 = .ok (.iadd, 1) := by decide +kernel
theorem dL_law_1558 : decode cL_law 1558 = .ok (.iaload, 1) := by decide +kernel
theorem dL_law_1559 : decode cL_law 1559 = .ok (.invokevirtual 182, 3) := by decide +kernel
theorem dL_law_1562 : decode cL_law 1562 = .ok (.aload_n 2, 1) := by decide +kernel
theorem dL_law_1563 : decode cL_law 1563 = .ok (.aload_n 0, 1) := by decide +kernel
theorem dL_law_1564 : decode cL_law 1564 = .ok (.iload 4, 2) := by decide +kernel
theorem dL_law_1566 : decode cL_law 1566 = .ok (.iconst 1, 1) := by decide +kernel
theorem dL_law_1567 : decode cL_law 1567 = .ok (.iadd, 1) := by decide +kernel
theorem dL_law_1568 : decode cL_law 1568 = .ok (.iaload, 1) := by decide +kernel
theorem dL_law_1569 : decode cL_law 1569 = .ok (.invokevirtual 185, 3) := by decide +kernel
theorem dL_law_1572 : decode cL_law 1572 = .ok (.if_icmp .eq 378, 3) := by decide +kernel
theorem dL_law_1577 : decode cL_law 1577 = .ok (.aload_n 1, 1) := by decide +kernel
theorem dL_law_1578 : decode cL_law 1578 = .ok (.invokevirtual 186, 3) := by decide +kernel
theorem dL_law_1581 : decode cL_law 1581 = .ok (.aload_n 2, 1) := by decide +kernel
theorem dL_law_1582 : decode cL_law 1582 = .ok (.invokevirtual 189, 3) := by decide +kernel
theorem dL_law_1585 : decode cL_law 1585 = .ok (.if_icmp .eq 365, 3) := by decide +kernel
theorem dL_law_1590 : decode cL_law 1590 = .ok (.aload_n 1, 1) := by decide +kernel
theorem dL_law_1591 : decode cL_law 1591 = .ok (.aload_n 0, 1) := by decide +kernel
theorem dL_law_1592 : decode cL_law 1592 = .ok (.iload 4, 2) := by decide +kernel
theorem dL_law_1594 : decode cL_law 1594 = .ok (.iconst 1, 1) := by decide +kernel
theorem dL_law_1595 : decode cL_law 1595 = .ok (.iadd, 1) := by decide +kernel
theorem dL_law_1596 : decode cL_law 1596 = .ok (.iaload, 1) := by decide +kernel
theorem dL_law_1597 : decode cL_law 1597 = .ok (.aload_n 0, 1) := by decide +kernel
theorem dL_law_1598 : decode cL_law 1598 = .ok (.iload 4, 2) := by decide +kernel
theorem dL_law_1600 : decode cL_law 1600 = .ok (.iconst 2, 1) := by decide +kernel
theorem dL_law_1601 : decode cL_law 1601 = .ok (.iadd, 1) := by decide +kernel
theorem dL_law_1602 : decode cL_law 1602 = .ok (.iaload, 1) := by decide +kernel
theorem dL_law_1603 : decode cL_law 1603 = .ok (.aload_n 3, 1) := by decide +kernel
theorem dL_law_1604 : decode cL_law 1604 = .ok (.invokestatic 190, 3) := by decide +kernel
theorem dL_law_1607 : decode cL_law 1607 = .ok (.istore 5, 2) := by decide +kernel
theorem dL_law_1609 : decode cL_law 1609 = .ok (.aload_n 2, 1) := by decide +kernel
theorem dL_law_1610 : decode cL_law 1610 = .ok (.aload_n 0, 1) := by decide +kernel
theorem dL_law_1611 : decode cL_law 1611 = .ok (.iload 4, 2) := by decide +kernel
theorem dL_law_1613 : decode cL_law 1613 = .ok (.iconst 1, 1) := by decide +kernel
theorem dL_law_1614 : decode cL_law 1614 = .ok (.iadd, 1) := by decide +kernel
theorem dL_law_1615 : decode cL_law 1615 = .ok (.iaload, 1) := by decide +kernel
theorem dL_law_1616 : decode cL_law 1616 = .ok (.aload_n 0, 1) := by decide +kernel
theorem dL_law_1617 : decode cL_law 1617 = .ok (.iload 4, 2) := by decide +kernel
theorem dL_law_1619 : decode cL_law 1619 = .ok (.iconst 2, 1) := by decide +kernel
theorem dL_law_1620 : decode cL_law 1620 = .ok (.iadd, 1) := by decide +kernel
theorem dL_law_1621 : decode cL_law 1621 = .ok (.iaload, 1) := by decide +kernel
theorem dL_law_1622 : decode cL_law 1622 = .ok (.invokevirtual 192, 3) := by decide +kernel
theorem dL_law_1625 : decode cL_law 1625 = .ok (.istore 6, 2) := by decide +kernel
theorem dL_law_1627 : decode cL_law 1627 = .ok (.aload_n 2, 1) := by decide +kernel
theorem dL_law_1628 : decode cL_law 1628 = .ok (.invokevirtual 107, 3) := by decide +kernel
theorem dL_law_1631 : decode cL_law 1631 = .ok (.iload 5, 2) := by decide +kernel
theorem dL_law_1633 : decode cL_law 1633 = .ok (.if_icmp .eq 5, 3) := by decide +kernel
theorem dL_law_1638 : decode cL_law 1638 = .ok (.iload 5, 2) := by decide +kernel
theorem dL_law_1640 : decode cL_law 1640 = .ok (.ifCond .ne 15, 3) := by decide +kernel
theorem dL_law_1655 : decode cL_law 1655 = .ok (.goto 295, 3) := by decide +kernel
theorem dL_law_1658 : decode cL_law 1658 = .ok (.aload_n 1, 1) := by decide +kernel
theorem dL_law_1659 : decode cL_law 1659 = .ok (.aload_n 0, 1) := by decide +kernel
theorem dL_law_1660 : decode cL_law 1660 = .ok (.iload 4, 2) := by decide +kernel
theorem dL_law_1662 : decode cL_law 1662 = .ok (.iconst 1, 1) := by decide +kernel
theorem dL_law_1663 : decode cL_law 1663 = .ok (.iadd, 1) := by decide +kernel
theorem dL_law_1664 : decode cL_law 1664 = .ok (.iaload, 1) := by decide +kernel
theorem dL_law_1665 : decode cL_law 1665 = .ok (.aload_n 3, 1) := by decide +kernel
theorem dL_law_1666 : decode cL_law 1666 = .ok (.invokestatic 193, 3) := by decide +kernel
theorem dL_law_1669 : decode cL_law 1669 = .ok (.istore 5, 2) := by decide +kernel
theorem dL_law_1671 : decode cL_law 1671 = .ok (.aload_n 2, 1) := by decide +kernel
theorem dL_law_1672 : decode cL_law 1672 = .ok (.aload_n 0, 1) := by decide +kernel
theorem dL_law_1673 : decode cL_law 1673 = .ok (.iload 4, 2) := by decide +kernel
theorem dL_law_1675 : decode cL_law 1675 = .ok (.iconst 1, 1) := by decide +kernel
theorem dL_law_1676 : decode cL_law 1676 = .ok (.iadd, 1) := by decide +kernel
theorem dL_law_1677 : decode cL_law 1677 = .ok (.iaload, 1) := by decide +kernel
theorem dL_law_1678 : decode cL_law 1678 = .ok (.invokevirtual 195, 3) := by decide +kernel
theorem dL_law_1681 : decode cL_law 1681 = .ok (.istore 6, 2) := by decide +kernel
theorem dL_law_1683 : decode cL_law 1683 = .ok (.aload_n 2, 1) := by decide +kernel
theorem dL_law_1684 : decode cL_law 1684 = .ok (.invokevirtual 107, 3) := by decide +kernel
theorem dL_law_1687 : decode cL_law 1687 = .ok (.iload 5, 2) := by decide +kernel
theorem dL_law_1689 : decode cL_law 1689 = .ok (.if_icmp .eq 5, 3) := by decide +kernel
theorem dL_law_1694 : decode cL_law 1694 = .ok (.iload 5, 2) := by decide +kernel
theorem dL_law_1696 : decode cL_law 1696 = .ok (.ifCond .ne 15, 3) := by decide +kernel
theorem dL_law_1711 : decode cL_law 1711 = .ok (.goto 239, 3) := by decide +kernel
theorem dL_law_1714 : decode cL_law 1714 = .ok (.aload_n 1, 1) := by decide +kernel
theorem dL_law_1715 : decode cL_law 1715 = .ok (.aload_n 0, 1) := by decide +kernel
theorem dL_law_1716 : decode cL_law 1716 = .ok (.iload 4, 2) := by decide +kernel
theorem dL_law_1718 : decode cL_law 1718 = .ok (.iconst 1, 1) := by decide +kernel
theorem dL_law_1719 : decode cL_law 1719 = .ok (.iadd, 1) := by decide +kernel
theorem dL_law_1720 : decode cL_law 1720 = .ok (.iaload, 1) := by decide +kernel
theorem dL_law_1721 : decode cL_law 1721 = .ok (.aload_n 3, 1) := by decide +kernel
theorem dL_law_1722 : decode cL_law 1722 = .ok (.invokestatic 196, 3) := by decide +kernel
theorem dL_law_1725 : decode cL_law 1725 = .ok (.istore 5, 2) := by decide +kernel
theorem dL_law_1727 : decode cL_law 1727 = .ok (.aload_n 2, 1) := by decide +kernel
theorem dL_law_1728 : decode cL_law 1728 = .ok (.aload_n 0, 1) := by decide +kernel
theorem dL_law_1729 : decode cL_law 1729 = .ok (.iload 4, 2) := by decide +kernel
theorem dL_law_1731 : decode cL_law 1731 = .ok (.iconst 1, 1) := by decide +kernel
theorem dL_law_1732 : decode cL_law 1732 = .ok (.iadd, 1) := by decide +kernel
theorem dL_law_1733 : decode cL_law 1733 = .ok (.iaload, 1) := by decide +kernel
theorem dL_law_1734 : decode cL_law 1734 = .ok (.invokevirtual 198, 3) := by decide +kernel
theorem dL_law_1737 : decode cL_law 1737 = .ok (.istore 6, 2) := by decide +kernel
theorem dL_law_1739 : decode cL_law 1739 = .ok (.aload_n 2, 1) := by decide +kernel
theorem dL_law_1740 : decode cL_law 1740 = .ok (.invokevirtual 107, 3) := by decide +kernel
theorem dL_law_1743 : decode cL_law 1743 = .ok (.iload 5, 2) := by decide +kernel
theorem dL_law_1745 : decode cL_law 1745 = .ok (.if_icmp .eq 5, 3) := by decide +kernel
theorem dL_law_1750 : decode cL_law 1750 = .ok (.iload 5, 2) := by decide +kernel
theorem dL_law_1752 : decode cL_law 1752 = .ok (.ifCond .ne 15, 3) := by decide +kernel
theorem dL_law_1755 : decode cL_law 1755 = .ok (.aload_n 3, 1) := by decide +kernel
theorem dL_law_1756 : decode cL_law 1756 = .ok (.iconst 0, 1) := by decide +kernel
theorem dL_law_1757 : decode cL_law 1757 = .ok (.laload, 1) := by decide +kernel
theorem dL_law_1758 : decode cL_law 1758 = .ok (.iload 6, 2) := by decide +kernel
theorem dL_law_1760 : decode cL_law 1760 = .ok (.i2l, 1) := by decide +kernel
theorem dL_law_1761 : decode cL_law 1761 = .ok (.lcmp, 1) := by decide +kernel
theorem dL_law_1762 : decode cL_law 1762 = .ok (.ifCond .eq 5, 3) := by decide +kernel
theorem dL_law_1767 : decode cL_law 1767 = .ok (.goto 183, 3) := by decide +kernel
theorem dL_law_1770 : decode cL_law 1770 = .ok (.aload_n 1, 1) := by decide +kernel
theorem dL_law_1771 : decode cL_law 1771 = .ok (.aload_n 0, 1) := by decide +kernel
theorem dL_law_1772 : decode cL_law 1772 = .ok (.iload 4, 2) := by decide +kernel
theorem dL_law_1774 : decode cL_law 1774 = .ok (.iconst 1, 1) := by decide +kernel
theorem dL_law_1775 : decode cL_law 1775 = .ok (.iadd, 1) := by decide +kernel
theorem dL_law_1776 : decode cL_law 1776 = .ok (.iaload, 1) := by decide +kernel
theorem dL_law_1777 : decode cL_law 1777 = .ok (.aload_n 3, 1) := by decide +kernel
theorem dL_law_1778 : decode cL_law 1778 = .ok (.invokestatic 199, 3) := by decide +kernel
theorem dL_law_1781 : decode cL_law 1781 = .ok (.istore 5, 2) := by decide +kernel
theorem dL_law_1783 : decode cL_law 1783 = .ok (.aload_n 2, 1) := by decide +kernel
theorem dL_law_1784 : decode cL_law 1784 = .ok (.aload_n 0, 1) := by decide +kernel
theorem dL_law_1785 : decode cL_law 1785 = .ok (.iload 4, 2) := by decide +kernel
theorem dL_law_1787 : decode cL_law 1787 = .ok (.iconst 1, 1) := by decide +kernel
theorem dL_law_1788 : decode cL_law 1788 = .ok (.iadd, 1) := by decide +kernel
theorem dL_law_1789 : decode cL_law 1789 = .ok (.iaload, 1) := by decide +kernel
theorem dL_law_1790 : decode cL_law 1790 = .ok (.invokevirtual 201, 3) := by decide +kernel
theorem dL_law_1793 : decode cL_law 1793 = .ok (.istore 6, 2) := by decide +kernel
theorem dL_law_1795 : decode cL_law 1795 = .ok (.aload_n 2, 1) := by decide +kernel
theorem dL_law_1796 : decode cL_law 1796 = .ok (.invokevirtual 107, 3) := by decide +kernel
theorem dL_law_1799 : decode cL_law 1799 = .ok (.iload 5, 2) := by decide +kernel
theorem dL_law_1801 : decode cL_law 1801 = .ok (.if_icmp .eq 5, 3) := by decide +kernel
theorem dL_law_1806 : decode cL_law 1806 = .ok (.iload 5, 2) := by decide +kernel
theorem dL_law_1808 : decode cL_law 1808 = .ok (.ifCond .ne 15, 3) := by decide +kernel
theorem dL_law_1823 : decode cL_law 1823 = .ok (.goto 127, 3) := by decide +kernel
theorem dL_law_1826 : decode cL_law 1826 = .ok (.aload_n 1, 1) := by decide +kernel
theorem dL_law_1827 : decode cL_law 1827 = .ok (.aload_n 0, 1) := by decide +kernel
theorem dL_law_1828 : decode cL_law 1828 = .ok (.iload 4, 2) := by decide +kernel
theorem dL_law_1830 : decode cL_law 1830 = .ok (.iconst 1, 1) := by decide +kernel
theorem dL_law_1831 : decode cL_law 1831 = .ok (.iadd, 1) := by decide +kernel
theorem dL_law_1832 : decode cL_law 1832 = .ok (.iaload, 1) := by decide +kernel
theorem dL_law_1833 : decode cL_law 1833 = .ok (.aload_n 3, 1) := by decide +kernel
theorem dL_law_1834 : decode cL_law 1834 = .ok (.invokestatic 202, 3) := by decide +kernel
theorem dL_law_1837 : decode cL_law 1837 = .ok (.istore 5, 2) := by decide +kernel
theorem dL_law_1839 : decode cL_law 1839 = .ok (.aload_n 2, 1) := by decide +kernel
theorem dL_law_1840 : decode cL_law 1840 = .ok (.aload_n 0, 1) := by decide +kernel
theorem dL_law_1841 : decode cL_law 1841 = .ok (.iload 4, 2) := by decide +kernel
theorem dL_law_1843 : decode cL_law 1843 = .ok (.iconst 1, 1) := by decide +kernel
theorem dL_law_1844 : decode cL_law 1844 = .ok (.iadd, 1) := by decide +kernel
theorem dL_law_1845 : decode cL_law 1845 = .ok (.iaload, 1) := by decide +kernel
theorem dL_law_1846 : decode cL_law 1846 = .ok (.invokevirtual 204, 3) := by decide +kernel
theorem dL_law_1849 : decode cL_law 1849 = .ok (.istore 6, 2) := by decide +kernel
theorem dL_law_1851 : decode cL_law 1851 = .ok (.aload_n 2, 1) := by decide +kernel
theorem dL_law_1852 : decode cL_law 1852 = .ok (.invokevirtual 107, 3) := by decide +kernel
theorem dL_law_1855 : decode cL_law 1855 = .ok (.iload 5, 2) := by decide +kernel
theorem dL_law_1857 : decode cL_law 1857 = .ok (.if_icmp .eq 5, 3) := by decide +kernel
theorem dL_law_1862 : decode cL_law 1862 = .ok (.iload 5, 2) := by decide +kernel
theorem dL_law_1864 : decode cL_law 1864 = .ok (.ifCond .ne 15, 3) := by decide +kernel
theorem dL_law_1879 : decode cL_law 1879 = .ok (.goto 71, 3) := by decide +kernel
theorem dL_law_1882 : decode cL_law 1882 = .ok (.aload_n 1, 1) := by decide +kernel
theorem dL_law_1883 : decode cL_law 1883 = .ok (.invokevirtual 205, 3) := by decide +kernel
theorem dL_law_1886 : decode cL_law 1886 = .ok (.aload_n 2, 1) := by decide +kernel
theorem dL_law_1887 : decode cL_law 1887 = .ok (.invokevirtual 208, 3) := by decide +kernel
theorem dL_law_1890 : decode cL_law 1890 = .ok (.if_icmp .eq 60, 3) := by decide +kernel
theorem dL_law_1895 : decode cL_law 1895 = .ok (.aload_n 1, 1) := by decide +kernel
theorem dL_law_1896 : decode cL_law 1896 = .ok (.invokevirtual 209, 3) := by decide +kernel
theorem dL_law_1899 : decode cL_law 1899 = .ok (.dstore 5, 2) := by decide +kernel
theorem dL_law_1901 : decode cL_law 1901 = .ok (.aload_n 2, 1) := by decide +kernel
theorem dL_law_1902 : decode cL_law 1902 = .ok (.invokevirtual 213, 3) := by decide +kernel
theorem dL_law_1905 : decode cL_law 1905 = .ok (.dstore 7, 2) := by decide +kernel
theorem dL_law_1907 : decode cL_law 1907 = .ok (.dload 5, 2) := by decide +kernel
theorem dL_law_1909 : decode cL_law 1909 = .ok (.dload 7, 2) := by decide +kernel
theorem dL_law_1911 : decode cL_law 1911 = .ok (.dcmp .l, 1) := by decide +kernel
theorem dL_law_1912 : decode cL_law 1912 = .ok (.ifCond .eq 21, 3) := by decide +kernel
theorem dL_law_1933 : decode cL_law 1933 = .ok (.goto 17, 3) := by decide +kernel
theorem dL_law_1936 : decode cL_law 1936 = .ok (.aload_n 1, 1) := by decide +kernel
theorem dL_law_1937 : decode cL_law 1937 = .ok (.invokevirtual 214, 3) := by decide +kernel
theorem dL_law_1940 : decode cL_law 1940 = .ok (.aload_n 2, 1) := by decide +kernel
theorem dL_law_1941 : decode cL_law 1941 = .ok (.invokevirtual 218, 3) := by decide +kernel
theorem dL_law_1944 : decode cL_law 1944 = .ok (.lcmp, 1) := by decide +kernel
theorem dL_law_1945 : decode cL_law 1945 = .ok (.ifCond .eq 5, 3) := by decide +kernel
theorem dL_law_1950 : decode cL_law 1950 = .ok (.iinc 4 5, 3) := by decide +kernel
theorem dL_law_1953 : decode cL_law 1953 = .ok (.goto (-1930), 3) := by decide +kernel
theorem dL_law_1956 : decode cL_law 1956 = .ok (.iconst 1, 1) := by decide +kernel
theorem dL_law_1957 : decode cL_law 1957 = .ok (.ireturn, 1) := by decide +kernel
